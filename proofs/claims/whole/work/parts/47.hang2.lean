section Hang2
variable {n : Nat} {Post : PT} {S : Sh} {I : CI} {R : CR} {A : Nat → Int} {tx : Nat → Nat → Int}
/-- the row of waysUpTo while the set t is at its quarrel k -/
def utK (ft : Nat → Nat) (H t k s : Nat) : Int := if s = 0 then 1 else if bcN s ≤ H then sg (fun i => if (s.testBit i = true ∧ (ft (bcN s - 1)).testBit i = true) ∧ (s - 2 ^ i < t ∨ (s - 2 ^ i = t ∧ i < k)) then wuA ft (s - 2 ^ i) else 0) 8 else 0
theorem ut_next {ft : Nat → Nat} {H t s : Nat} : utK ft H t 8 s = utK ft H (t + 1) 0 s := by
  unfold utK
  by_cases h0 : s = 0
  · rw [if_pos h0, if_pos h0]
  · rw [if_neg h0, if_neg h0]
    congr 1
    refine sg_congr 8 (fun i hi => ?_)
    by_cases hc : (s.testBit i = true ∧ (ft (bcN s - 1)).testBit i = true) ∧ (s - 2 ^ i < t ∨ (s - 2 ^ i = t ∧ i < 8))
    · rw [if_pos hc, if_pos ⟨hc.1, by have := hc.2; omega⟩]
    · rw [if_neg hc, if_neg (fun h => hc ⟨h.1, by have := h.2; omega⟩)]
theorem ut_all {ft : Nat → Nat} {H t k s : Nat} (hs : s < 256) (h : s ≤ t) (hb : bcN s ≤ H) : utK ft H t k s = wuA ft s := by
  unfold utK
  by_cases h0 : s = 0
  · rw [if_pos h0, h0]; rfl
  · rw [if_neg h0, if_pos hb, wuA_s hs h0]
    refine sg_congr 8 (fun i hi => ?_)
    by_cases hc : s.testBit i = true ∧ (ft (bcN s - 1)).testBit i = true
    · rw [if_pos hc, if_pos ⟨hc, by have := bc_less hs hi hc.1; have := pw7 hi; omega⟩]
    · rw [if_neg hc, if_neg (fun h => hc h.1)]
theorem ut_0 {ft : Nat → Nat} {H s : Nat} (hs : s < 256) : utK ft H 0 0 s = if s = 0 then 1 else 0 := by
  unfold utK
  by_cases h0 : s = 0
  · rw [if_pos h0, if_pos h0]
  · rw [if_neg h0, if_neg h0]
    split
    · exact sg_0 8 (fun i hi => if_neg (fun h => by have := h.2; omega))
    · rfl
/-- a step that doesn't hang -/
theorem ut_no {ft : Nat → Nat} {H t k s : Nat} (hft : ∀ h, ft h < 256) (hs : s < 256) (ht : t < 256) (hk : k < 8) (h : bcN t < H → ¬ (sdN (ft (bcN t)) t).testBit k = true) : utK ft H t (k + 1) s = utK ft H t k s := by
  unfold utK
  by_cases h0 : s = 0
  · rw [if_pos h0, if_pos h0]
  · rw [if_neg h0, if_neg h0]
    by_cases hb : bcN s ≤ H
    · rw [if_pos hb, if_pos hb]
      refine sg_congr 8 (fun i hi => ?_)
      by_cases hc : (s.testBit i = true ∧ (ft (bcN s - 1)).testBit i = true) ∧ (s - 2 ^ i < t ∨ (s - 2 ^ i = t ∧ i < k + 1))
      · rw [if_pos hc]
        by_cases e : s - 2 ^ i = t ∧ i = k
        · exfalso
          obtain ⟨e1, rfl⟩ := e
          have hl := bc_less hs hi hc.1.1
          rw [e1] at hl
          refine h (by omega) ?_
          rw [sdN_tb (by have := hft (bcN t); omega), show bcN t = bcN s - 1 by omega, hc.1.2, hl.2.2.1]
          rfl
        · rw [if_pos ⟨hc.1, by have := hc.2; omega⟩]
      · rw [if_neg hc, if_neg (fun g => hc ⟨g.1, by have := g.2; omega⟩)]
    · rw [if_neg hb, if_neg hb]
/-- a step that hangs -/
theorem ut_yes {ft : Nat → Nat} {H t k s : Nat} (hft : ∀ h, ft h < 256) (hs : s < 256) (ht : t < 256) (hk : k < 8) (hH : bcN t < H) (h : (sdN (ft (bcN t)) t).testBit k = true) : utK ft H t (k + 1) s = if s = t ||| 2 ^ k then utK ft H t k s + wuA ft t else utK ft H t k s := by
  have hcn := cn_bit (hft _) h
  have hor := bc_or ht hk hcn.2
  have hpk := pw7 hk
  by_cases e : s = t ||| 2 ^ k
  · rw [if_pos e]
    have e0 : s ≠ 0 := by omega
    have e1 : s - 2 ^ k = t := by omega
    have hbs : bcN s = bcN t + 1 := by rw [e]; exact hor.1
    have hsk : s.testBit k = true := by rw [e, Nat.testBit_or, Nat.testBit_two_pow_self]; simp
    unfold utK
    rw [if_neg e0, if_neg e0, if_pos (by omega), if_pos (by omega)]
    refine sg_add (j := k) 8 hk (fun i hi hne => ?_) ?_
    · by_cases hc : (s.testBit i = true ∧ (ft (bcN s - 1)).testBit i = true) ∧ (s - 2 ^ i < t ∨ (s - 2 ^ i = t ∧ i < k))
      · rw [if_pos hc, if_pos ⟨hc.1, by have := hc.2; omega⟩]
      · rw [if_neg hc, if_neg (fun g => hc ⟨g.1, by have := g.2; omega⟩)]
    · rw [if_pos ⟨⟨hsk, by rw [show bcN s - 1 = bcN t by omega]; exact hcn.1⟩, Or.inr ⟨e1, by omega⟩⟩, if_neg (fun g => by have := g.2; omega), e1]; omega
  · rw [if_neg e]
    unfold utK
    by_cases h0 : s = 0
    · rw [if_pos h0, if_pos h0]
    · rw [if_neg h0, if_neg h0]
      congr 1
      refine sg_congr 8 (fun i hi => ?_)
      by_cases hc : (s.testBit i = true ∧ (ft (bcN s - 1)).testBit i = true) ∧ (s - 2 ^ i < t ∨ (s - 2 ^ i = t ∧ i < k + 1))
      · rw [if_pos hc]
        by_cases e2 : s - 2 ^ i = t ∧ i = k
        · exfalso
          obtain ⟨e1, rfl⟩ := e2
          have hl := bc_less hs hi hc.1.1
          rw [e1] at hl
          exact e hl.2.2.2.symm
        · rw [if_pos ⟨hc.1, by have := hc.2; omega⟩]
      · rw [if_neg hc, if_neg (fun g => hc ⟨g.1, by have := g.2; omega⟩)]
theorem dX2_countUpTo_0 : decode prog_4_method_11_code 0 = .ok (.aload_n 0, 1) := by decide +kernel
theorem dX2_countUpTo_1 : decode prog_4_method_11_code 1 = .ok (.getfield 15, 3) := by decide +kernel
theorem dX2_countUpTo_4 : decode prog_4_method_11_code 4 = .ok (.iconst 0, 1) := by decide +kernel
theorem dX2_countUpTo_5 : decode prog_4_method_11_code 5 = .ok (.invokestatic 96, 3) := by decide +kernel
theorem dX2_countUpTo_8 : decode prog_4_method_11_code 8 = .ok (.aload_n 0, 1) := by decide +kernel
theorem dX2_countUpTo_9 : decode prog_4_method_11_code 9 = .ok (.getfield 15, 3) := by decide +kernel
theorem dX2_countUpTo_12 : decode prog_4_method_11_code 12 = .ok (.iconst 0, 1) := by decide +kernel
theorem dX2_countUpTo_13 : decode prog_4_method_11_code 13 = .ok (.iconst 1, 1) := by decide +kernel
theorem dX2_countUpTo_14 : decode prog_4_method_11_code 14 = .ok (.iastore, 1) := by decide +kernel
theorem dX2_countUpTo_15 : decode prog_4_method_11_code 15 = .ok (.iconst 0, 1) := by decide +kernel
theorem dX2_countUpTo_16 : decode prog_4_method_11_code 16 = .ok (.istore_n 1, 1) := by decide +kernel
theorem dX2_countUpTo_17 : decode prog_4_method_11_code 17 = .ok (.iload_n 1, 1) := by decide +kernel
theorem dX2_countUpTo_18 : decode prog_4_method_11_code 18 = .ok (.sipush 256, 3) := by decide +kernel
theorem dX2_countUpTo_21 : decode prog_4_method_11_code 21 = .ok (.if_icmp .ge 71, 3) := by decide +kernel
theorem dX2_countUpTo_24 : decode prog_4_method_11_code 24 = .ok (.iload_n 1, 1) := by decide +kernel
theorem dX2_countUpTo_25 : decode prog_4_method_11_code 25 = .ok (.invokestatic 70, 3) := by decide +kernel
theorem dX2_countUpTo_28 : decode prog_4_method_11_code 28 = .ok (.istore_n 2, 1) := by decide +kernel
theorem dX2_countUpTo_29 : decode prog_4_method_11_code 29 = .ok (.iconst 0, 1) := by decide +kernel
theorem dX2_countUpTo_30 : decode prog_4_method_11_code 30 = .ok (.istore_n 3, 1) := by decide +kernel
theorem dX2_countUpTo_31 : decode prog_4_method_11_code 31 = .ok (.iload_n 3, 1) := by decide +kernel
theorem dX2_countUpTo_32 : decode prog_4_method_11_code 32 = .ok (.bipush 8, 2) := by decide +kernel
theorem dX2_countUpTo_34 : decode prog_4_method_11_code 34 = .ok (.if_icmp .ge 52, 3) := by decide +kernel
theorem dX2_countUpTo_37 : decode prog_4_method_11_code 37 = .ok (.iload_n 2, 1) := by decide +kernel
theorem dX2_countUpTo_38 : decode prog_4_method_11_code 38 = .ok (.aload_n 0, 1) := by decide +kernel
theorem dX2_countUpTo_39 : decode prog_4_method_11_code 39 = .ok (.getfield 21, 3) := by decide +kernel
theorem dX2_countUpTo_42 : decode prog_4_method_11_code 42 = .ok (.getfield 47, 3) := by decide +kernel
theorem dX2_countUpTo_45 : decode prog_4_method_11_code 45 = .ok (.getfield 53, 3) := by decide +kernel
theorem dX2_countUpTo_48 : decode prog_4_method_11_code 48 = .ok (.if_icmp .ge 38, 3) := by decide +kernel
theorem dX2_countUpTo_51 : decode prog_4_method_11_code 51 = .ok (.aload_n 0, 1) := by decide +kernel
theorem dX2_countUpTo_52 : decode prog_4_method_11_code 52 = .ok (.iload_n 2, 1) := by decide +kernel
theorem dX2_countUpTo_53 : decode prog_4_method_11_code 53 = .ok (.iload_n 3, 1) := by decide +kernel
theorem dX2_countUpTo_54 : decode prog_4_method_11_code 54 = .ok (.iload_n 1, 1) := by decide +kernel
theorem dX2_countUpTo_55 : decode prog_4_method_11_code 55 = .ok (.invokevirtual 40, 3) := by decide +kernel
theorem dX2_countUpTo_58 : decode prog_4_method_11_code 58 = .ok (.ifCond .eq 22, 3) := by decide +kernel
theorem dX2_countUpTo_61 : decode prog_4_method_11_code 61 = .ok (.aload_n 0, 1) := by decide +kernel
theorem dX2_countUpTo_62 : decode prog_4_method_11_code 62 = .ok (.getfield 15, 3) := by decide +kernel
theorem dX2_countUpTo_65 : decode prog_4_method_11_code 65 = .ok (.iload_n 1, 1) := by decide +kernel
theorem dX2_countUpTo_66 : decode prog_4_method_11_code 66 = .ok (.iconst 1, 1) := by decide +kernel
theorem dX2_countUpTo_67 : decode prog_4_method_11_code 67 = .ok (.iload_n 3, 1) := by decide +kernel
theorem dX2_countUpTo_68 : decode prog_4_method_11_code 68 = .ok (.ishl, 1) := by decide +kernel
theorem dX2_countUpTo_69 : decode prog_4_method_11_code 69 = .ok (.ior, 1) := by decide +kernel
theorem dX2_countUpTo_70 : decode prog_4_method_11_code 70 = .ok (.dup2, 1) := by decide +kernel
theorem dX2_countUpTo_71 : decode prog_4_method_11_code 71 = .ok (.iaload, 1) := by decide +kernel
theorem dX2_countUpTo_72 : decode prog_4_method_11_code 72 = .ok (.aload_n 0, 1) := by decide +kernel
theorem dX2_countUpTo_73 : decode prog_4_method_11_code 73 = .ok (.getfield 15, 3) := by decide +kernel
theorem dX2_countUpTo_76 : decode prog_4_method_11_code 76 = .ok (.iload_n 1, 1) := by decide +kernel
theorem dX2_countUpTo_77 : decode prog_4_method_11_code 77 = .ok (.iaload, 1) := by decide +kernel
theorem dX2_countUpTo_78 : decode prog_4_method_11_code 78 = .ok (.iadd, 1) := by decide +kernel
theorem dX2_countUpTo_79 : decode prog_4_method_11_code 79 = .ok (.iastore, 1) := by decide +kernel
theorem dX2_countUpTo_80 : decode prog_4_method_11_code 80 = .ok (.iinc 3 1, 3) := by decide +kernel
theorem dX2_countUpTo_83 : decode prog_4_method_11_code 83 = .ok (.goto (-52), 3) := by decide +kernel
theorem dX2_countUpTo_86 : decode prog_4_method_11_code 86 = .ok (.iinc 1 1, 3) := by decide +kernel
theorem dX2_countUpTo_89 : decode prog_4_method_11_code 89 = .ok (.goto (-72), 3) := by decide +kernel
theorem dX2_countUpTo_92 : decode prog_4_method_11_code 92 = .ok (.return_, 1) := by decide +kernel
theorem ut_stop {ft : Nat → Nat} {H t s : Nat} (hft : ∀ h, ft h < 256) (hs : s < 256) (ht : t < 256) : ∀ (d i : Nat), i + d = 8 → (0 < d → H ≤ bcN t) → utK ft H t 8 s = utK ft H t i s := by
  intro d
  induction d with
  | zero => intro i h _; obtain rfl : i = 8 := by omega
            rfl
  | succ d ih =>
    intro i h hg
    rw [ih (i + 1) (by omega) (fun _ => hg (by omega))]
    exact ut_no hft hs ht (by omega) (fun g => by have := hg (by omega); omega)
theorem lp1_X2_countUpTo {ft : Nat → Nat} {H t : Nat} (cs : CS S R) (hf0 : HFr I ft H) (hH0 : I 13 7 = (H : Int)) (ht : t < 256) (hn : 1 ≤ n) (hK : ∀ I', (∀ c, c ≠ 301 → I' c = I c) → (∀ s, s < 256 → I' 301 s = utK ft H (t + 1) 0 s) → WP n 0 0 mX2_countUpTo Post 86 [(0, .ref (S.2.1 299)), (1, .int (iI (t : Int)))] [] 0 0 S I' R) : ∀ (d i : Nat) (J : CI), i ≤ 8 → 8 - i = d → (∀ c, c ≠ 301 → J c = I c) → (∀ s, s < 256 → J 301 s = utK ft H t i s) → WP n 0 0 mX2_countUpTo Post 31 [(0, .ref (S.2.1 299)), (1, .int (iI (t : Int))), (2, .int (iI (bcN t : Int))), (3, .int (iI (i : Int)))] [] 0 0 S J R := by
  intro d
  induction d using Nat.strongRecOn with
  | ind d ih =>
    intro i J k1 k2 hF hJ
    have h6 := hf0.2.2
    have hbc := bcN_b t
    have hf : HFr J ft H := ⟨fun h hh => (congrFun (hF 300 (by omega)) _).trans (hf0.1 h hh), hf0.2⟩
    have hH : J 13 7 = (H : Int) := (congrFun (hF 13 (by omega)) _).trans hH0
    refine x_iload_n dX2_countUpTo_31 rfl ?_
    refine x_bipush dX2_countUpTo_32 (by decide) ?_
    refine x_icmp_ge 86 dX2_countUpTo_34 (by decide) ⟨(by omega), (by omega)⟩ (fun w34 => ?_) (fun w34 => ?_)
    · refine x_sub [0, 1] rfl ?_
      refine hK J hF (fun s hs => ?_)
      rw [← ut_next, hJ s hs]
      exact (ut_stop hf.2.1 hs ht (8 - i) i (by omega) (fun _ => by omega)).symm
    · refine x_iload_n dX2_countUpTo_37 rfl ?_
      refine x_aload_n dX2_countUpTo_38 rfl ?_
      refine x_getR (b := 1) dX2_countUpTo_39 gf_RX2_21 (k_ob_299 cs) (fun _ _ => rfl) (k_r_299_0 cs) ?_
      refine x_getR (b := 13) dX2_countUpTo_42 gf_RX2_47 (k_ob_1 cs) (fun _ _ => rfl) (k_r_1_8 cs) ?_
      refine x_getIv (z := (H : Int)) dX2_countUpTo_45 gf_RX2_53 (k_ob_13 cs) (fun _ _ => rfl) hH ?_
      refine x_icmp_ge 86 dX2_countUpTo_48 (by decide) ⟨(by omega), (by omega)⟩ (fun w48 => ?_) (fun w48 => ?_)
      · refine x_sub [0, 1] rfl ?_
        refine hK J hF (fun s hs => ?_)
        rw [← ut_next, hJ s hs]
        exact (ut_stop hf.2.1 hs ht (8 - i) i (by omega) (fun _ => by omega)).symm
      · refine x_aload_n dX2_countUpTo_51 rfl ?_
        refine x_iload_n dX2_countUpTo_52 rfl ?_
        refine x_iload_n dX2_countUpTo_53 rfl ?_
        refine x_iload_n dX2_countUpTo_54 rfl ?_
        refine x_callV3 (mc1 := 0) (ms1 := 0) dX2_countUpTo_55 cv_RX2_40 (ci := 2) (k_ob_299 cs) rfl (Nat.le_of_ble_eq_true rfl) (n1 := n - 1) (by omega) (by omega) (by omega) ?_
        refine sp_X2_canHang cs hf (by omega) (by omega) ht (fun r55 hr55 => ?_)
        refine x_if_eq 80 dX2_countUpTo_58 (by decide) (by omega) (fun w58 => ?_) (fun w58 => ?_)
        · try rw [tN]
          refine x_iinc (lv2 := [(3, _), (0, _), (1, _), (2, _)]) dX2_countUpTo_80 rfl (by decide) rfl ?_
          refine x_goto 31 dX2_countUpTo_83 (by decide) ?_
          refine x_sub [1, 2, 3, 0] rfl ?_
          rcases hr55 with hh | hh
          · first
            | (exfalso; omega)
            | (have hy := fun s hs => ut_yes (H := H) (s := s) hf.2.1 hs ht (by omega : i < 8) (by omega) hh.2
               have hcn := cn_bit (hf.2.1 _) hh.2
               have hor := bc_or ht (by omega : i < 8) hcn.2
               rw [hJ _ hor.2.1, hJ t ht, ut_all (k := i) ht (Nat.le_refl t) (by omega)]
               refine ih _ (by omega) (i + 1) _ (by omega) rfl (fun c hc => (uI_row hc).trans (hF c hc)) (fun s hs => ?_)
               rw [hy s hs]
               by_cases e : s = t ||| 2 ^ i
               · rw [if_pos e, e, uI_s]
               · rw [if_neg e, uI_o (by omega)]; exact hJ s hs)
          · first
            | (exfalso; omega)
            | (refine ih _ (by omega) (i + 1) J (by omega) rfl hF (fun s hs => ?_)
               rw [ut_no hf.2.1 hs ht (by omega) (fun _ g => by rw [hh.2] at g; exact absurd g (by decide))]
               exact hJ s hs)
        · refine x_aload_n dX2_countUpTo_61 rfl ?_
          refine x_getR (b := 301) dX2_countUpTo_62 gf_RX2_15 (k_ob_299 cs) (fun _ _ => rfl) (k_r_299_2 cs) ?_
          refine x_iload_n dX2_countUpTo_65 rfl ?_
          refine x_iconst dX2_countUpTo_66 ?_
          refine x_iload_n dX2_countUpTo_67 rfl ?_
          refine x_ishl dX2_countUpTo_68 ?_
          rw [shl1_n (by omega)]
          have hpi := pw7 (i := i) (by omega)
          refine x_ior dX2_countUpTo_69 ?_
          have hob := Nat.or_lt_two_pow (n := 8) ht (show 2 ^ i < 2 ^ 8 by omega)
          rw [orI_n (by omega) (by omega)]
          refine x_dup2 dX2_countUpTo_70 rfl rfl ?_
          refine x_iaload dX2_countUpTo_71 (k_ar_301 cs) (by omega) (by omega) ?_
          rw [tN]
          refine x_aload_n dX2_countUpTo_72 rfl ?_
          refine x_getR (b := 301) dX2_countUpTo_73 gf_RX2_15 (k_ob_299 cs) (fun _ _ => rfl) (k_r_299_2 cs) ?_
          refine x_iload_n dX2_countUpTo_76 rfl ?_
          refine x_iaload dX2_countUpTo_77 (k_ar_301 cs) (by omega) (by omega) ?_
          rw [tN]
          refine x_iadd dX2_countUpTo_78 ?_
          refine x_iastore dX2_countUpTo_79 (k_ar_301 cs) (by omega) (by omega) ?_
          try rw [tN]
          refine x_iinc (lv2 := [(3, _), (0, _), (1, _), (2, _)]) dX2_countUpTo_80 rfl (by decide) rfl ?_
          refine x_goto 31 dX2_countUpTo_83 (by decide) ?_
          refine x_sub [1, 2, 3, 0] rfl ?_
          rcases hr55 with hh | hh
          · first
            | (exfalso; omega)
            | (have hy := fun s hs => ut_yes (H := H) (s := s) hf.2.1 hs ht (by omega : i < 8) (by omega) hh.2
               have hcn := cn_bit (hf.2.1 _) hh.2
               have hor := bc_or ht (by omega : i < 8) hcn.2
               rw [hJ _ hor.2.1, hJ t ht, ut_all (k := i) ht (Nat.le_refl t) (by omega)]
               refine ih _ (by omega) (i + 1) _ (by omega) rfl (fun c hc => (uI_row hc).trans (hF c hc)) (fun s hs => ?_)
               rw [hy s hs]
               by_cases e : s = t ||| 2 ^ i
               · rw [if_pos e, e, uI_s]
               · rw [if_neg e, uI_o (by omega)]; exact hJ s hs)
          · first
            | (exfalso; omega)
            | (refine ih _ (by omega) (i + 1) J (by omega) rfl hF (fun s hs => ?_)
               rw [ut_no hf.2.1 hs ht (by omega) (fun _ g => by rw [hh.2] at g; exact absurd g (by decide))]
               exact hJ s hs)
theorem lp2_X2_countUpTo {ft : Nat → Nat} {H : Nat} (cs : CS S R) (hf0 : HFr I ft H) (hH0 : I 13 7 = (H : Int)) (hn : 1 ≤ n) (hp : ∀ I', (∀ c, c ≠ 301 → I' c = I c) → (∀ s, s < 256 → bcN s ≤ H → I' 301 s = wuA ft s) → Post none S I' R) : ∀ (d t : Nat) (J : CI), t ≤ 256 → 256 - t = d → (∀ c, c ≠ 301 → J c = I c) → (∀ s, s < 256 → J 301 s = utK ft H t 0 s) → WP n 0 0 mX2_countUpTo Post 17 [(0, .ref (S.2.1 299)), (1, .int (iI (t : Int)))] [] 0 0 S J R := by
  intro d
  induction d using Nat.strongRecOn with
  | ind d ih =>
    intro t J k1 k2 hF hJ
    have hf : HFr J ft H := ⟨fun h hh => (congrFun (hF 300 (by omega)) _).trans (hf0.1 h hh), hf0.2⟩
    have hH : J 13 7 = (H : Int) := (congrFun (hF 13 (by omega)) _).trans hH0
    refine x_iload_n dX2_countUpTo_17 rfl ?_
    refine x_sipush dX2_countUpTo_18 (by decide) ?_
    refine x_icmp_ge 92 dX2_countUpTo_21 (by decide) ⟨(by omega), (by omega)⟩ (fun w21 => ?_) (fun w21 => ?_)
    · exact x_return dX2_countUpTo_92 rfl (by omega) (by omega) (by obtain rfl : t = 256 := (by omega); exact hp J hF (fun s hs hb => (hJ s hs).trans (ut_all hs (by omega) hb)))
    · refine x_iload_n dX2_countUpTo_24 rfl ?_
      refine x_callS1 (mc1 := 0) (ms1 := 0) dX2_countUpTo_25 cv_RX2_70 (Nat.le_of_ble_eq_true rfl) (n1 := n - 1) (by omega) (by omega) (by omega) ?_
      refine sp_bitCount (by omega) ?_
      refine x_istore_n (lv2 := [(2, _), (0, _), (1, _)]) dX2_countUpTo_28 (by decide) rfl ?_
      refine x_iconst dX2_countUpTo_29 ?_
      refine x_istore_n (lv2 := [(3, _), (2, _), (0, _), (1, _)]) dX2_countUpTo_30 (by decide) rfl ?_
      refine x_sub [2, 3, 1, 0] rfl ?_
      refine lp1_X2_countUpTo (t := t) cs hf hH (by omega) hn (fun I7 hF7 h7 => ?_) _ 0 J (by omega) rfl (fun _ _ => rfl) hJ
      refine x_iinc (lv2 := [(1, _), (0, _)]) dX2_countUpTo_86 rfl (by decide) rfl ?_
      refine x_goto 17 dX2_countUpTo_89 (by decide) ?_
      refine x_sub [1, 0] rfl ?_
      exact ih _ (by omega) (t + 1) I7 (by omega) rfl (fun c hc => (hF7 c hc).trans (hF c hc)) h7
theorem sp_X2_countUpTo {ft : Nat → Nat} {H : Nat} (cs : CS S R) (hf : HFr I ft H) (hH : I 13 7 = (H : Int)) (hn : 1 ≤ n) (hp : ∀ I', (∀ c, c ≠ 301 → I' c = I c) → (∀ s, s < 256 → bcN s ≤ H → I' 301 s = wuA ft s) → Post none S I' R) : Call n 0 0 mX2_countUpTo [.ref (S.2.1 299)] S I R Post := by
  refine Call.of (by decide +kernel) (Nat.le_of_ble_eq_true rfl) ?_
  show WP _ _ _ _ _ 0 [(0, _)] [] 0 0 _ _ _
  refine x_aload_n dX2_countUpTo_0 rfl ?_
  refine x_getR (b := 301) dX2_countUpTo_1 gf_RX2_15 (k_ob_299 cs) (fun _ _ => rfl) (k_r_299_2 cs) ?_
  refine x_iconst dX2_countUpTo_4 ?_
  refine x_callS2 (mc1 := 0) (ms1 := 0) dX2_countUpTo_5 cv_RX2_96 (Nat.le_of_ble_eq_true rfl) (n1 := n - 1) (by omega) (by omega) (by omega) ?_
  refine sp_fill (k_ar_301 cs) (by omega) (fun I5 h5 h5o => ?_)
  refine x_aload_n dX2_countUpTo_8 rfl ?_
  refine x_getR (b := 301) dX2_countUpTo_9 gf_RX2_15 (k_ob_299 cs) (fun _ _ => rfl) (k_r_299_2 cs) ?_
  refine x_iconst dX2_countUpTo_12 ?_
  refine x_iconst dX2_countUpTo_13 ?_
  refine x_iastore dX2_countUpTo_14 (k_ar_301 cs) (by omega) (by omega) ?_
  rw [show ((0 : Int)).toNat = 0 from rfl]
  refine x_iconst dX2_countUpTo_15 ?_
  refine x_istore_n (lv2 := [(1, _), (0, _)]) dX2_countUpTo_16 (by decide) rfl ?_
  refine x_sub [1, 0] rfl ?_
  refine lp2_X2_countUpTo cs hf hH hn hp _ 0 _ (by omega) rfl (fun c hc => (uI_row hc).trans (h5o c hc)) (fun s hs => ?_)
  rw [ut_0 hs]
  by_cases e : s = 0
  · rw [if_pos e, e]; exact uI_s _ _ _ _
  · rw [if_neg e, uI_o (Or.inr (by omega))]; exact h5 s hs
def HWr (I : CI) (ft : Nat → Nat) (H : Nat) : Prop := HFr I ft H ∧ (∀ t, t < 256 → I 302 t = wbA ft H t) ∧ (∀ s, s < 256 → bcN s ≤ H → I 301 s = wuA ft s)
def wwK (ft : Nat → Nat) (H h q : Nat) : Nat → Int
  | 0 => 0
  | s + 1 => if bcN s = h ∧ (sdN (ft h) s).testBit q = true then wwK ft H h q s + wuA ft s * wbA ft H (s ||| 2 ^ q) else wwK ft H h q s
theorem wwK_b {ft : Nat → Nat} {H h q : Nat} (hft : ∀ h, ft h < 256) (hh : h < H) (hH : H ≤ 6) (hq : q < 8) : ∀ s, s ≤ 256 → 0 ≤ wwK ft H h q s ∧ wwK ft H h q s ≤ 32768 * s := by
  intro s
  induction s with
  | zero => intro _; simp [wwK]
  | succ s ih =>
    intro hs
    have h1 := ih (by omega)
    simp only [wwK]
    split
    · rename_i hc
      have hcn := cn_bit (hft _) hc.2
      have hor := bc_or (by omega : s < 256) hq hcn.2
      have := prod_b (ft := ft) (H := H) (h := h) (s := s) (t := s ||| 2 ^ q) (by omega) hc.1 (by omega) hh hH
      omega
    · omega
def mlK (ft : Nat → Nat) (H h : Nat) : Nat → Int
  | 0 => 0
  | q + 1 => if wwK ft H h q 256 ≤ mlK ft H h q then mlK ft H h q else wwK ft H h q 256
theorem mlK_b {ft : Nat → Nat} {H h : Nat} (hft : ∀ h, ft h < 256) (hh : h < H) (hH : H ≤ 6) : ∀ q, q ≤ 8 → 0 ≤ mlK ft H h q ∧ mlK ft H h q ≤ 8388608 := by
  intro q
  induction q with
  | zero => intro _; simp [mlK]
  | succ q ih =>
    intro hq
    have h1 := ih (by omega)
    have h2 := wwK_b (q := q) hft hh hH (by omega) 256 (by omega)
    simp only [mlK]
    split <;> omega
def wlK (ft : Nat → Nat) (H : Nat) : Nat → Int × Int
  | 0 => (-1, 0)
  | h + 1 => if (wlK ft H h).1 = -1 ∨ mlK ft H h 8 < (wlK ft H h).2 then ((h : Int), mlK ft H h 8) else wlK ft H h
theorem wlK_b {ft : Nat → Nat} {H : Nat} (hft : ∀ h, ft h < 256) (hH : H ≤ 6) : ∀ h, h ≤ H → (-1 ≤ (wlK ft H h).1 ∧ (wlK ft H h).1 < h) ∧ 0 ≤ (wlK ft H h).2 ∧ (wlK ft H h).2 ≤ 8388608 := by
  intro h
  induction h with
  | zero => intro _; simp [wlK]
  | succ h ih =>
    intro hh
    have h1 := ih (by omega)
    have h2 := mlK_b (h := h) hft (by omega) hH 8 (by omega)
    simp only [wlK]
    split
    · dsimp only; omega
    · omega
def lookP (ft : Nat → Nat) (H : Nat) : Int := if wbA ft H 0 ≤ 1 then -1 else (wlK ft H H).1
def f_look (A : Nat → Int) (e : Int) : Int := if 0 ≤ e ∧ e ≤ 9 then lookP (ftA A e) (A 4).toNat else -1
theorem dX2_waysWith_0 : decode prog_4_method_7_code 0 = .ok (.iconst 0, 1) := by decide +kernel
theorem dX2_waysWith_1 : decode prog_4_method_7_code 1 = .ok (.istore_n 3, 1) := by decide +kernel
theorem dX2_waysWith_2 : decode prog_4_method_7_code 2 = .ok (.iconst 0, 1) := by decide +kernel
theorem dX2_waysWith_3 : decode prog_4_method_7_code 3 = .ok (.istore 4, 2) := by decide +kernel
theorem dX2_waysWith_5 : decode prog_4_method_7_code 5 = .ok (.iload 4, 2) := by decide +kernel
theorem dX2_waysWith_7 : decode prog_4_method_7_code 7 = .ok (.sipush 256, 3) := by decide +kernel
theorem dX2_waysWith_10 : decode prog_4_method_7_code 10 = .ok (.if_icmp .ge 51, 3) := by decide +kernel
theorem dX2_waysWith_13 : decode prog_4_method_7_code 13 = .ok (.iload 4, 2) := by decide +kernel
theorem dX2_waysWith_15 : decode prog_4_method_7_code 15 = .ok (.invokestatic 70, 3) := by decide +kernel
theorem dX2_waysWith_18 : decode prog_4_method_7_code 18 = .ok (.iload_n 1, 1) := by decide +kernel
theorem dX2_waysWith_19 : decode prog_4_method_7_code 19 = .ok (.if_icmp .ne 36, 3) := by decide +kernel
theorem dX2_waysWith_22 : decode prog_4_method_7_code 22 = .ok (.aload_n 0, 1) := by decide +kernel
theorem dX2_waysWith_23 : decode prog_4_method_7_code 23 = .ok (.iload_n 1, 1) := by decide +kernel
theorem dX2_waysWith_24 : decode prog_4_method_7_code 24 = .ok (.iload_n 2, 1) := by decide +kernel
theorem dX2_waysWith_25 : decode prog_4_method_7_code 25 = .ok (.iload 4, 2) := by decide +kernel
theorem dX2_waysWith_27 : decode prog_4_method_7_code 27 = .ok (.invokevirtual 40, 3) := by decide +kernel
theorem dX2_waysWith_30 : decode prog_4_method_7_code 30 = .ok (.ifCond .eq 25, 3) := by decide +kernel
theorem dX2_waysWith_33 : decode prog_4_method_7_code 33 = .ok (.iload_n 3, 1) := by decide +kernel
theorem dX2_waysWith_34 : decode prog_4_method_7_code 34 = .ok (.aload_n 0, 1) := by decide +kernel
theorem dX2_waysWith_35 : decode prog_4_method_7_code 35 = .ok (.getfield 15, 3) := by decide +kernel
theorem dX2_waysWith_38 : decode prog_4_method_7_code 38 = .ok (.iload 4, 2) := by decide +kernel
theorem dX2_waysWith_40 : decode prog_4_method_7_code 40 = .ok (.iaload, 1) := by decide +kernel
theorem dX2_waysWith_41 : decode prog_4_method_7_code 41 = .ok (.aload_n 0, 1) := by decide +kernel
theorem dX2_waysWith_42 : decode prog_4_method_7_code 42 = .ok (.getfield 18, 3) := by decide +kernel
theorem dX2_waysWith_45 : decode prog_4_method_7_code 45 = .ok (.iload 4, 2) := by decide +kernel
theorem dX2_waysWith_47 : decode prog_4_method_7_code 47 = .ok (.iconst 1, 1) := by decide +kernel
theorem dX2_waysWith_48 : decode prog_4_method_7_code 48 = .ok (.iload_n 2, 1) := by decide +kernel
theorem dX2_waysWith_49 : decode prog_4_method_7_code 49 = .ok (.ishl, 1) := by decide +kernel
theorem dX2_waysWith_50 : decode prog_4_method_7_code 50 = .ok (.ior, 1) := by decide +kernel
theorem dX2_waysWith_51 : decode prog_4_method_7_code 51 = .ok (.iaload, 1) := by decide +kernel
theorem dX2_waysWith_52 : decode prog_4_method_7_code 52 = .ok (.imul, 1) := by decide +kernel
theorem dX2_waysWith_53 : decode prog_4_method_7_code 53 = .ok (.iadd, 1) := by decide +kernel
theorem dX2_waysWith_54 : decode prog_4_method_7_code 54 = .ok (.istore_n 3, 1) := by decide +kernel
theorem dX2_waysWith_55 : decode prog_4_method_7_code 55 = .ok (.iinc 4 1, 3) := by decide +kernel
theorem dX2_waysWith_58 : decode prog_4_method_7_code 58 = .ok (.goto (-53), 3) := by decide +kernel
theorem dX2_waysWith_61 : decode prog_4_method_7_code 61 = .ok (.iload_n 3, 1) := by decide +kernel
theorem dX2_waysWith_62 : decode prog_4_method_7_code 62 = .ok (.ireturn, 1) := by decide +kernel
theorem lp_X2_waysWith {ft : Nat → Nat} {H h q : Nat} (cs : CS S R) (hw : HWr I ft H) (hh : h < H) (hq : q < 8) (hn : 1 ≤ n) (hp : Post (some (.int (iI (wwK ft H h q 256)))) S I R) : ∀ (d s : Nat), s ≤ 256 → 256 - s = d → WP n 0 0 mX2_waysWith Post 5 [(0, .ref (S.2.1 299)), (1, .int (iI (h : Int))), (2, .int (iI (q : Int))), (3, .int (iI (wwK ft H h q s))), (4, .int (iI (s : Int)))] [] 0 0 S I R := by
  intro d
  induction d using Nat.strongRecOn with
  | ind d ih =>
    intro s k1 k2
    have h6 := hw.1.2.2
    have hbc := bcN_b s
    have hpq := pw7 hq
    refine x_iload dX2_waysWith_5 rfl ?_
    refine x_sipush dX2_waysWith_7 (by decide) ?_
    refine x_icmp_ge 61 dX2_waysWith_10 (by decide) ⟨(by omega), (by omega)⟩ (fun w10 => ?_) (fun w10 => ?_)
    · refine x_iload_n dX2_waysWith_61 rfl ?_
      exact x_ireturn dX2_waysWith_62 rfl (by omega) (by omega) (by obtain rfl : s = 256 := (by omega); exact hp)
    · refine x_iload dX2_waysWith_13 rfl ?_
      refine x_callS1 (mc1 := 0) (ms1 := 0) dX2_waysWith_15 cv_RX2_70 (Nat.le_of_ble_eq_true rfl) (n1 := n - 1) (by omega) (by omega) (by omega) ?_
      refine sp_bitCount (by omega) ?_
      refine x_iload_n dX2_waysWith_18 rfl ?_
      refine x_icmp_ne 55 dX2_waysWith_19 (by decide) ⟨(by omega), (by omega)⟩ (fun w19 => ?_) (fun w19 => ?_)
      · refine x_iinc (lv2 := [(4, _), (0, _), (1, _), (2, _), (3, _)]) dX2_waysWith_55 rfl (by decide) rfl ?_
        refine x_goto 5 dX2_waysWith_58 (by decide) ?_
        refine x_sub [1, 2, 3, 4, 0] rfl ?_
        have hg := ih _ (by omega) (s + 1) (by omega) rfl
        simp only [wwK] at hg
        first
          | (rw [if_neg (fun h => by have := h.1; omega)] at hg; exact hg)
          | (rcases hr27 with hh2 | hh2
             · rw [if_pos ⟨by omega, hh2.2⟩] at hg
               first | exact hg | (exfalso; omega)
             · rw [if_neg (fun h => by rw [hh2.2] at h; exact absurd h.2 (by decide))] at hg
               first | exact hg | (exfalso; omega))
      · refine x_aload_n dX2_waysWith_22 rfl ?_
        refine x_iload_n dX2_waysWith_23 rfl ?_
        refine x_iload_n dX2_waysWith_24 rfl ?_
        refine x_iload dX2_waysWith_25 rfl ?_
        refine x_callV3 (mc1 := 0) (ms1 := 0) dX2_waysWith_27 cv_RX2_40 (ci := 2) (k_ob_299 cs) rfl (Nat.le_of_ble_eq_true rfl) (n1 := n - 1) (by omega) (by omega) (by omega) ?_
        refine sp_X2_canHang cs hw.1 hh hq (by omega) (fun r27 hr27 => ?_)
        refine x_if_eq 55 dX2_waysWith_30 (by decide) (by omega) (fun w30 => ?_) (fun w30 => ?_)
        · refine x_iinc (lv2 := [(4, _), (0, _), (1, _), (2, _), (3, _)]) dX2_waysWith_55 rfl (by decide) rfl ?_
          refine x_goto 5 dX2_waysWith_58 (by decide) ?_
          refine x_sub [1, 2, 3, 4, 0] rfl ?_
          have hg := ih _ (by omega) (s + 1) (by omega) rfl
          simp only [wwK] at hg
          first
            | (rw [if_neg (fun h => by have := h.1; omega)] at hg; exact hg)
            | (rcases hr27 with hh2 | hh2
               · rw [if_pos ⟨by omega, hh2.2⟩] at hg
                 first | exact hg | (exfalso; omega)
               · rw [if_neg (fun h => by rw [hh2.2] at h; exact absurd h.2 (by decide))] at hg
                 first | exact hg | (exfalso; omega))
        · refine x_iload_n dX2_waysWith_33 rfl ?_
          refine x_aload_n dX2_waysWith_34 rfl ?_
          refine x_getR (b := 301) dX2_waysWith_35 gf_RX2_15 (k_ob_299 cs) (fun _ _ => rfl) (k_r_299_2 cs) ?_
          refine x_iload dX2_waysWith_38 rfl ?_
          refine x_iaload dX2_waysWith_40 (k_ar_301 cs) (by omega) (by omega) ?_
          rw [tN, hw.2.2 s (by omega) (by omega)]
          refine x_aload_n dX2_waysWith_41 rfl ?_
          refine x_getR (b := 302) dX2_waysWith_42 gf_RX2_18 (k_ob_299 cs) (fun _ _ => rfl) (k_r_299_3 cs) ?_
          refine x_iload dX2_waysWith_45 rfl ?_
          refine x_iconst dX2_waysWith_47 ?_
          refine x_iload_n dX2_waysWith_48 rfl ?_
          refine x_ishl dX2_waysWith_49 ?_
          rw [shl1_n (by omega)]
          refine x_ior dX2_waysWith_50 ?_
          have hob := Nat.or_lt_two_pow (n := 8) (show s < 2 ^ 8 by omega) (show 2 ^ q < 2 ^ 8 by omega)
          rw [orI_n (by omega) (by omega)]
          refine x_iaload dX2_waysWith_51 (k_ar_302 cs) (by omega) (by omega) ?_
          rw [tN, hw.2.1 _ (by omega)]
          refine x_imul dX2_waysWith_52 ?_
          refine x_iadd dX2_waysWith_53 ?_
          refine x_istore_n (lv2 := [(3, _), (0, _), (1, _), (2, _), (4, _)]) dX2_waysWith_54 (by decide) rfl ?_
          refine x_iinc (lv2 := [(4, _), (3, _), (0, _), (1, _), (2, _)]) dX2_waysWith_55 rfl (by decide) rfl ?_
          refine x_goto 5 dX2_waysWith_58 (by decide) ?_
          refine x_sub [2, 3, 4, 1, 0] rfl ?_
          have hg := ih _ (by omega) (s + 1) (by omega) rfl
          simp only [wwK] at hg
          first
            | (rw [if_neg (fun h => by have := h.1; omega)] at hg; exact hg)
            | (rcases hr27 with hh2 | hh2
               · rw [if_pos ⟨by omega, hh2.2⟩] at hg
                 first | exact hg | (exfalso; omega)
               · rw [if_neg (fun h => by rw [hh2.2] at h; exact absurd h.2 (by decide))] at hg
                 first | exact hg | (exfalso; omega))
theorem sp_X2_waysWith {ft : Nat → Nat} {H h q : Nat} (cs : CS S R) (hw : HWr I ft H) (hh : h < H) (hq : q < 8) (hn : 1 ≤ n) (hp : Post (some (.int (iI (wwK ft H h q 256)))) S I R) : Call n 0 0 mX2_waysWith [.ref (S.2.1 299), .int (iI (h : Int)), .int (iI (q : Int))] S I R Post := by
  refine Call.of (by decide +kernel) (Nat.le_of_ble_eq_true rfl) ?_
  show WP _ _ _ _ _ 0 [(0, _), (1, _), (2, _)] [] 0 0 _ _ _
  refine x_iconst dX2_waysWith_0 ?_
  refine x_istore_n (lv2 := [(3, _), (0, _), (1, _), (2, _)]) dX2_waysWith_1 (by decide) rfl ?_
  refine x_iconst dX2_waysWith_2 ?_
  refine x_istore (lv2 := [(4, _), (3, _), (0, _), (1, _), (2, _)]) dX2_waysWith_3 (by decide) rfl ?_
  refine x_sub [2, 3, 4, 1, 0] rfl ?_
  exact lp_X2_waysWith cs hw hh hq hn hp _ 0 (by omega) rfl
theorem dX2_mostLeft_0 : decode prog_4_method_6_code 0 = .ok (.iconst 0, 1) := by decide +kernel
theorem dX2_mostLeft_1 : decode prog_4_method_6_code 1 = .ok (.istore_n 2, 1) := by decide +kernel
theorem dX2_mostLeft_2 : decode prog_4_method_6_code 2 = .ok (.iconst 0, 1) := by decide +kernel
theorem dX2_mostLeft_3 : decode prog_4_method_6_code 3 = .ok (.istore_n 3, 1) := by decide +kernel
theorem dX2_mostLeft_4 : decode prog_4_method_6_code 4 = .ok (.iload_n 3, 1) := by decide +kernel
theorem dX2_mostLeft_5 : decode prog_4_method_6_code 5 = .ok (.bipush 8, 2) := by decide +kernel
theorem dX2_mostLeft_7 : decode prog_4_method_6_code 7 = .ok (.if_icmp .ge 20, 3) := by decide +kernel
theorem dX2_mostLeft_10 : decode prog_4_method_6_code 10 = .ok (.iload_n 2, 1) := by decide +kernel
theorem dX2_mostLeft_11 : decode prog_4_method_6_code 11 = .ok (.aload_n 0, 1) := by decide +kernel
theorem dX2_mostLeft_12 : decode prog_4_method_6_code 12 = .ok (.iload_n 1, 1) := by decide +kernel
theorem dX2_mostLeft_13 : decode prog_4_method_6_code 13 = .ok (.iload_n 3, 1) := by decide +kernel
theorem dX2_mostLeft_14 : decode prog_4_method_6_code 14 = .ok (.invokevirtual 62, 3) := by decide +kernel
theorem dX2_mostLeft_17 : decode prog_4_method_6_code 17 = .ok (.invokestatic 65, 3) := by decide +kernel
theorem dX2_mostLeft_20 : decode prog_4_method_6_code 20 = .ok (.istore_n 2, 1) := by decide +kernel
theorem dX2_mostLeft_21 : decode prog_4_method_6_code 21 = .ok (.iinc 3 1, 3) := by decide +kernel
theorem dX2_mostLeft_24 : decode prog_4_method_6_code 24 = .ok (.goto (-20), 3) := by decide +kernel
theorem dX2_mostLeft_27 : decode prog_4_method_6_code 27 = .ok (.iload_n 2, 1) := by decide +kernel
theorem dX2_mostLeft_28 : decode prog_4_method_6_code 28 = .ok (.ireturn, 1) := by decide +kernel
theorem lp_X2_mostLeft {ft : Nat → Nat} {H h : Nat} (cs : CS S R) (hw : HWr I ft H) (hh : h < H) (hn : 2 ≤ n) (hp : Post (some (.int (iI (mlK ft H h 8)))) S I R) : ∀ (d q : Nat), q ≤ 8 → 8 - q = d → WP n 0 0 mX2_mostLeft Post 4 [(0, .ref (S.2.1 299)), (1, .int (iI (h : Int))), (2, .int (iI (mlK ft H h q))), (3, .int (iI (q : Int)))] [] 0 0 S I R := by
  intro d
  induction d using Nat.strongRecOn with
  | ind d ih =>
    intro q k1 k2
    have hml := mlK_b (h := h) hw.1.2.1 hh hw.1.2.2 q k1
    have hww : q < 8 → _ := fun g => wwK_b (q := q) hw.1.2.1 hh hw.1.2.2 g 256 (by omega)
    refine x_iload_n dX2_mostLeft_4 rfl ?_
    refine x_bipush dX2_mostLeft_5 (by decide) ?_
    refine x_icmp_ge 27 dX2_mostLeft_7 (by decide) ⟨(by omega), (by omega)⟩ (fun w7 => ?_) (fun w7 => ?_)
    · refine x_iload_n dX2_mostLeft_27 rfl ?_
      exact x_ireturn dX2_mostLeft_28 rfl (by omega) (by omega) (by obtain rfl : q = 8 := (by omega); exact hp)
    · refine x_iload_n dX2_mostLeft_10 rfl ?_
      refine x_aload_n dX2_mostLeft_11 rfl ?_
      refine x_iload_n dX2_mostLeft_12 rfl ?_
      refine x_iload_n dX2_mostLeft_13 rfl ?_
      refine x_callV2 (mc1 := 0) (ms1 := 0) dX2_mostLeft_14 cv_RX2_62 (ci := 2) (k_ob_299 cs) rfl (Nat.le_of_ble_eq_true rfl) (n1 := n - 1) (by omega) (by omega) (by omega) ?_
      have hwq := hww (by omega)
      refine sp_X2_waysWith cs hw hh (by omega) (by omega) ?_
      refine x_mmax dX2_mostLeft_17 cv_RX2_65 (by omega) (Nat.le_of_ble_eq_true rfl) (by omega) (by omega) (by omega) (fun r17 hr17 => ?_)
      refine x_istore_n (lv2 := [(2, _), (0, _), (1, _), (3, _)]) dX2_mostLeft_20 (by decide) rfl ?_
      refine x_iinc (lv2 := [(3, _), (2, _), (0, _), (1, _)]) dX2_mostLeft_21 rfl (by decide) rfl ?_
      refine x_goto 4 dX2_mostLeft_24 (by decide) ?_
      refine x_sub [2, 3, 1, 0] rfl ?_
      have hg := ih _ (by omega) (q + 1) (by omega) rfl
      simp only [mlK] at hg
      rcases hr17 with h2 | h2
      · rw [if_pos h2.2, ← h2.1] at hg; exact hg
      · rw [if_neg (by omega), ← h2.1] at hg; exact hg
theorem sp_X2_mostLeft {ft : Nat → Nat} {H h : Nat} (cs : CS S R) (hw : HWr I ft H) (hh : h < H) (hn : 2 ≤ n) (hp : Post (some (.int (iI (mlK ft H h 8)))) S I R) : Call n 0 0 mX2_mostLeft [.ref (S.2.1 299), .int (iI (h : Int))] S I R Post := by
  refine Call.of (by decide +kernel) (Nat.le_of_ble_eq_true rfl) ?_
  show WP _ _ _ _ _ 0 [(0, _), (1, _)] [] 0 0 _ _ _
  refine x_iconst dX2_mostLeft_0 ?_
  refine x_istore_n (lv2 := [(2, _), (0, _), (1, _)]) dX2_mostLeft_1 (by decide) rfl ?_
  refine x_iconst dX2_mostLeft_2 ?_
  refine x_istore_n (lv2 := [(3, _), (2, _), (0, _), (1, _)]) dX2_mostLeft_3 (by decide) rfl ?_
  refine x_sub [2, 3, 1, 0] rfl ?_
  exact lp_X2_mostLeft cs hw hh hn hp _ 0 (by omega) rfl
theorem dX2_whereToLook_0 : decode prog_4_method_5_code 0 = .ok (.aload_n 0, 1) := by decide +kernel
theorem dX2_whereToLook_1 : decode prog_4_method_5_code 1 = .ok (.iload_n 1, 1) := by decide +kernel
theorem dX2_whereToLook_2 : decode prog_4_method_5_code 2 = .ok (.invokevirtual 32, 3) := by decide +kernel
theorem dX2_whereToLook_5 : decode prog_4_method_5_code 5 = .ok (.iconst 1, 1) := by decide +kernel
theorem dX2_whereToLook_6 : decode prog_4_method_5_code 6 = .ok (.if_icmp .gt 5, 3) := by decide +kernel
theorem dX2_whereToLook_9 : decode prog_4_method_5_code 9 = .ok (.iconst (-1), 1) := by decide +kernel
theorem dX2_whereToLook_10 : decode prog_4_method_5_code 10 = .ok (.ireturn, 1) := by decide +kernel
theorem dX2_whereToLook_11 : decode prog_4_method_5_code 11 = .ok (.aload_n 0, 1) := by decide +kernel
theorem dX2_whereToLook_12 : decode prog_4_method_5_code 12 = .ok (.invokevirtual 44, 3) := by decide +kernel
theorem dX2_whereToLook_15 : decode prog_4_method_5_code 15 = .ok (.iconst (-1), 1) := by decide +kernel
theorem dX2_whereToLook_16 : decode prog_4_method_5_code 16 = .ok (.istore_n 2, 1) := by decide +kernel
theorem dX2_whereToLook_17 : decode prog_4_method_5_code 17 = .ok (.iconst 0, 1) := by decide +kernel
theorem dX2_whereToLook_18 : decode prog_4_method_5_code 18 = .ok (.istore_n 3, 1) := by decide +kernel
theorem dX2_whereToLook_19 : decode prog_4_method_5_code 19 = .ok (.iconst 0, 1) := by decide +kernel
theorem dX2_whereToLook_20 : decode prog_4_method_5_code 20 = .ok (.istore 4, 2) := by decide +kernel
theorem dX2_whereToLook_22 : decode prog_4_method_5_code 22 = .ok (.iload 4, 2) := by decide +kernel
theorem dX2_whereToLook_24 : decode prog_4_method_5_code 24 = .ok (.aload_n 0, 1) := by decide +kernel
theorem dX2_whereToLook_25 : decode prog_4_method_5_code 25 = .ok (.getfield 21, 3) := by decide +kernel
theorem dX2_whereToLook_28 : decode prog_4_method_5_code 28 = .ok (.getfield 47, 3) := by decide +kernel
theorem dX2_whereToLook_31 : decode prog_4_method_5_code 31 = .ok (.getfield 53, 3) := by decide +kernel
theorem dX2_whereToLook_34 : decode prog_4_method_5_code 34 = .ok (.if_icmp .ge 34, 3) := by decide +kernel
theorem dX2_whereToLook_37 : decode prog_4_method_5_code 37 = .ok (.aload_n 0, 1) := by decide +kernel
theorem dX2_whereToLook_38 : decode prog_4_method_5_code 38 = .ok (.iload 4, 2) := by decide +kernel
theorem dX2_whereToLook_40 : decode prog_4_method_5_code 40 = .ok (.invokevirtual 59, 3) := by decide +kernel
theorem dX2_whereToLook_43 : decode prog_4_method_5_code 43 = .ok (.istore 5, 2) := by decide +kernel
theorem dX2_whereToLook_45 : decode prog_4_method_5_code 45 = .ok (.iload_n 2, 1) := by decide +kernel
theorem dX2_whereToLook_46 : decode prog_4_method_5_code 46 = .ok (.iconst (-1), 1) := by decide +kernel
theorem dX2_whereToLook_47 : decode prog_4_method_5_code 47 = .ok (.if_icmp .eq 9, 3) := by decide +kernel
theorem dX2_whereToLook_50 : decode prog_4_method_5_code 50 = .ok (.iload 5, 2) := by decide +kernel
theorem dX2_whereToLook_52 : decode prog_4_method_5_code 52 = .ok (.iload_n 3, 1) := by decide +kernel
theorem dX2_whereToLook_53 : decode prog_4_method_5_code 53 = .ok (.if_icmp .ge 9, 3) := by decide +kernel
theorem dX2_whereToLook_56 : decode prog_4_method_5_code 56 = .ok (.iload 4, 2) := by decide +kernel
theorem dX2_whereToLook_58 : decode prog_4_method_5_code 58 = .ok (.istore_n 2, 1) := by decide +kernel
theorem dX2_whereToLook_59 : decode prog_4_method_5_code 59 = .ok (.iload 5, 2) := by decide +kernel
theorem dX2_whereToLook_61 : decode prog_4_method_5_code 61 = .ok (.istore_n 3, 1) := by decide +kernel
theorem dX2_whereToLook_62 : decode prog_4_method_5_code 62 = .ok (.iinc 4 1, 3) := by decide +kernel
theorem dX2_whereToLook_65 : decode prog_4_method_5_code 65 = .ok (.goto (-43), 3) := by decide +kernel
theorem dX2_whereToLook_68 : decode prog_4_method_5_code 68 = .ok (.iload_n 2, 1) := by decide +kernel
theorem dX2_whereToLook_69 : decode prog_4_method_5_code 69 = .ok (.ireturn, 1) := by decide +kernel
theorem lp_X2_whereToLook {ft : Nat → Nat} {H : Nat} {e : Int} (cs : CS S R) (hw : HWr I ft H) (hH : I 13 7 = (H : Int)) (hn : 3 ≤ n) (hp : Post (some (.int (iI (wlK ft H H).1))) S I R) : ∀ (d h : Nat), h ≤ H → H - h = d → WP n 0 0 mX2_whereToLook Post 22 [(0, .ref (S.2.1 299)), (1, .int (iI e)), (2, .int (iI (wlK ft H h).1)), (3, .int (iI (wlK ft H h).2)), (4, .int (iI (h : Int)))] [] 0 0 S I R := by
  intro d
  induction d using Nat.strongRecOn with
  | ind d ih =>
    intro h k1 k2
    have h6 := hw.1.2.2
    have hwl := wlK_b hw.1.2.1 hw.1.2.2 h k1
    have hml : h < H → _ := fun g => mlK_b (h := h) hw.1.2.1 g hw.1.2.2 8 (by omega)
    refine x_iload dX2_whereToLook_22 rfl ?_
    refine x_aload_n dX2_whereToLook_24 rfl ?_
    refine x_getR (b := 1) dX2_whereToLook_25 gf_RX2_21 (k_ob_299 cs) (fun _ _ => rfl) (k_r_299_0 cs) ?_
    refine x_getR (b := 13) dX2_whereToLook_28 gf_RX2_47 (k_ob_1 cs) (fun _ _ => rfl) (k_r_1_8 cs) ?_
    refine x_getIv (z := (H : Int)) dX2_whereToLook_31 gf_RX2_53 (k_ob_13 cs) (fun _ _ => rfl) hH ?_
    refine x_icmp_ge 68 dX2_whereToLook_34 (by decide) ⟨(by omega), (by omega)⟩ (fun w34 => ?_) (fun w34 => ?_)
    · refine x_iload_n dX2_whereToLook_68 rfl ?_
      exact x_ireturn dX2_whereToLook_69 rfl (by omega) (by omega) (by obtain rfl : h = H := (by omega); exact hp)
    · refine x_aload_n dX2_whereToLook_37 rfl ?_
      refine x_iload dX2_whereToLook_38 rfl ?_
      refine x_callV1 (mc1 := 0) (ms1 := 0) dX2_whereToLook_40 cv_RX2_59 (ci := 2) (k_ob_299 cs) rfl (Nat.le_of_ble_eq_true rfl) (n1 := n - 1) (by omega) (by omega) (by omega) ?_
      have hmq := hml (by omega)
      refine sp_X2_mostLeft cs hw (by omega) (by omega) ?_
      refine x_istore (lv2 := [(5, _), (0, _), (1, _), (2, _), (3, _), (4, _)]) dX2_whereToLook_43 (by decide) rfl ?_
      refine x_iload_n dX2_whereToLook_45 rfl ?_
      refine x_iconst dX2_whereToLook_46 ?_
      refine x_icmp_eq 56 dX2_whereToLook_47 (by decide) ⟨(by omega), (by omega)⟩ (fun w47 => ?_) (fun w47 => ?_)
      · refine x_iload dX2_whereToLook_56 rfl ?_
        refine x_istore_n (lv2 := [(2, _), (5, _), (0, _), (1, _), (3, _), (4, _)]) dX2_whereToLook_58 (by decide) rfl ?_
        refine x_iload dX2_whereToLook_59 rfl ?_
        refine x_istore_n (lv2 := [(3, _), (2, _), (5, _), (0, _), (1, _), (4, _)]) dX2_whereToLook_61 (by decide) rfl ?_
        refine x_iinc (lv2 := [(4, _), (3, _), (2, _), (5, _), (0, _), (1, _)]) dX2_whereToLook_62 rfl (by decide) rfl ?_
        refine x_goto 22 dX2_whereToLook_65 (by decide) ?_
        refine x_sub [4, 5, 2, 1, 0] rfl ?_
        have hg := ih _ (by omega) (h + 1) (by omega) rfl
        simp only [wlK] at hg
        first
          | (rw [if_pos (by omega)] at hg; exact hg)
          | (rw [if_neg (by omega)] at hg; exact hg)
      · refine x_iload dX2_whereToLook_50 rfl ?_
        refine x_iload_n dX2_whereToLook_52 rfl ?_
        refine x_icmp_ge 62 dX2_whereToLook_53 (by decide) ⟨(by omega), (by omega)⟩ (fun w53 => ?_) (fun w53 => ?_)
        · refine x_iinc (lv2 := [(4, _), (5, _), (0, _), (1, _), (2, _), (3, _)]) dX2_whereToLook_62 rfl (by decide) rfl ?_
          refine x_goto 22 dX2_whereToLook_65 (by decide) ?_
          refine x_sub [2, 3, 4, 5, 0] rfl ?_
          have hg := ih _ (by omega) (h + 1) (by omega) rfl
          simp only [wlK] at hg
          first
            | (rw [if_pos (by omega)] at hg; exact hg)
            | (rw [if_neg (by omega)] at hg; exact hg)
        · refine x_iload dX2_whereToLook_56 rfl ?_
          refine x_istore_n (lv2 := [(2, _), (5, _), (0, _), (1, _), (3, _), (4, _)]) dX2_whereToLook_58 (by decide) rfl ?_
          refine x_iload dX2_whereToLook_59 rfl ?_
          refine x_istore_n (lv2 := [(3, _), (2, _), (5, _), (0, _), (1, _), (4, _)]) dX2_whereToLook_61 (by decide) rfl ?_
          refine x_iinc (lv2 := [(4, _), (3, _), (2, _), (5, _), (0, _), (1, _)]) dX2_whereToLook_62 rfl (by decide) rfl ?_
          refine x_goto 22 dX2_whereToLook_65 (by decide) ?_
          refine x_sub [4, 5, 2, 1, 0] rfl ?_
          have hg := ih _ (by omega) (h + 1) (by omega) rfl
          simp only [wlK] at hg
          first
            | (rw [if_pos (by omega)] at hg; exact hg)
            | (rw [if_neg (by omega)] at hg; exact hg)
theorem sp_X2_whereToLook {e : Int} (cs : CS S R) (hc : ClW I 1 A) (hb : BA A) (he : 0 ≤ e ∧ e ≤ 9) (hn : 3 ≤ n) (hp : ∀ I', Fh I I' → Post (some (.int (iI (lookP (ftA A e) (A 4).toNat)))) S I' R) : Call n 0 0 mX2_whereToLook [.ref (S.2.1 299), .int (iI e)] S I R Post := by
  have b4 := hb.2.1.2.2.2.1
  have hwb := wbb (ft := ftA A e) (H := (A 4).toNat) (s := 0)
  have h8 : (8 : Int) ^ ((A 4).toNat - bcN 0) ≤ 262144 := p8 (by omega)
  unfold lookP at hp
  refine Call.of (by decide +kernel) (Nat.le_of_ble_eq_true rfl) ?_
  show WP _ _ _ _ _ 0 [(0, _), (1, _)] [] 0 0 _ _ _
  refine x_aload_n dX2_whereToLook_0 rfl ?_
  refine x_iload_n dX2_whereToLook_1 rfl ?_
  refine x_callV1 (mc1 := 0) (ms1 := 0) dX2_whereToLook_2 cv_RX2_32 (ci := 2) (k_ob_299 cs) rfl (Nat.le_of_ble_eq_true rfl) (n1 := n - 1) (by omega) (by omega) (by omega) ?_
  refine sp_X2_countWays cs hc hb he (by omega) (fun I2 hF2 hf2 hw2 => ?_)
  refine x_iconst dX2_whereToLook_5 ?_
  refine x_icmp_gt 11 dX2_whereToLook_6 (by decide) ⟨(by omega), (by omega)⟩ (fun w6 => ?_) (fun w6 => ?_)
  · refine x_aload_n dX2_whereToLook_11 rfl ?_
    refine x_callV0 (mc1 := 0) (ms1 := 0) dX2_whereToLook_12 cv_RX2_44 (ci := 2) (k_ob_299 cs) rfl (Nat.le_of_ble_eq_true rfl) (n1 := n - 1) (by omega) (by omega) (by omega) ?_
    have hH2 : I2 13 7 = ((A 4).toNat : Int) := by rw [hF2 13 (by omega) (by omega) (by omega)]; have := hc.2.1.1.2.2.2.1; dsimp only [Nat.reduceAdd] at this; rw [← this]; omega
    refine sp_X2_countUpTo cs hf2 hH2 (by omega) (fun I6 hF6 hu6 => ?_)
    have hw6 : HWr I6 (ftA A e) (A 4).toNat := ⟨⟨fun h hh => (congrFun (hF6 300 (by omega)) _).trans (hf2.1 h hh), hf2.2⟩, fun t ht => (congrFun (hF6 302 (by omega)) _).trans (hw2 t ht), hu6⟩
    refine x_iconst dX2_whereToLook_15 ?_
    refine x_istore_n (lv2 := [(2, _), (0, _), (1, _)]) dX2_whereToLook_16 (by decide) rfl ?_
    refine x_iconst dX2_whereToLook_17 ?_
    refine x_istore_n (lv2 := [(3, _), (2, _), (0, _), (1, _)]) dX2_whereToLook_18 (by decide) rfl ?_
    refine x_iconst dX2_whereToLook_19 ?_
    refine x_istore (lv2 := [(4, _), (3, _), (2, _), (0, _), (1, _)]) dX2_whereToLook_20 (by decide) rfl ?_
    refine x_sub [3, 4, 2, 1, 0] rfl ?_
    rw [if_neg (by omega)] at hp
    exact lp_X2_whereToLook cs hw6 ((congrFun (hF6 13 (by omega)) _).trans hH2) (by omega) (hp _ (hF2.tr (fun c _ h _ => hF6 c h))) _ 0 (by omega) rfl
  · refine x_iconst dX2_whereToLook_9 ?_
    exact x_ireturn dX2_whereToLook_10 rfl (by omega) (by omega) (by rw [if_pos (by omega)] at hp; exact hp _ hF2)
theorem dX11_look_0 : decode prog_1_method_36_code 0 = .ok (.iload_n 1, 1) := by decide +kernel
theorem dX11_look_1 : decode prog_1_method_36_code 1 = .ok (.ifCond .lt 9, 3) := by decide +kernel
theorem dX11_look_4 : decode prog_1_method_36_code 4 = .ok (.iload_n 1, 1) := by decide +kernel
theorem dX11_look_5 : decode prog_1_method_36_code 5 = .ok (.bipush 9, 2) := by decide +kernel
theorem dX11_look_7 : decode prog_1_method_36_code 7 = .ok (.if_icmp .le 7, 3) := by decide +kernel
theorem dX11_look_10 : decode prog_1_method_36_code 10 = .ok (.iconst (-1), 1) := by decide +kernel
theorem dX11_look_11 : decode prog_1_method_36_code 11 = .ok (.goto 11, 3) := by decide +kernel
theorem dX11_look_14 : decode prog_1_method_36_code 14 = .ok (.aload_n 0, 1) := by decide +kernel
theorem dX11_look_15 : decode prog_1_method_36_code 15 = .ok (.getfield 61, 3) := by decide +kernel
theorem dX11_look_18 : decode prog_1_method_36_code 18 = .ok (.iload_n 1, 1) := by decide +kernel
theorem dX11_look_19 : decode prog_1_method_36_code 19 = .ok (.invokevirtual 309, 3) := by decide +kernel
theorem dX11_look_22 : decode prog_1_method_36_code 22 = .ok (.ireturn, 1) := by decide +kernel
theorem sp_X11_look {e : Int} (cs : CS S R) (hc : ClW I 1 A) (hb : BA A) (he : Rg e) (hn : 4 ≤ n) (hp : ∀ I', Fh I I' → Post (some (.int (iI (f_look A e)))) S I' R) : Call n 0 0 mX11_look [.ref (S.2.1 0), .int (iI e)] S I R Post := by
  unfold f_look at hp
  refine Call.of (by decide +kernel) (Nat.le_of_ble_eq_true rfl) ?_
  show WP _ _ _ _ _ 0 [(0, _), (1, _)] [] 0 0 _ _ _
  refine x_iload_n dX11_look_0 rfl ?_
  refine x_if_lt 10 dX11_look_1 (by decide) (by omega) (fun w1 => ?_) (fun w1 => ?_)
  · refine x_iconst dX11_look_10 ?_
    refine x_goto 22 dX11_look_11 (by decide) ?_
    exact x_ireturn dX11_look_22 rfl (by omega) (by omega) (by first | (rw [if_neg (by omega)] at hp; exact hp _ Fh.rf) | (rw [if_pos (by omega)] at hp; exact hp _ hF2))
  · refine x_iload_n dX11_look_4 rfl ?_
    refine x_bipush dX11_look_5 (by decide) ?_
    refine x_icmp_le 14 dX11_look_7 (by decide) ⟨(by omega), (by omega)⟩ (fun w7 => ?_) (fun w7 => ?_)
    · refine x_aload_n dX11_look_14 rfl ?_
      refine x_getR (b := 299) dX11_look_15 gf_RX11_61 (k_ob_0 cs) (fun _ _ => rfl) (k_r_0_7 cs) ?_
      refine x_iload_n dX11_look_18 rfl ?_
      refine x_callV1 (mc1 := 0) (ms1 := 0) dX11_look_19 cv_RX11_309 (ci := 2) (k_ob_299 cs) rfl (Nat.le_of_ble_eq_true rfl) (n1 := n - 1) (by omega) (by omega) (by omega) ?_
      refine sp_X2_whereToLook cs hc hb (by omega) (by omega) (fun I2 hF2 => ?_)
      exact x_ireturn dX11_look_22 rfl (by omega) (by omega) (by first | (rw [if_neg (by omega)] at hp; exact hp _ Fh.rf) | (rw [if_pos (by omega)] at hp; exact hp _ hF2))
    · refine x_iconst dX11_look_10 ?_
      refine x_goto 22 dX11_look_11 (by decide) ?_
      exact x_ireturn dX11_look_22 rfl (by omega) (by omega) (by first | (rw [if_neg (by omega)] at hp; exact hp _ Fh.rf) | (rw [if_pos (by omega)] at hp; exact hp _ hF2))
end Hang2
