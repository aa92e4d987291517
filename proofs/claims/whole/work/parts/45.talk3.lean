section Talk3
variable {n : Nat} {Post : PT} {S : Sh} {I : CI} {R : CR} {A : Nat → Int} {tx : Nat → Nat → Int}
/-- the costs as they stand in the class's row -/
def MTr (I : CI) (c : Nat → Nat → Int) : Prop := (∀ p r : Nat, p < 6 → r < 6 → I 292 (p * 6 + r) = c p r) ∧ ∀ p r : Nat, -1 ≤ c p r ∧ c p r ≤ 79992
theorem MTr_of (hb : BA A) (h : LMt I A tx (A 0).toNat) : MTr I (cstA A tx) := ⟨h, fun p r => by have h1 := cstK_b (A := A) (tx := tx) (p := p) (r := r) (A 0).toNat; have h2 := hb.1.1; unfold cstA; omega⟩
def fbE (c : Nat → Nat → Int) (f : Nat → Int) (p r : Nat) : Int := if c p r = -1 ∨ 10000000 ≤ f r then 10000000 else f r + c p r * 8 + 1
def rlK (c : Nat → Nat → Int) (f : Nat → Int) (p : Nat) : Nat → (Nat → Int)
  | 0 => f
  | k + 1 => upA (rlK c f p k) p (if rlK c f p k p ≤ fbE c (rlK c f p k) p k then rlK c f p k p else fbE c (rlK c f p k) p k)
def rlP (c : Nat → Nat → Int) (f : Nat → Int) : Nat → (Nat → Int)
  | 0 => f
  | p + 1 => rlK c (rlP c f p) p 6
def rlR (c : Nat → Nat → Int) (f : Nat → Int) : Nat → (Nat → Int)
  | 0 => f
  | t + 1 => rlP c (rlR c f t) 6
def fr0 (q : Nat) : Nat → Int := fun i => if i = q then 0 else 10000000
def msr (c : Nat → Nat → Int) (q : Nat) : Nat → Int := rlR c (fr0 q) 5
abbrev FB (f : Nat → Int) : Prop := ∀ i, 0 ≤ f i ∧ f i ≤ 10000000
theorem fbE_b {c : Nat → Nat → Int} {f : Nat → Int} (hc : ∀ p r, -1 ≤ c p r ∧ c p r ≤ 79992) (hf : FB f) (p r : Nat) : 0 ≤ fbE c f p r ∧ fbE c f p r ≤ 10700000 := by
  unfold fbE
  have h1 := hc p r
  have h2 := hf r
  split <;> omega
theorem rlK_b {c : Nat → Nat → Int} {f : Nat → Int} {p : Nat} (hc : ∀ p r, -1 ≤ c p r ∧ c p r ≤ 79992) (hf : FB f) : ∀ k, FB (rlK c f p k) := by
  intro k
  induction k with
  | zero => exact hf
  | succ k ih =>
    intro i
    simp only [rlK]
    by_cases e : i = p
    · subst e
      rw [upA_s]
      have h1 := ih i
      have h2 := fbE_b hc ih i k
      split <;> omega
    · rw [upA_o e]; exact ih i
theorem rlP_b {c : Nat → Nat → Int} {f : Nat → Int} (hc : ∀ p r, -1 ≤ c p r ∧ c p r ≤ 79992) (hf : FB f) : ∀ k, FB (rlP c f k) := by
  intro k
  induction k with
  | zero => exact hf
  | succ k ih => exact rlK_b hc ih 6
theorem rlR_b {c : Nat → Nat → Int} {f : Nat → Int} (hc : ∀ p r, -1 ≤ c p r ∧ c p r ≤ 79992) (hf : FB f) : ∀ k, FB (rlR c f k) := by
  intro k
  induction k with
  | zero => exact hf
  | succ k ih => exact rlP_b hc ih 6
theorem fr0_b (q : Nat) : FB (fr0 q) := by intro i; unfold fr0; split <;> omega
theorem msr_b {c : Nat → Nat → Int} (hc : ∀ p r, -1 ≤ c p r ∧ c p r ≤ 79992) (q : Nat) : FB (msr c q) := rlR_b hc (fr0_b q) 5
def FRr (I : CI) (f : Nat → Int) : Prop := (∀ i, i < 6 → I 294 i = f i) ∧ FB f
theorem MTr_fr {I' : CI} {c : Nat → Nat → Int} (h : MTr I c) (hF : I' 292 = I 292) : MTr I' c := ⟨fun p r hp hr => by rw [hF]; exact h.1 p r hp hr, h.2⟩
theorem dX7_farBy_0 : decode prog_9_method_16_code 0 = .ok (.aload_n 0, 1) := by decide +kernel
theorem dX7_farBy_1 : decode prog_9_method_16_code 1 = .ok (.getfield 9, 3) := by decide +kernel
theorem dX7_farBy_4 : decode prog_9_method_16_code 4 = .ok (.iload_n 1, 1) := by decide +kernel
theorem dX7_farBy_5 : decode prog_9_method_16_code 5 = .ok (.bipush 6, 2) := by decide +kernel
theorem dX7_farBy_7 : decode prog_9_method_16_code 7 = .ok (.imul, 1) := by decide +kernel
theorem dX7_farBy_8 : decode prog_9_method_16_code 8 = .ok (.iload_n 2, 1) := by decide +kernel
theorem dX7_farBy_9 : decode prog_9_method_16_code 9 = .ok (.iadd, 1) := by decide +kernel
theorem dX7_farBy_10 : decode prog_9_method_16_code 10 = .ok (.iaload, 1) := by decide +kernel
theorem dX7_farBy_11 : decode prog_9_method_16_code 11 = .ok (.istore_n 3, 1) := by decide +kernel
theorem dX7_farBy_12 : decode prog_9_method_16_code 12 = .ok (.iload_n 3, 1) := by decide +kernel
theorem dX7_farBy_13 : decode prog_9_method_16_code 13 = .ok (.iconst (-1), 1) := by decide +kernel
theorem dX7_farBy_14 : decode prog_9_method_16_code 14 = .ok (.if_icmp .eq 14, 3) := by decide +kernel
theorem dX7_farBy_17 : decode prog_9_method_16_code 17 = .ok (.aload_n 0, 1) := by decide +kernel
theorem dX7_farBy_18 : decode prog_9_method_16_code 18 = .ok (.getfield 18, 3) := by decide +kernel
theorem dX7_farBy_21 : decode prog_9_method_16_code 21 = .ok (.iload_n 2, 1) := by decide +kernel
theorem dX7_farBy_22 : decode prog_9_method_16_code 22 = .ok (.iaload, 1) := by decide +kernel
theorem dX7_farBy_23 : decode prog_9_method_16_code 23 = .ok (.ldc 51, 2) := by decide +kernel
theorem dX7_farBy_25 : decode prog_9_method_16_code 25 = .ok (.if_icmp .lt 8, 3) := by decide +kernel
theorem dX7_farBy_28 : decode prog_9_method_16_code 28 = .ok (.ldc 51, 2) := by decide +kernel
theorem dX7_farBy_30 : decode prog_9_method_16_code 30 = .ok (.goto 16, 3) := by decide +kernel
theorem dX7_farBy_33 : decode prog_9_method_16_code 33 = .ok (.aload_n 0, 1) := by decide +kernel
theorem dX7_farBy_34 : decode prog_9_method_16_code 34 = .ok (.getfield 18, 3) := by decide +kernel
theorem dX7_farBy_37 : decode prog_9_method_16_code 37 = .ok (.iload_n 2, 1) := by decide +kernel
theorem dX7_farBy_38 : decode prog_9_method_16_code 38 = .ok (.iaload, 1) := by decide +kernel
theorem dX7_farBy_39 : decode prog_9_method_16_code 39 = .ok (.iload_n 3, 1) := by decide +kernel
theorem dX7_farBy_40 : decode prog_9_method_16_code 40 = .ok (.bipush 8, 2) := by decide +kernel
theorem dX7_farBy_42 : decode prog_9_method_16_code 42 = .ok (.imul, 1) := by decide +kernel
theorem dX7_farBy_43 : decode prog_9_method_16_code 43 = .ok (.iadd, 1) := by decide +kernel
theorem dX7_farBy_44 : decode prog_9_method_16_code 44 = .ok (.iconst 1, 1) := by decide +kernel
theorem dX7_farBy_45 : decode prog_9_method_16_code 45 = .ok (.iadd, 1) := by decide +kernel
theorem dX7_farBy_46 : decode prog_9_method_16_code 46 = .ok (.ireturn, 1) := by decide +kernel
theorem sp_X7_farBy {c : Nat → Nat → Int} {f : Nat → Int} {p r : Nat} (cs : CS S R) (hm : MTr I c) (hf : FRr I f) (hp6 : p < 6) (hr6 : r < 6) (hp : Post (some (.int (iI (fbE c f p r)))) S I R) : Call n 0 0 mX7_farBy [.ref (S.2.1 291), .int (iI (p : Int)), .int (iI (r : Int))] S I R Post := by
  have hab : ((p : Int) * 6 + (r : Int)).toNat = p * 6 + r := by omega
  have hcb := hm.2 p r
  have hfb := hf.2 r
  unfold fbE at hp
  refine Call.of (by decide +kernel) (Nat.le_of_ble_eq_true rfl) ?_
  show WP _ _ _ _ _ 0 [(0, _), (1, _), (2, _)] [] 0 0 _ _ _
  refine x_aload_n dX7_farBy_0 rfl ?_
  refine x_getR (b := 292) dX7_farBy_1 gf_RX7_9 (k_ob_291 cs) (fun _ _ => rfl) (k_r_291_2 cs) ?_
  refine x_iload_n dX7_farBy_4 rfl ?_
  refine x_bipush dX7_farBy_5 (by decide) ?_
  refine x_imul dX7_farBy_7 ?_
  refine x_iload_n dX7_farBy_8 rfl ?_
  refine x_iadd dX7_farBy_9 ?_
  refine x_iaload dX7_farBy_10 (k_ar_292 cs) (by omega) (by omega) ?_
  rw [hab, hm.1 p r hp6 hr6]
  refine x_istore_n (lv2 := [(3, _), (0, _), (1, _), (2, _)]) dX7_farBy_11 (by decide) rfl ?_
  refine x_iload_n dX7_farBy_12 rfl ?_
  refine x_iconst dX7_farBy_13 ?_
  refine x_icmp_eq 28 dX7_farBy_14 (by decide) ⟨(by omega), (by omega)⟩ (fun w14 => ?_) (fun w14 => ?_)
  · refine x_ldc (z := 10000000) dX7_farBy_28 (bw_in (lwt_5 (List.mem_of_getElem? (i := 102) (by decide +kernel))) (by decide +kernel)) ?_
    refine x_goto 46 dX7_farBy_30 (by decide) ?_
    exact x_ireturn dX7_farBy_46 rfl (by omega) (by omega) (by first | (rw [if_pos (by omega)] at hp; exact hp) | (rw [if_neg (by omega)] at hp; exact hp))
  · refine x_aload_n dX7_farBy_17 rfl ?_
    refine x_getR (b := 294) dX7_farBy_18 gf_RX7_18 (k_ob_291 cs) (fun _ _ => rfl) (k_r_291_4 cs) ?_
    refine x_iload_n dX7_farBy_21 rfl ?_
    refine x_iaload dX7_farBy_22 (k_ar_294 cs) (by omega) (by omega) ?_
    rw [tN, hf.1 r hr6]
    refine x_ldc (z := 10000000) dX7_farBy_23 (bw_in (lwt_5 (List.mem_of_getElem? (i := 102) (by decide +kernel))) (by decide +kernel)) ?_
    refine x_icmp_lt 33 dX7_farBy_25 (by decide) ⟨(by omega), (by omega)⟩ (fun w25 => ?_) (fun w25 => ?_)
    · refine x_aload_n dX7_farBy_33 rfl ?_
      refine x_getR (b := 294) dX7_farBy_34 gf_RX7_18 (k_ob_291 cs) (fun _ _ => rfl) (k_r_291_4 cs) ?_
      refine x_iload_n dX7_farBy_37 rfl ?_
      refine x_iaload dX7_farBy_38 (k_ar_294 cs) (by omega) (by omega) ?_
      rw [tN, hf.1 r hr6]
      refine x_iload_n dX7_farBy_39 rfl ?_
      refine x_bipush dX7_farBy_40 (by decide) ?_
      refine x_imul dX7_farBy_42 ?_
      refine x_iadd dX7_farBy_43 ?_
      refine x_iconst dX7_farBy_44 ?_
      refine x_iadd dX7_farBy_45 ?_
      exact x_ireturn dX7_farBy_46 rfl (by omega) (by omega) (by first | (rw [if_pos (by omega)] at hp; exact hp) | (rw [if_neg (by omega)] at hp; exact hp))
    · refine x_ldc (z := 10000000) dX7_farBy_28 (bw_in (lwt_5 (List.mem_of_getElem? (i := 102) (by decide +kernel))) (by decide +kernel)) ?_
      refine x_goto 46 dX7_farBy_30 (by decide) ?_
      exact x_ireturn dX7_farBy_46 rfl (by omega) (by omega) (by first | (rw [if_pos (by omega)] at hp; exact hp) | (rw [if_neg (by omega)] at hp; exact hp))
theorem dX7_measure_0 : decode prog_9_method_15_code 0 = .ok (.aload_n 0, 1) := by decide +kernel
theorem dX7_measure_1 : decode prog_9_method_15_code 1 = .ok (.getfield 18, 3) := by decide +kernel
theorem dX7_measure_4 : decode prog_9_method_15_code 4 = .ok (.ldc 51, 2) := by decide +kernel
theorem dX7_measure_6 : decode prog_9_method_15_code 6 = .ok (.invokestatic 70, 3) := by decide +kernel
theorem dX7_measure_9 : decode prog_9_method_15_code 9 = .ok (.aload_n 0, 1) := by decide +kernel
theorem dX7_measure_10 : decode prog_9_method_15_code 10 = .ok (.getfield 18, 3) := by decide +kernel
theorem dX7_measure_13 : decode prog_9_method_15_code 13 = .ok (.iload_n 1, 1) := by decide +kernel
theorem dX7_measure_14 : decode prog_9_method_15_code 14 = .ok (.iconst 0, 1) := by decide +kernel
theorem dX7_measure_15 : decode prog_9_method_15_code 15 = .ok (.iastore, 1) := by decide +kernel
theorem dX7_measure_16 : decode prog_9_method_15_code 16 = .ok (.iconst 1, 1) := by decide +kernel
theorem dX7_measure_17 : decode prog_9_method_15_code 17 = .ok (.istore_n 2, 1) := by decide +kernel
theorem dX7_measure_18 : decode prog_9_method_15_code 18 = .ok (.iload_n 2, 1) := by decide +kernel
theorem dX7_measure_19 : decode prog_9_method_15_code 19 = .ok (.bipush 6, 2) := by decide +kernel
theorem dX7_measure_21 : decode prog_9_method_15_code 21 = .ok (.if_icmp .ge 61, 3) := by decide +kernel
theorem dX7_measure_24 : decode prog_9_method_15_code 24 = .ok (.iconst 0, 1) := by decide +kernel
theorem dX7_measure_25 : decode prog_9_method_15_code 25 = .ok (.istore_n 3, 1) := by decide +kernel
theorem dX7_measure_26 : decode prog_9_method_15_code 26 = .ok (.iload_n 3, 1) := by decide +kernel
theorem dX7_measure_27 : decode prog_9_method_15_code 27 = .ok (.bipush 6, 2) := by decide +kernel
theorem dX7_measure_29 : decode prog_9_method_15_code 29 = .ok (.if_icmp .ge 47, 3) := by decide +kernel
theorem dX7_measure_32 : decode prog_9_method_15_code 32 = .ok (.iconst 0, 1) := by decide +kernel
theorem dX7_measure_33 : decode prog_9_method_15_code 33 = .ok (.istore 4, 2) := by decide +kernel
theorem dX7_measure_35 : decode prog_9_method_15_code 35 = .ok (.iload 4, 2) := by decide +kernel
theorem dX7_measure_37 : decode prog_9_method_15_code 37 = .ok (.bipush 6, 2) := by decide +kernel
theorem dX7_measure_39 : decode prog_9_method_15_code 39 = .ok (.if_icmp .ge 31, 3) := by decide +kernel
theorem dX7_measure_42 : decode prog_9_method_15_code 42 = .ok (.aload_n 0, 1) := by decide +kernel
theorem dX7_measure_43 : decode prog_9_method_15_code 43 = .ok (.getfield 18, 3) := by decide +kernel
theorem dX7_measure_46 : decode prog_9_method_15_code 46 = .ok (.iload_n 3, 1) := by decide +kernel
theorem dX7_measure_47 : decode prog_9_method_15_code 47 = .ok (.aload_n 0, 1) := by decide +kernel
theorem dX7_measure_48 : decode prog_9_method_15_code 48 = .ok (.getfield 18, 3) := by decide +kernel
theorem dX7_measure_51 : decode prog_9_method_15_code 51 = .ok (.iload_n 3, 1) := by decide +kernel
theorem dX7_measure_52 : decode prog_9_method_15_code 52 = .ok (.iaload, 1) := by decide +kernel
theorem dX7_measure_53 : decode prog_9_method_15_code 53 = .ok (.aload_n 0, 1) := by decide +kernel
theorem dX7_measure_54 : decode prog_9_method_15_code 54 = .ok (.iload_n 3, 1) := by decide +kernel
theorem dX7_measure_55 : decode prog_9_method_15_code 55 = .ok (.iload 4, 2) := by decide +kernel
theorem dX7_measure_57 : decode prog_9_method_15_code 57 = .ok (.invokevirtual 106, 3) := by decide +kernel
theorem dX7_measure_60 : decode prog_9_method_15_code 60 = .ok (.invokestatic 64, 3) := by decide +kernel
theorem dX7_measure_63 : decode prog_9_method_15_code 63 = .ok (.iastore, 1) := by decide +kernel
theorem dX7_measure_64 : decode prog_9_method_15_code 64 = .ok (.iinc 4 1, 3) := by decide +kernel
theorem dX7_measure_67 : decode prog_9_method_15_code 67 = .ok (.goto (-32), 3) := by decide +kernel
theorem dX7_measure_70 : decode prog_9_method_15_code 70 = .ok (.iinc 3 1, 3) := by decide +kernel
theorem dX7_measure_73 : decode prog_9_method_15_code 73 = .ok (.goto (-47), 3) := by decide +kernel
theorem dX7_measure_76 : decode prog_9_method_15_code 76 = .ok (.iinc 2 1, 3) := by decide +kernel
theorem dX7_measure_79 : decode prog_9_method_15_code 79 = .ok (.goto (-61), 3) := by decide +kernel
theorem dX7_measure_82 : decode prog_9_method_15_code 82 = .ok (.return_, 1) := by decide +kernel
theorem lp1_X7_measure {c : Nat → Nat → Int} {f : Nat → Int} {p : Nat} {qq tt : Int} (cs : CS S R) (hm : MTr I c) (hp6 : p < 6) (hfb : FB f) (hn : 1 ≤ n) (hK : ∀ I', (∀ x, x ≠ 294 → I' x = I x) → FRr I' (rlK c f p 6) → WP n 0 0 mX7_measure Post 70 [(0, .ref (S.2.1 291)), (1, .int (iI qq)), (2, .int (iI tt)), (3, .int (iI (p : Int)))] [] 0 0 S I' R) : ∀ (d k : Nat) (J : CI), k ≤ 6 → 6 - k = d → (∀ x, x ≠ 294 → J x = I x) → FRr J (rlK c f p k) → WP n 0 0 mX7_measure Post 35 [(0, .ref (S.2.1 291)), (1, .int (iI qq)), (2, .int (iI tt)), (3, .int (iI (p : Int))), (4, .int (iI (k : Int)))] [] 0 0 S J R := by
  intro d
  induction d using Nat.strongRecOn with
  | ind d ih =>
    intro k J k1 k2 hF hfr
    have hmJ := MTr_fr hm (hF 292 (by omega))
    have h1 := hfr.2 p
    have h2 := fbE_b hm.2 hfr.2 p k
    refine x_iload dX7_measure_35 rfl ?_
    refine x_bipush dX7_measure_37 (by decide) ?_
    refine x_icmp_ge 70 dX7_measure_39 (by decide) ⟨(by omega), (by omega)⟩ (fun w39 => ?_) (fun w39 => ?_)
    · refine x_sub [0, 1, 2, 3] rfl ?_
      obtain rfl : k = 6 := by omega
      exact hK J hF hfr
    · refine x_aload_n dX7_measure_42 rfl ?_
      refine x_getR (b := 294) dX7_measure_43 gf_RX7_18 (k_ob_291 cs) (fun _ _ => rfl) (k_r_291_4 cs) ?_
      refine x_iload_n dX7_measure_46 rfl ?_
      refine x_aload_n dX7_measure_47 rfl ?_
      refine x_getR (b := 294) dX7_measure_48 gf_RX7_18 (k_ob_291 cs) (fun _ _ => rfl) (k_r_291_4 cs) ?_
      refine x_iload_n dX7_measure_51 rfl ?_
      refine x_iaload dX7_measure_52 (k_ar_294 cs) (by omega) (by omega) ?_
      rw [tN, hfr.1 p hp6]
      refine x_aload_n dX7_measure_53 rfl ?_
      refine x_iload_n dX7_measure_54 rfl ?_
      refine x_iload dX7_measure_55 rfl ?_
      refine x_callV2 (mc1 := 0) (ms1 := 0) dX7_measure_57 cv_RX7_106 (ci := 7) (k_ob_291 cs) rfl (Nat.le_of_ble_eq_true rfl) (n1 := n - 1) (by omega) (by omega) (by omega) ?_
      refine sp_X7_farBy cs hmJ hfr hp6 (by omega) ?_
      refine x_mmin dX7_measure_60 cv_RX7_64 (by omega) (Nat.le_of_ble_eq_true rfl) (by omega) (by omega) (by omega) (fun r60 hr60 => ?_)
      refine x_iastore dX7_measure_63 (k_ar_294 cs) (by omega) (by omega) ?_
      rw [tN]
      refine x_iinc (lv2 := [(4, _), (0, _), (1, _), (2, _), (3, _)]) dX7_measure_64 rfl (by decide) rfl ?_
      refine x_goto 35 dX7_measure_67 (by decide) ?_
      refine x_sub [1, 2, 3, 4, 0] rfl ?_
      refine ih _ (by omega) (k + 1) _ (by omega) rfl (fun x hx => (uI_row hx).trans (hF x hx)) ⟨fun i hi => ?_, rlK_b hm.2 hfb (k + 1)⟩
      simp only [rlK]
      by_cases e : i = p
      · subst e
        rw [uI_s, upA_s]
        rcases hr60 with hh | hh
        · rw [if_pos hh.2]; exact hh.1
        · rw [if_neg (by omega)]; exact hh.1
      · rw [uI_o (by omega), upA_o e]; exact hfr.1 i hi
theorem lp2_X7_measure {c : Nat → Nat → Int} {f : Nat → Int} {qq tt : Int} (cs : CS S R) (hm : MTr I c) (hfb : FB f) (hn : 1 ≤ n) (hK : ∀ I', (∀ x, x ≠ 294 → I' x = I x) → FRr I' (rlP c f 6) → WP n 0 0 mX7_measure Post 76 [(0, .ref (S.2.1 291)), (1, .int (iI qq)), (2, .int (iI tt))] [] 0 0 S I' R) : ∀ (d p : Nat) (J : CI), p ≤ 6 → 6 - p = d → (∀ x, x ≠ 294 → J x = I x) → FRr J (rlP c f p) → WP n 0 0 mX7_measure Post 26 [(0, .ref (S.2.1 291)), (1, .int (iI qq)), (2, .int (iI tt)), (3, .int (iI (p : Int)))] [] 0 0 S J R := by
  intro d
  induction d using Nat.strongRecOn with
  | ind d ih =>
    intro p J k1 k2 hF hfr
    have hmJ := MTr_fr hm (hF 292 (by omega))
    refine x_iload_n dX7_measure_26 rfl ?_
    refine x_bipush dX7_measure_27 (by decide) ?_
    refine x_icmp_ge 76 dX7_measure_29 (by decide) ⟨(by omega), (by omega)⟩ (fun w29 => ?_) (fun w29 => ?_)
    · refine x_sub [0, 1, 2] rfl ?_
      obtain rfl : p = 6 := by omega
      exact hK J hF hfr
    · refine x_iconst dX7_measure_32 ?_
      refine x_istore (lv2 := [(4, _), (0, _), (1, _), (2, _), (3, _)]) dX7_measure_33 (by decide) rfl ?_
      refine x_sub [1, 2, 3, 4, 0] rfl ?_
      refine lp1_X7_measure (f := rlP c f p) cs hmJ (by omega) hfr.2 hn (fun I7 hF7 hfr7 => ?_) _ 0 J (by omega) rfl (fun _ _ => rfl) hfr
      refine x_iinc (lv2 := [(3, _), (0, _), (1, _), (2, _)]) dX7_measure_70 rfl (by decide) rfl ?_
      refine x_goto 26 dX7_measure_73 (by decide) ?_
      refine x_sub [1, 2, 3, 0] rfl ?_
      exact ih _ (by omega) (p + 1) I7 (by omega) rfl (fun x hx => (hF7 x hx).trans (hF x hx)) hfr7
theorem lp3_X7_measure {c : Nat → Nat → Int} {f : Nat → Int} {qq : Int} (cs : CS S R) (hm : MTr I c) (hfb : FB f) (hn : 1 ≤ n) (hp : ∀ I', (∀ x, x ≠ 294 → I' x = I x) → FRr I' (rlR c f 5) → Post none S I' R) : ∀ (d t : Nat) (J : CI), t ≤ 5 → 5 - t = d → (∀ x, x ≠ 294 → J x = I x) → FRr J (rlR c f t) → WP n 0 0 mX7_measure Post 18 [(0, .ref (S.2.1 291)), (1, .int (iI qq)), (2, .int (iI ((t : Int) + 1)))] [] 0 0 S J R := by
  intro d
  induction d using Nat.strongRecOn with
  | ind d ih =>
    intro t J k1 k2 hF hfr
    have hmJ := MTr_fr hm (hF 292 (by omega))
    refine x_iload_n dX7_measure_18 rfl ?_
    refine x_bipush dX7_measure_19 (by decide) ?_
    refine x_icmp_ge 82 dX7_measure_21 (by decide) ⟨(by omega), (by omega)⟩ (fun w21 => ?_) (fun w21 => ?_)
    · exact x_return dX7_measure_82 rfl (by omega) (by omega) (by obtain rfl : t = 5 := (by omega); exact hp _ hF hfr)
    · refine x_iconst dX7_measure_24 ?_
      refine x_istore_n (lv2 := [(3, _), (0, _), (1, _), (2, _)]) dX7_measure_25 (by decide) rfl ?_
      refine x_sub [1, 2, 3, 0] rfl ?_
      refine lp2_X7_measure (f := rlR c f t) cs hmJ hfr.2 hn (fun I7 hF7 hfr7 => ?_) _ 0 J (by omega) rfl (fun _ _ => rfl) hfr
      refine x_iinc (lv2 := [(2, _), (0, _), (1, _)]) dX7_measure_76 rfl (by decide) rfl ?_
      refine x_goto 18 dX7_measure_79 (by decide) ?_
      refine x_sub [1, 2, 0] rfl ?_
      exact ih _ (by omega) (t + 1) I7 (by omega) rfl (fun x hx => (hF7 x hx).trans (hF x hx)) hfr7
theorem sp_X7_measure {c : Nat → Nat → Int} {q : Nat} (cs : CS S R) (hm : MTr I c) (hq : q < 6) (hn : 2 ≤ n) (hp : ∀ I', (∀ x, x ≠ 294 → I' x = I x) → FRr I' (msr c q) → Post none S I' R) : Call n 0 0 mX7_measure [.ref (S.2.1 291), .int (iI (q : Int))] S I R Post := by
  refine Call.of (by decide +kernel) (Nat.le_of_ble_eq_true rfl) ?_
  show WP _ _ _ _ _ 0 [(0, _), (1, _)] [] 0 0 _ _ _
  refine x_aload_n dX7_measure_0 rfl ?_
  refine x_getR (b := 294) dX7_measure_1 gf_RX7_18 (k_ob_291 cs) (fun _ _ => rfl) (k_r_291_4 cs) ?_
  refine x_ldc (z := 10000000) dX7_measure_4 (bw_in (lwt_5 (List.mem_of_getElem? (i := 102) (by decide +kernel))) (by decide +kernel)) ?_
  refine x_callS2 (mc1 := 0) (ms1 := 0) dX7_measure_6 cv_RX7_70 (Nat.le_of_ble_eq_true rfl) (n1 := n - 1) (by omega) (by omega) (by omega) ?_
  refine sp_fill (k_ar_294 cs) (by omega) (fun I6 h6 h6o => ?_)
  refine x_aload_n dX7_measure_9 rfl ?_
  refine x_getR (b := 294) dX7_measure_10 gf_RX7_18 (k_ob_291 cs) (fun _ _ => rfl) (k_r_291_4 cs) ?_
  refine x_iload_n dX7_measure_13 rfl ?_
  refine x_iconst dX7_measure_14 ?_
  refine x_iastore dX7_measure_15 (k_ar_294 cs) (by omega) (by omega) ?_
  rw [tN]
  refine x_iconst dX7_measure_16 ?_
  refine x_istore_n (lv2 := [(2, _), (0, _), (1, _)]) dX7_measure_17 (by decide) rfl ?_
  refine x_sub [1, 2, 0] rfl ?_
  have hfr : FRr (uI I6 294 q 0) (fr0 q) := ⟨fun i hi => by
    unfold fr0
    by_cases e : i = q
    · rw [if_pos e, e, uI_s]
    · rw [if_neg e, uI_o (by omega)]; exact h6 i hi, fr0_b q⟩
  exact lp3_X7_measure (f := fr0 q) cs hm (fr0_b q) (by omega) hp _ 0 _ (by omega) rfl (fun x hx => (uI_row hx).trans (h6o x hx)) hfr
def wdP (f : Nat → Int) (a : Nat) : Int := if 10000000 ≤ f a then -1 else f a / 8
def nxL (c : Nat → Nat → Int) (f : Nat → Int) (p : Nat) : Nat → Nat → Nat
  | 0, _ => p
  | d + 1, r => if fbE c f p r = f p then r else nxL c f p d (r + 1)
def nxP (c : Nat → Nat → Int) (f : Nat → Int) (p : Nat) : Nat := nxL c f p 6 0
def wyL (c : Nat → Nat → Int) (f : Nat → Int) (a : Nat) : Nat → Nat
  | 0 => a
  | k + 1 => nxP c f (wyL c f a k)
def wyP (c : Nat → Nat → Int) (f : Nat → Int) (a : Nat) (i : Int) : Int := if 10000000 ≤ f a then -2 else if i = -1 then f a % 8 + 1 else if 0 ≤ i ∧ i < f a % 8 + 1 then (wyL c f a i.toNat : Int) else -2
theorem nxL_b {c : Nat → Nat → Int} {f : Nat → Int} {p : Nat} (hp : p < 6) : ∀ d r : Nat, r + d ≤ 6 → nxL c f p d r < 6 := by
  intro d
  induction d with
  | zero => intro r _; exact hp
  | succ d ih =>
    intro r h
    simp only [nxL]
    split
    · omega
    · exact ih (r + 1) (by omega)
theorem wyL_b {c : Nat → Nat → Int} {f : Nat → Int} {a : Nat} (ha : a < 6) : ∀ k, wyL c f a k < 6 := by
  intro k
  induction k with
  | zero => exact ha
  | succ k ih => exact nxL_b ih 6 0 (by omega)
def f_word (A : Nat → Int) (tx : Nat → Nat → Int) (a b : Int) : Int := if (0 ≤ a ∧ a < 6) ∧ (0 ≤ b ∧ b < 6) then wdP (msr (cstA A tx) b.toNat) a.toNat else -1
def f_way (A : Nat → Int) (tx : Nat → Nat → Int) (a b i : Int) : Int := if (0 ≤ a ∧ a < 6) ∧ (0 ≤ b ∧ b < 6) then wyP (cstA A tx) (msr (cstA A tx) b.toNat) a.toNat i else -2
theorem Fk_far {I I' : CI} (h : ∀ x, x ≠ 294 → I' x = I x) : Fk I I' := fun c _ _ _ _ h5 => h c h5
theorem dX7_wordCost_0 : decode prog_9_method_6_code 0 = .ok (.aload_n 0, 1) := by decide +kernel
theorem dX7_wordCost_1 : decode prog_9_method_6_code 1 = .ok (.invokevirtual 29, 3) := by decide +kernel
theorem dX7_wordCost_4 : decode prog_9_method_6_code 4 = .ok (.aload_n 0, 1) := by decide +kernel
theorem dX7_wordCost_5 : decode prog_9_method_6_code 5 = .ok (.iload_n 2, 1) := by decide +kernel
theorem dX7_wordCost_6 : decode prog_9_method_6_code 6 = .ok (.invokevirtual 47, 3) := by decide +kernel
theorem dX7_wordCost_9 : decode prog_9_method_6_code 9 = .ok (.aload_n 0, 1) := by decide +kernel
theorem dX7_wordCost_10 : decode prog_9_method_6_code 10 = .ok (.getfield 18, 3) := by decide +kernel
theorem dX7_wordCost_13 : decode prog_9_method_6_code 13 = .ok (.iload_n 1, 1) := by decide +kernel
theorem dX7_wordCost_14 : decode prog_9_method_6_code 14 = .ok (.iaload, 1) := by decide +kernel
theorem dX7_wordCost_15 : decode prog_9_method_6_code 15 = .ok (.ldc 51, 2) := by decide +kernel
theorem dX7_wordCost_17 : decode prog_9_method_6_code 17 = .ok (.if_icmp .lt 7, 3) := by decide +kernel
theorem dX7_wordCost_20 : decode prog_9_method_6_code 20 = .ok (.iconst (-1), 1) := by decide +kernel
theorem dX7_wordCost_21 : decode prog_9_method_6_code 21 = .ok (.goto 12, 3) := by decide +kernel
theorem dX7_wordCost_24 : decode prog_9_method_6_code 24 = .ok (.aload_n 0, 1) := by decide +kernel
theorem dX7_wordCost_25 : decode prog_9_method_6_code 25 = .ok (.getfield 18, 3) := by decide +kernel
theorem dX7_wordCost_28 : decode prog_9_method_6_code 28 = .ok (.iload_n 1, 1) := by decide +kernel
theorem dX7_wordCost_29 : decode prog_9_method_6_code 29 = .ok (.iaload, 1) := by decide +kernel
theorem dX7_wordCost_30 : decode prog_9_method_6_code 30 = .ok (.bipush 8, 2) := by decide +kernel
theorem dX7_wordCost_32 : decode prog_9_method_6_code 32 = .ok (.idiv, 1) := by decide +kernel
theorem dX7_wordCost_33 : decode prog_9_method_6_code 33 = .ok (.ireturn, 1) := by decide +kernel
theorem sp_X7_wordCost {a b : Nat} (cs : CS S R) (hv : CIv S R I A tx) (ha : a < 6) (hb6 : b < 6) (hn : 6 ≤ n) (hp : ∀ I', CIv S R I' A tx → Fk I I' → Post (some (.int (iI (wdP (msr (cstA A tx) b) a)))) S I' R) : Call n 0 0 mX7_wordCost [.ref (S.2.1 291), .int (iI (a : Int)), .int (iI (b : Int))] S I R Post := by
  unfold wdP at hp
  refine Call.of (by decide +kernel) (Nat.le_of_ble_eq_true rfl) ?_
  show WP _ _ _ _ _ 0 [(0, _), (1, _), (2, _)] [] 0 0 _ _ _
  refine x_aload_n dX7_wordCost_0 rfl ?_
  refine x_callV0 (mc1 := 0) (ms1 := 0) dX7_wordCost_1 cv_RX7_29 (ci := 7) (k_ob_291 cs) rfl (Nat.le_of_ble_eq_true rfl) (n1 := n - 1) (by omega) (by omega) (by omega) ?_
  refine sp_X7_listen cs hv (by omega) (fun I1 hv1 hF1 hM1 hL1 => ?_)
  have hs1 : SPr I1 (spA A) := fun i hi => ⟨hL1 i hi, spA_lt i⟩
  have hm1 : MTr I1 (cstA A tx) := MTr_of hv1.2.1 hM1
  refine x_aload_n dX7_wordCost_4 rfl ?_
  refine x_iload_n dX7_wordCost_5 rfl ?_
  refine x_callV1 (mc1 := 0) (ms1 := 0) dX7_wordCost_6 cv_RX7_47 (ci := 7) (k_ob_291 cs) rfl (Nat.le_of_ble_eq_true rfl) (n1 := n - 1) (by omega) (by omega) (by omega) ?_
  refine sp_X7_measure cs hm1 (by omega) (by omega) (fun I2 hF2 hf2 => ?_)
  have hfa := hf2.2 a
  have hv2 := hv1.k1 (fun c _ _ h3 => hF2 c h3)
  have hm2 := MTr_fr hm1 (hF2 292 (by omega))
  refine x_aload_n dX7_wordCost_9 rfl ?_
  refine x_getR (b := 294) dX7_wordCost_10 gf_RX7_18 (k_ob_291 cs) (fun _ _ => rfl) (k_r_291_4 cs) ?_
  refine x_iload_n dX7_wordCost_13 rfl ?_
  refine x_iaload dX7_wordCost_14 (k_ar_294 cs) (by omega) (by omega) ?_
  rw [tN, hf2.1 a ha]
  refine x_ldc (z := 10000000) dX7_wordCost_15 (bw_in (lwt_5 (List.mem_of_getElem? (i := 102) (by decide +kernel))) (by decide +kernel)) ?_
  refine x_icmp_lt 24 dX7_wordCost_17 (by decide) ⟨(by omega), (by omega)⟩ (fun w17 => ?_) (fun w17 => ?_)
  · refine x_aload_n dX7_wordCost_24 rfl ?_
    refine x_getR (b := 294) dX7_wordCost_25 gf_RX7_18 (k_ob_291 cs) (fun _ _ => rfl) (k_r_291_4 cs) ?_
    refine x_iload_n dX7_wordCost_28 rfl ?_
    refine x_iaload dX7_wordCost_29 (k_ar_294 cs) (by omega) (by omega) ?_
    rw [tN, hf2.1 a ha]
    refine x_bipush dX7_wordCost_30 (by decide) ?_
    refine x_idiv dX7_wordCost_32 (by omega) ?_
    exact x_ireturn dX7_wordCost_33 rfl (by omega) (by omega) (by first | (rw [if_pos (by omega)] at hp; exact hp _ hv2 (hF1.tr (Fk_far hF2))) | (rw [if_neg (by omega)] at hp; exact hp _ hv2 (hF1.tr (Fk_far hF2))))
  · refine x_iconst dX7_wordCost_20 ?_
    refine x_goto 33 dX7_wordCost_21 (by decide) ?_
    exact x_ireturn dX7_wordCost_33 rfl (by omega) (by omega) (by first | (rw [if_pos (by omega)] at hp; exact hp _ hv2 (hF1.tr (Fk_far hF2))) | (rw [if_neg (by omega)] at hp; exact hp _ hv2 (hF1.tr (Fk_far hF2))))
theorem dX7_nextOnWay_0 : decode prog_9_method_17_code 0 = .ok (.iconst 0, 1) := by decide +kernel
theorem dX7_nextOnWay_1 : decode prog_9_method_17_code 1 = .ok (.istore_n 2, 1) := by decide +kernel
theorem dX7_nextOnWay_2 : decode prog_9_method_17_code 2 = .ok (.iload_n 2, 1) := by decide +kernel
theorem dX7_nextOnWay_3 : decode prog_9_method_17_code 3 = .ok (.bipush 6, 2) := by decide +kernel
theorem dX7_nextOnWay_5 : decode prog_9_method_17_code 5 = .ok (.if_icmp .ge 26, 3) := by decide +kernel
theorem dX7_nextOnWay_8 : decode prog_9_method_17_code 8 = .ok (.aload_n 0, 1) := by decide +kernel
theorem dX7_nextOnWay_9 : decode prog_9_method_17_code 9 = .ok (.iload_n 1, 1) := by decide +kernel
theorem dX7_nextOnWay_10 : decode prog_9_method_17_code 10 = .ok (.iload_n 2, 1) := by decide +kernel
theorem dX7_nextOnWay_11 : decode prog_9_method_17_code 11 = .ok (.invokevirtual 106, 3) := by decide +kernel
theorem dX7_nextOnWay_14 : decode prog_9_method_17_code 14 = .ok (.aload_n 0, 1) := by decide +kernel
theorem dX7_nextOnWay_15 : decode prog_9_method_17_code 15 = .ok (.getfield 18, 3) := by decide +kernel
theorem dX7_nextOnWay_18 : decode prog_9_method_17_code 18 = .ok (.iload_n 1, 1) := by decide +kernel
theorem dX7_nextOnWay_19 : decode prog_9_method_17_code 19 = .ok (.iaload, 1) := by decide +kernel
theorem dX7_nextOnWay_20 : decode prog_9_method_17_code 20 = .ok (.if_icmp .ne 5, 3) := by decide +kernel
theorem dX7_nextOnWay_23 : decode prog_9_method_17_code 23 = .ok (.iload_n 2, 1) := by decide +kernel
theorem dX7_nextOnWay_24 : decode prog_9_method_17_code 24 = .ok (.ireturn, 1) := by decide +kernel
theorem dX7_nextOnWay_25 : decode prog_9_method_17_code 25 = .ok (.iinc 2 1, 3) := by decide +kernel
theorem dX7_nextOnWay_28 : decode prog_9_method_17_code 28 = .ok (.goto (-26), 3) := by decide +kernel
theorem dX7_nextOnWay_31 : decode prog_9_method_17_code 31 = .ok (.iload_n 1, 1) := by decide +kernel
theorem dX7_nextOnWay_32 : decode prog_9_method_17_code 32 = .ok (.ireturn, 1) := by decide +kernel
theorem lp_X7_nextOnWay {c : Nat → Nat → Int} {f : Nat → Int} {p : Nat} (cs : CS S R) (hm : MTr I c) (hf : FRr I f) (hp6 : p < 6) (hn : 1 ≤ n) (hp : Post (some (.int (iI (nxP c f p : Int)))) S I R) : ∀ (d r : Nat), r + d = 6 → nxL c f p d r = nxP c f p → WP n 0 0 mX7_nextOnWay Post 2 [(0, .ref (S.2.1 291)), (1, .int (iI (p : Int))), (2, .int (iI (r : Int)))] [] 0 0 S I R := by
  intro d
  induction d with
  | zero =>
    intro r k1 k2
    rw [← k2] at hp
    refine x_iload_n dX7_nextOnWay_2 rfl ?_
    refine x_bipush dX7_nextOnWay_3 (by decide) ?_
    refine x_icmp_ge 31 dX7_nextOnWay_5 (by decide) ⟨(by omega), (by omega)⟩ (fun w5 => ?_) (fun w5 => ?_)
    · refine x_iload_n dX7_nextOnWay_31 rfl ?_
      exact x_ireturn dX7_nextOnWay_32 rfl (by omega) (by omega) (hp)
    · exfalso; omega
  | succ d ih =>
    intro r k1 k2
    have h1 := hf.2 p
    have h2 := fbE_b hm.2 hf.2 p r
    refine x_iload_n dX7_nextOnWay_2 rfl ?_
    refine x_bipush dX7_nextOnWay_3 (by decide) ?_
    refine x_icmp_ge 31 dX7_nextOnWay_5 (by decide) ⟨(by omega), (by omega)⟩ (fun w5 => ?_) (fun w5 => ?_)
    · exfalso; omega
    · refine x_aload_n dX7_nextOnWay_8 rfl ?_
      refine x_iload_n dX7_nextOnWay_9 rfl ?_
      refine x_iload_n dX7_nextOnWay_10 rfl ?_
      refine x_callV2 (mc1 := 0) (ms1 := 0) dX7_nextOnWay_11 cv_RX7_106 (ci := 7) (k_ob_291 cs) rfl (Nat.le_of_ble_eq_true rfl) (n1 := n - 1) (by omega) (by omega) (by omega) ?_
      refine sp_X7_farBy cs hm hf hp6 (by omega) ?_
      refine x_aload_n dX7_nextOnWay_14 rfl ?_
      refine x_getR (b := 294) dX7_nextOnWay_15 gf_RX7_18 (k_ob_291 cs) (fun _ _ => rfl) (k_r_291_4 cs) ?_
      refine x_iload_n dX7_nextOnWay_18 rfl ?_
      refine x_iaload dX7_nextOnWay_19 (k_ar_294 cs) (by omega) (by omega) ?_
      rw [tN, hf.1 p hp6]
      refine x_icmp_ne 25 dX7_nextOnWay_20 (by decide) ⟨(by omega), (by omega)⟩ (fun w20 => ?_) (fun w20 => ?_)
      · refine x_iinc (lv2 := [(2, _), (0, _), (1, _)]) dX7_nextOnWay_25 rfl (by decide) rfl ?_
        refine x_goto 2 dX7_nextOnWay_28 (by decide) ?_
        refine x_sub [1, 2, 0] rfl ?_
        exact ih (r + 1) (by omega) (by rw [← k2]; exact (if_neg (by omega)).symm)
      · refine x_iload_n dX7_nextOnWay_23 rfl ?_
        exact x_ireturn dX7_nextOnWay_24 rfl (by omega) (by omega) (by rw [← k2, show nxL c f p (d + 1) r = r from if_pos (by omega)] at hp; exact hp)
theorem sp_X7_nextOnWay {c : Nat → Nat → Int} {f : Nat → Int} {p : Nat} (cs : CS S R) (hm : MTr I c) (hf : FRr I f) (hp6 : p < 6) (hn : 1 ≤ n) (hp : Post (some (.int (iI (nxP c f p : Int)))) S I R) : Call n 0 0 mX7_nextOnWay [.ref (S.2.1 291), .int (iI (p : Int))] S I R Post := by
  refine Call.of (by decide +kernel) (Nat.le_of_ble_eq_true rfl) ?_
  show WP _ _ _ _ _ 0 [(0, _), (1, _)] [] 0 0 _ _ _
  refine x_iconst dX7_nextOnWay_0 ?_
  refine x_istore_n (lv2 := [(2, _), (0, _), (1, _)]) dX7_nextOnWay_1 (by decide) rfl ?_
  refine x_sub [1, 2, 0] rfl ?_
  exact lp_X7_nextOnWay cs hm hf hp6 hn hp 6 0 (by omega) rfl
theorem dX7_wayOf_0 : decode prog_9_method_7_code 0 = .ok (.aload_n 0, 1) := by decide +kernel
theorem dX7_wayOf_1 : decode prog_9_method_7_code 1 = .ok (.invokevirtual 29, 3) := by decide +kernel
theorem dX7_wayOf_4 : decode prog_9_method_7_code 4 = .ok (.aload_n 0, 1) := by decide +kernel
theorem dX7_wayOf_5 : decode prog_9_method_7_code 5 = .ok (.iload_n 2, 1) := by decide +kernel
theorem dX7_wayOf_6 : decode prog_9_method_7_code 6 = .ok (.invokevirtual 47, 3) := by decide +kernel
theorem dX7_wayOf_9 : decode prog_9_method_7_code 9 = .ok (.aload_n 0, 1) := by decide +kernel
theorem dX7_wayOf_10 : decode prog_9_method_7_code 10 = .ok (.getfield 18, 3) := by decide +kernel
theorem dX7_wayOf_13 : decode prog_9_method_7_code 13 = .ok (.iload_n 1, 1) := by decide +kernel
theorem dX7_wayOf_14 : decode prog_9_method_7_code 14 = .ok (.iaload, 1) := by decide +kernel
theorem dX7_wayOf_15 : decode prog_9_method_7_code 15 = .ok (.ldc 51, 2) := by decide +kernel
theorem dX7_wayOf_17 : decode prog_9_method_7_code 17 = .ok (.if_icmp .lt 6, 3) := by decide +kernel
theorem dX7_wayOf_20 : decode prog_9_method_7_code 20 = .ok (.bipush (-2), 2) := by decide +kernel
theorem dX7_wayOf_22 : decode prog_9_method_7_code 22 = .ok (.ireturn, 1) := by decide +kernel
theorem dX7_wayOf_23 : decode prog_9_method_7_code 23 = .ok (.aload_n 0, 1) := by decide +kernel
theorem dX7_wayOf_24 : decode prog_9_method_7_code 24 = .ok (.getfield 18, 3) := by decide +kernel
theorem dX7_wayOf_27 : decode prog_9_method_7_code 27 = .ok (.iload_n 1, 1) := by decide +kernel
theorem dX7_wayOf_28 : decode prog_9_method_7_code 28 = .ok (.iaload, 1) := by decide +kernel
theorem dX7_wayOf_29 : decode prog_9_method_7_code 29 = .ok (.bipush 8, 2) := by decide +kernel
theorem dX7_wayOf_31 : decode prog_9_method_7_code 31 = .ok (.irem, 1) := by decide +kernel
theorem dX7_wayOf_32 : decode prog_9_method_7_code 32 = .ok (.iconst 1, 1) := by decide +kernel
theorem dX7_wayOf_33 : decode prog_9_method_7_code 33 = .ok (.iadd, 1) := by decide +kernel
theorem dX7_wayOf_34 : decode prog_9_method_7_code 34 = .ok (.istore 4, 2) := by decide +kernel
theorem dX7_wayOf_36 : decode prog_9_method_7_code 36 = .ok (.iload_n 3, 1) := by decide +kernel
theorem dX7_wayOf_37 : decode prog_9_method_7_code 37 = .ok (.iconst (-1), 1) := by decide +kernel
theorem dX7_wayOf_38 : decode prog_9_method_7_code 38 = .ok (.if_icmp .ne 6, 3) := by decide +kernel
theorem dX7_wayOf_41 : decode prog_9_method_7_code 41 = .ok (.iload 4, 2) := by decide +kernel
theorem dX7_wayOf_43 : decode prog_9_method_7_code 43 = .ok (.ireturn, 1) := by decide +kernel
theorem dX7_wayOf_44 : decode prog_9_method_7_code 44 = .ok (.iload_n 3, 1) := by decide +kernel
theorem dX7_wayOf_45 : decode prog_9_method_7_code 45 = .ok (.ifCond .lt 9, 3) := by decide +kernel
theorem dX7_wayOf_48 : decode prog_9_method_7_code 48 = .ok (.iload_n 3, 1) := by decide +kernel
theorem dX7_wayOf_49 : decode prog_9_method_7_code 49 = .ok (.iload 4, 2) := by decide +kernel
theorem dX7_wayOf_51 : decode prog_9_method_7_code 51 = .ok (.if_icmp .lt 6, 3) := by decide +kernel
theorem dX7_wayOf_54 : decode prog_9_method_7_code 54 = .ok (.bipush (-2), 2) := by decide +kernel
theorem dX7_wayOf_56 : decode prog_9_method_7_code 56 = .ok (.ireturn, 1) := by decide +kernel
theorem dX7_wayOf_57 : decode prog_9_method_7_code 57 = .ok (.iload_n 1, 1) := by decide +kernel
theorem dX7_wayOf_58 : decode prog_9_method_7_code 58 = .ok (.istore 5, 2) := by decide +kernel
theorem dX7_wayOf_60 : decode prog_9_method_7_code 60 = .ok (.iconst 0, 1) := by decide +kernel
theorem dX7_wayOf_61 : decode prog_9_method_7_code 61 = .ok (.istore 6, 2) := by decide +kernel
theorem dX7_wayOf_63 : decode prog_9_method_7_code 63 = .ok (.iload 6, 2) := by decide +kernel
theorem dX7_wayOf_65 : decode prog_9_method_7_code 65 = .ok (.iload_n 3, 1) := by decide +kernel
theorem dX7_wayOf_66 : decode prog_9_method_7_code 66 = .ok (.if_icmp .ge 17, 3) := by decide +kernel
theorem dX7_wayOf_69 : decode prog_9_method_7_code 69 = .ok (.aload_n 0, 1) := by decide +kernel
theorem dX7_wayOf_70 : decode prog_9_method_7_code 70 = .ok (.iload 5, 2) := by decide +kernel
theorem dX7_wayOf_72 : decode prog_9_method_7_code 72 = .ok (.invokevirtual 52, 3) := by decide +kernel
theorem dX7_wayOf_75 : decode prog_9_method_7_code 75 = .ok (.istore 5, 2) := by decide +kernel
theorem dX7_wayOf_77 : decode prog_9_method_7_code 77 = .ok (.iinc 6 1, 3) := by decide +kernel
theorem dX7_wayOf_80 : decode prog_9_method_7_code 80 = .ok (.goto (-17), 3) := by decide +kernel
theorem dX7_wayOf_83 : decode prog_9_method_7_code 83 = .ok (.iload 5, 2) := by decide +kernel
theorem dX7_wayOf_85 : decode prog_9_method_7_code 85 = .ok (.ireturn, 1) := by decide +kernel
theorem lp_X7_wayOf {c : Nat → Nat → Int} {f : Nat → Int} {a : Nat} {bb i pp : Int} (cs : CS S R) (hm : MTr I c) (hf : FRr I f) (ha : a < 6) (hi : 0 ≤ i ∧ i < 100) (hn : 2 ≤ n) (hp : Post (some (.int (iI (wyL c f a i.toNat : Int)))) S I R) : ∀ (d k : Nat), (k : Int) ≤ i → i.toNat - k = d → WP n 0 0 mX7_wayOf Post 63 [(0, .ref (S.2.1 291)), (1, .int (iI (a : Int))), (2, .int (iI bb)), (3, .int (iI i)), (4, .int (iI pp)), (5, .int (iI (wyL c f a k : Int))), (6, .int (iI (k : Int)))] [] 0 0 S I R := by
  intro d
  induction d using Nat.strongRecOn with
  | ind d ih =>
    intro k k1 k2
    have hb := wyL_b (c := c) (f := f) ha k
    refine x_iload dX7_wayOf_63 rfl ?_
    refine x_iload_n dX7_wayOf_65 rfl ?_
    refine x_icmp_ge 83 dX7_wayOf_66 (by decide) ⟨(by omega), (by omega)⟩ (fun w66 => ?_) (fun w66 => ?_)
    · refine x_iload dX7_wayOf_83 rfl ?_
      exact x_ireturn dX7_wayOf_85 rfl (by omega) (by omega) (by obtain rfl : k = i.toNat := (by omega); exact hp)
    · refine x_aload_n dX7_wayOf_69 rfl ?_
      refine x_iload dX7_wayOf_70 rfl ?_
      refine x_callV1 (mc1 := 0) (ms1 := 0) dX7_wayOf_72 cv_RX7_52 (ci := 7) (k_ob_291 cs) rfl (Nat.le_of_ble_eq_true rfl) (n1 := n - 1) (by omega) (by omega) (by omega) ?_
      refine sp_X7_nextOnWay cs hm hf (by omega) (by omega) ?_
      refine x_istore (lv2 := [(5, _), (0, _), (1, _), (2, _), (3, _), (4, _), (6, _)]) dX7_wayOf_75 (by decide) rfl ?_
      refine x_iinc (lv2 := [(6, _), (5, _), (0, _), (1, _), (2, _), (3, _), (4, _)]) dX7_wayOf_77 rfl (by decide) rfl ?_
      refine x_goto 63 dX7_wayOf_80 (by decide) ?_
      refine x_sub [2, 3, 4, 5, 6, 1, 0] rfl ?_
      exact ih _ (by omega) (k + 1) (by omega) rfl
theorem sp_X7_wayOf {a b : Nat} {i : Int} (cs : CS S R) (hv : CIv S R I A tx) (ha : a < 6) (hb6 : b < 6) (hi : Rg i) (hn : 6 ≤ n) (hp : ∀ I', CIv S R I' A tx → Fk I I' → Post (some (.int (iI (wyP (cstA A tx) (msr (cstA A tx) b) a i)))) S I' R) : Call n 0 0 mX7_wayOf [.ref (S.2.1 291), .int (iI (a : Int)), .int (iI (b : Int)), .int (iI i)] S I R Post := by
  unfold wyP at hp
  refine Call.of (by decide +kernel) (Nat.le_of_ble_eq_true rfl) ?_
  show WP _ _ _ _ _ 0 [(0, _), (1, _), (2, _), (3, _)] [] 0 0 _ _ _
  refine x_aload_n dX7_wayOf_0 rfl ?_
  refine x_callV0 (mc1 := 0) (ms1 := 0) dX7_wayOf_1 cv_RX7_29 (ci := 7) (k_ob_291 cs) rfl (Nat.le_of_ble_eq_true rfl) (n1 := n - 1) (by omega) (by omega) (by omega) ?_
  refine sp_X7_listen cs hv (by omega) (fun I1 hv1 hF1 hM1 hL1 => ?_)
  have hs1 : SPr I1 (spA A) := fun i hi => ⟨hL1 i hi, spA_lt i⟩
  have hm1 : MTr I1 (cstA A tx) := MTr_of hv1.2.1 hM1
  refine x_aload_n dX7_wayOf_4 rfl ?_
  refine x_iload_n dX7_wayOf_5 rfl ?_
  refine x_callV1 (mc1 := 0) (ms1 := 0) dX7_wayOf_6 cv_RX7_47 (ci := 7) (k_ob_291 cs) rfl (Nat.le_of_ble_eq_true rfl) (n1 := n - 1) (by omega) (by omega) (by omega) ?_
  refine sp_X7_measure cs hm1 (by omega) (by omega) (fun I2 hF2 hf2 => ?_)
  have hfa := hf2.2 a
  have hv2 := hv1.k1 (fun c _ _ h3 => hF2 c h3)
  have hm2 := MTr_fr hm1 (hF2 292 (by omega))
  refine x_aload_n dX7_wayOf_9 rfl ?_
  refine x_getR (b := 294) dX7_wayOf_10 gf_RX7_18 (k_ob_291 cs) (fun _ _ => rfl) (k_r_291_4 cs) ?_
  refine x_iload_n dX7_wayOf_13 rfl ?_
  refine x_iaload dX7_wayOf_14 (k_ar_294 cs) (by omega) (by omega) ?_
  rw [tN, hf2.1 a ha]
  refine x_ldc (z := 10000000) dX7_wayOf_15 (bw_in (lwt_5 (List.mem_of_getElem? (i := 102) (by decide +kernel))) (by decide +kernel)) ?_
  refine x_icmp_lt 23 dX7_wayOf_17 (by decide) ⟨(by omega), (by omega)⟩ (fun w17 => ?_) (fun w17 => ?_)
  · refine x_aload_n dX7_wayOf_23 rfl ?_
    refine x_getR (b := 294) dX7_wayOf_24 gf_RX7_18 (k_ob_291 cs) (fun _ _ => rfl) (k_r_291_4 cs) ?_
    refine x_iload_n dX7_wayOf_27 rfl ?_
    refine x_iaload dX7_wayOf_28 (k_ar_294 cs) (by omega) (by omega) ?_
    rw [tN, hf2.1 a ha]
    refine x_bipush dX7_wayOf_29 (by decide) ?_
    refine x_irem dX7_wayOf_31 (by omega) ?_
    refine x_iconst dX7_wayOf_32 ?_
    refine x_iadd dX7_wayOf_33 ?_
    refine x_istore (lv2 := [(4, _), (0, _), (1, _), (2, _), (3, _)]) dX7_wayOf_34 (by decide) rfl ?_
    refine x_iload_n dX7_wayOf_36 rfl ?_
    refine x_iconst dX7_wayOf_37 ?_
    refine x_icmp_ne 44 dX7_wayOf_38 (by decide) ⟨(by omega), (by omega)⟩ (fun w38 => ?_) (fun w38 => ?_)
    · refine x_iload_n dX7_wayOf_44 rfl ?_
      refine x_if_lt 54 dX7_wayOf_45 (by decide) (by omega) (fun w45 => ?_) (fun w45 => ?_)
      · refine x_bipush dX7_wayOf_54 (by decide) ?_
        exact x_ireturn dX7_wayOf_56 rfl (by omega) (by omega) (by first | (rw [if_pos (by omega)] at hp; exact hp _ hv2 (hF1.tr (Fk_far hF2))) | (rw [if_neg (by omega), if_pos (by omega)] at hp; exact hp _ hv2 (hF1.tr (Fk_far hF2))) | (rw [if_neg (by omega), if_neg (by omega), if_neg (by omega)] at hp; exact hp _ hv2 (hF1.tr (Fk_far hF2))))
      · refine x_iload_n dX7_wayOf_48 rfl ?_
        refine x_iload dX7_wayOf_49 rfl ?_
        refine x_icmp_lt 57 dX7_wayOf_51 (by decide) ⟨(by omega), (by omega)⟩ (fun w51 => ?_) (fun w51 => ?_)
        · refine x_iload_n dX7_wayOf_57 rfl ?_
          refine x_istore (lv2 := [(5, _), (4, _), (0, _), (1, _), (2, _), (3, _)]) dX7_wayOf_58 (by decide) rfl ?_
          refine x_iconst dX7_wayOf_60 ?_
          refine x_istore (lv2 := [(6, _), (5, _), (4, _), (0, _), (1, _), (2, _), (3, _)]) dX7_wayOf_61 (by decide) rfl ?_
          refine x_sub [3, 4, 5, 6, 2, 1, 0] rfl ?_
          rw [if_neg (by omega), if_neg (by omega), if_pos (by omega)] at hp
          exact lp_X7_wayOf cs hm2 hf2 ha (by omega) (by omega) (hp _ hv2 (hF1.tr (Fk_far hF2))) _ 0 (by omega) rfl
        · refine x_bipush dX7_wayOf_54 (by decide) ?_
          exact x_ireturn dX7_wayOf_56 rfl (by omega) (by omega) (by first | (rw [if_pos (by omega)] at hp; exact hp _ hv2 (hF1.tr (Fk_far hF2))) | (rw [if_neg (by omega), if_pos (by omega)] at hp; exact hp _ hv2 (hF1.tr (Fk_far hF2))) | (rw [if_neg (by omega), if_neg (by omega), if_neg (by omega)] at hp; exact hp _ hv2 (hF1.tr (Fk_far hF2))))
    · refine x_iload dX7_wayOf_41 rfl ?_
      exact x_ireturn dX7_wayOf_43 rfl (by omega) (by omega) (by first | (rw [if_pos (by omega)] at hp; exact hp _ hv2 (hF1.tr (Fk_far hF2))) | (rw [if_neg (by omega), if_pos (by omega)] at hp; exact hp _ hv2 (hF1.tr (Fk_far hF2))) | (rw [if_neg (by omega), if_neg (by omega), if_neg (by omega)] at hp; exact hp _ hv2 (hF1.tr (Fk_far hF2))))
  · refine x_bipush dX7_wayOf_20 (by decide) ?_
    exact x_ireturn dX7_wayOf_22 rfl (by omega) (by omega) (by first | (rw [if_pos (by omega)] at hp; exact hp _ hv2 (hF1.tr (Fk_far hF2))) | (rw [if_neg (by omega), if_pos (by omega)] at hp; exact hp _ hv2 (hF1.tr (Fk_far hF2))) | (rw [if_neg (by omega), if_neg (by omega), if_neg (by omega)] at hp; exact hp _ hv2 (hF1.tr (Fk_far hF2))))
theorem dX11_word_0 : decode prog_1_method_23_code 0 = .ok (.iload_n 1, 1) := by decide +kernel
theorem dX11_word_1 : decode prog_1_method_23_code 1 = .ok (.invokestatic 219, 3) := by decide +kernel
theorem dX11_word_4 : decode prog_1_method_23_code 4 = .ok (.ifCond .eq 22, 3) := by decide +kernel
theorem dX11_word_7 : decode prog_1_method_23_code 7 = .ok (.iload_n 2, 1) := by decide +kernel
theorem dX11_word_8 : decode prog_1_method_23_code 8 = .ok (.invokestatic 219, 3) := by decide +kernel
theorem dX11_word_11 : decode prog_1_method_23_code 11 = .ok (.ifCond .eq 15, 3) := by decide +kernel
theorem dX11_word_14 : decode prog_1_method_23_code 14 = .ok (.aload_n 0, 1) := by decide +kernel
theorem dX11_word_15 : decode prog_1_method_23_code 15 = .ok (.getfield 47, 3) := by decide +kernel
theorem dX11_word_18 : decode prog_1_method_23_code 18 = .ok (.iload_n 1, 1) := by decide +kernel
theorem dX11_word_19 : decode prog_1_method_23_code 19 = .ok (.iload_n 2, 1) := by decide +kernel
theorem dX11_word_20 : decode prog_1_method_23_code 20 = .ok (.invokevirtual 233, 3) := by decide +kernel
theorem dX11_word_23 : decode prog_1_method_23_code 23 = .ok (.goto 4, 3) := by decide +kernel
theorem dX11_word_26 : decode prog_1_method_23_code 26 = .ok (.iconst (-1), 1) := by decide +kernel
theorem dX11_word_27 : decode prog_1_method_23_code 27 = .ok (.ireturn, 1) := by decide +kernel
theorem sp_X11_word {a b : Int} (cs : CS S R) (hv : CIv S R I A tx) (ha : Rg a) (hb6 : Rg b) (hn : 7 ≤ n) (hp : ∀ I', CIv S R I' A tx → Fk I I' → Post (some (.int (iI (f_word A tx a b)))) S I' R) : Call n 0 0 mX11_word [.ref (S.2.1 0), .int (iI a), .int (iI b)] S I R Post := by
  unfold f_word at hp
  refine Call.of (by decide +kernel) (Nat.le_of_ble_eq_true rfl) ?_
  show WP _ _ _ _ _ 0 [(0, _), (1, _), (2, _)] [] 0 0 _ _ _
  refine x_iload_n dX11_word_0 rfl ?_
  refine x_callS1 (mc1 := 0) (ms1 := 0) dX11_word_1 cv_RX11_219 (Nat.le_of_ble_eq_true rfl) (n1 := n - 1) (by omega) (by omega) (by omega) ?_
  refine sp_X11_isPerson (by omega) (fun r1 hr1 => ?_)
  refine x_if_eq 26 dX11_word_4 (by decide) (by omega) (fun w4 => ?_) (fun w4 => ?_)
  · refine x_iconst dX11_word_26 ?_
    exact x_ireturn dX11_word_27 rfl (by omega) (by omega) (by first | (rw [if_neg (by omega)] at hp; exact hp _ hv Fk.rf) | (rw [if_pos (by omega)] at hp; exact hp _ hv12 hF12))
  · refine x_iload_n dX11_word_7 rfl ?_
    refine x_callS1 (mc1 := 0) (ms1 := 0) dX11_word_8 cv_RX11_219 (Nat.le_of_ble_eq_true rfl) (n1 := n - 1) (by omega) (by omega) (by omega) ?_
    refine sp_X11_isPerson (by omega) (fun r8 hr8 => ?_)
    refine x_if_eq 26 dX11_word_11 (by decide) (by omega) (fun w11 => ?_) (fun w11 => ?_)
    · refine x_iconst dX11_word_26 ?_
      exact x_ireturn dX11_word_27 rfl (by omega) (by omega) (by first | (rw [if_neg (by omega)] at hp; exact hp _ hv Fk.rf) | (rw [if_pos (by omega)] at hp; exact hp _ hv12 hF12))
    · refine x_aload_n dX11_word_14 rfl ?_
      refine x_getR (b := 291) dX11_word_15 gf_RX11_47 (k_ob_0 cs) (fun _ _ => rfl) (k_r_0_5 cs) ?_
      refine x_iload_n dX11_word_18 rfl ?_
      refine x_iload_n dX11_word_19 rfl ?_
      refine x_callV2 (mc1 := 0) (ms1 := 0) dX11_word_20 cv_RX11_233 (ci := 7) (k_ob_291 cs) rfl (Nat.le_of_ble_eq_true rfl) (n1 := n - 1) (by omega) (by omega) (by omega) ?_
      rw [asN (a := a) (by omega), asN (a := b) (by omega)]
      refine sp_X7_wordCost cs hv (by omega) (by omega) (by omega) (fun I12 hv12 hF12 => ?_)
      refine x_goto 27 dX11_word_23 (by decide) ?_
      exact x_ireturn dX11_word_27 rfl (by omega) (by omega) (by first | (rw [if_neg (by omega)] at hp; exact hp _ hv Fk.rf) | (rw [if_pos (by omega)] at hp; exact hp _ hv12 hF12))
theorem dX11_way_0 : decode prog_1_method_24_code 0 = .ok (.iload_n 1, 1) := by decide +kernel
theorem dX11_way_1 : decode prog_1_method_24_code 1 = .ok (.invokestatic 219, 3) := by decide +kernel
theorem dX11_way_4 : decode prog_1_method_24_code 4 = .ok (.ifCond .eq 10, 3) := by decide +kernel
theorem dX11_way_7 : decode prog_1_method_24_code 7 = .ok (.iload_n 2, 1) := by decide +kernel
theorem dX11_way_8 : decode prog_1_method_24_code 8 = .ok (.invokestatic 219, 3) := by decide +kernel
theorem dX11_way_11 : decode prog_1_method_24_code 11 = .ok (.ifCond .ne 6, 3) := by decide +kernel
theorem dX11_way_14 : decode prog_1_method_24_code 14 = .ok (.bipush (-2), 2) := by decide +kernel
theorem dX11_way_16 : decode prog_1_method_24_code 16 = .ok (.ireturn, 1) := by decide +kernel
theorem dX11_way_17 : decode prog_1_method_24_code 17 = .ok (.aload_n 0, 1) := by decide +kernel
theorem dX11_way_18 : decode prog_1_method_24_code 18 = .ok (.getfield 47, 3) := by decide +kernel
theorem dX11_way_21 : decode prog_1_method_24_code 21 = .ok (.iload_n 1, 1) := by decide +kernel
theorem dX11_way_22 : decode prog_1_method_24_code 22 = .ok (.iload_n 2, 1) := by decide +kernel
theorem dX11_way_23 : decode prog_1_method_24_code 23 = .ok (.iload_n 3, 1) := by decide +kernel
theorem dX11_way_24 : decode prog_1_method_24_code 24 = .ok (.invokevirtual 236, 3) := by decide +kernel
theorem dX11_way_27 : decode prog_1_method_24_code 27 = .ok (.ireturn, 1) := by decide +kernel
theorem sp_X11_way {a b i : Int} (cs : CS S R) (hv : CIv S R I A tx) (ha : Rg a) (hb6 : Rg b) (hi : Rg i) (hn : 7 ≤ n) (hp : ∀ I', CIv S R I' A tx → Fk I I' → Post (some (.int (iI (f_way A tx a b i)))) S I' R) : Call n 0 0 mX11_way [.ref (S.2.1 0), .int (iI a), .int (iI b), .int (iI i)] S I R Post := by
  unfold f_way at hp
  refine Call.of (by decide +kernel) (Nat.le_of_ble_eq_true rfl) ?_
  show WP _ _ _ _ _ 0 [(0, _), (1, _), (2, _), (3, _)] [] 0 0 _ _ _
  refine x_iload_n dX11_way_0 rfl ?_
  refine x_callS1 (mc1 := 0) (ms1 := 0) dX11_way_1 cv_RX11_219 (Nat.le_of_ble_eq_true rfl) (n1 := n - 1) (by omega) (by omega) (by omega) ?_
  refine sp_X11_isPerson (by omega) (fun r1 hr1 => ?_)
  refine x_if_eq 14 dX11_way_4 (by decide) (by omega) (fun w4 => ?_) (fun w4 => ?_)
  · refine x_bipush dX11_way_14 (by decide) ?_
    exact x_ireturn dX11_way_16 rfl (by omega) (by omega) (by first | (rw [if_neg (by omega)] at hp; exact hp _ hv Fk.rf) | (rw [if_pos (by omega)] at hp; exact hp _ hv12 hF12))
  · refine x_iload_n dX11_way_7 rfl ?_
    refine x_callS1 (mc1 := 0) (ms1 := 0) dX11_way_8 cv_RX11_219 (Nat.le_of_ble_eq_true rfl) (n1 := n - 1) (by omega) (by omega) (by omega) ?_
    refine sp_X11_isPerson (by omega) (fun r8 hr8 => ?_)
    refine x_if_ne 17 dX11_way_11 (by decide) (by omega) (fun w11 => ?_) (fun w11 => ?_)
    · refine x_aload_n dX11_way_17 rfl ?_
      refine x_getR (b := 291) dX11_way_18 gf_RX11_47 (k_ob_0 cs) (fun _ _ => rfl) (k_r_0_5 cs) ?_
      refine x_iload_n dX11_way_21 rfl ?_
      refine x_iload_n dX11_way_22 rfl ?_
      refine x_iload_n dX11_way_23 rfl ?_
      refine x_callV3 (mc1 := 0) (ms1 := 0) dX11_way_24 cv_RX11_236 (ci := 7) (k_ob_291 cs) rfl (Nat.le_of_ble_eq_true rfl) (n1 := n - 1) (by omega) (by omega) (by omega) ?_
      rw [asN (a := a) (by omega), asN (a := b) (by omega)]
      refine sp_X7_wayOf cs hv (by omega) (by omega) hi (by omega) (fun I12 hv12 hF12 => ?_)
      exact x_ireturn dX11_way_27 rfl (by omega) (by omega) (by first | (rw [if_neg (by omega)] at hp; exact hp _ hv Fk.rf) | (rw [if_pos (by omega)] at hp; exact hp _ hv12 hF12))
    · refine x_bipush dX11_way_14 (by decide) ?_
      exact x_ireturn dX11_way_16 rfl (by omega) (by omega) (by first | (rw [if_neg (by omega)] at hp; exact hp _ hv Fk.rf) | (rw [if_pos (by omega)] at hp; exact hp _ hv12 hF12))
def cjK (c : Nat → Nat → Int) (j p : Nat) : Nat → Int
  | 0 => 10000000
  | i + 1 => if j.testBit i = true ∧ c i p ≠ -1 then (if cjK c j p i ≤ c i p then cjK c j p i else c i p) else cjK c j p i
def coK (c : Nat → Nat → Int) (j : Nat) : Nat → Int × Int
  | 0 => (-1, 10000000)
  | p + 1 => if j.testBit p = false ∧ cjK c j p 6 < (coK c j p).2 then ((p : Int), cjK c j p 6) else coK c j p
/-- of the ones joined so far (none: it can't be), the sum -/
def caK (c : Nat → Nat → Int) : Nat → Nat × Int
  | 0 => (1, 0)
  | k + 1 => ((caK c k).1 ||| 2 ^ (coK c (caK c k).1 6).1.toNat, (caK c k).2 + cjK c (caK c k).1 (coK c (caK c k).1 6).1.toNat 6)
def caP (c : Nat → Nat → Int) : Nat → Prop
  | 0 => True
  | k + 1 => caP c k ∧ (coK c (caK c k).1 6).1 ≠ -1
theorem cjK_b {c : Nat → Nat → Int} {j p : Nat} (hc : ∀ p r, -1 ≤ c p r ∧ c p r ≤ 79992) : ∀ i : Nat, 0 ≤ cjK c j p i ∧ cjK c j p i ≤ 10000000 := by
  intro i
  induction i with
  | zero => simp [cjK]
  | succ i ih =>
    simp only [cjK]
    have := hc i p
    split
    · split <;> omega
    · omega
theorem coK_b {c : Nat → Nat → Int} {j : Nat} (hc : ∀ p r, -1 ≤ c p r ∧ c p r ≤ 79992) : ∀ p : Nat, (-1 ≤ (coK c j p).1 ∧ (coK c j p).1 < p) ∧ (0 ≤ (coK c j p).2 ∧ (coK c j p).2 ≤ 10000000) := by
  intro p
  induction p with
  | zero => simp [coK]
  | succ p ih =>
    simp only [coK]
    have := cjK_b (j := j) (p := p) hc 6
    split
    · dsimp only; omega
    · omega
theorem caK_b {c : Nat → Nat → Int} (hc : ∀ p r, -1 ≤ c p r ∧ c p r ≤ 79992) : ∀ k : Nat, (caK c k).1 < 64 ∧ 0 ≤ (caK c k).2 ∧ (caK c k).2 ≤ 10000000 * k := by
  intro k
  induction k with
  | zero => simp [caK]
  | succ k ih =>
    simp only [caK]
    have h1 := coK_b (j := (caK c k).1) hc 6
    have h2 := cjK_b (j := (caK c k).1) (p := (coK c (caK c k).1 6).1.toNat) hc 6
    exact ⟨Nat.or_lt_two_pow (n := 6) ih.1 (pw6 (by omega)), by omega, by omega⟩
noncomputable def allP (c : Nat → Nat → Int) : Int := @ite _ (caP c 5) (Classical.propDecidable _) (caK c 5).2 (-1)
theorem caP_mono {c : Nat → Nat → Int} {k : Nat} : ∀ d : Nat, caP c (k + d) → caP c k := by
  intro d
  induction d with
  | zero => exact id
  | succ d ih => intro h; exact ih h.1
theorem dX7_cheapestJoin_0 : decode prog_9_method_19_code 0 = .ok (.ldc 51, 2) := by decide +kernel
theorem dX7_cheapestJoin_2 : decode prog_9_method_19_code 2 = .ok (.istore_n 3, 1) := by decide +kernel
theorem dX7_cheapestJoin_3 : decode prog_9_method_19_code 3 = .ok (.iconst 0, 1) := by decide +kernel
theorem dX7_cheapestJoin_4 : decode prog_9_method_19_code 4 = .ok (.istore 4, 2) := by decide +kernel
theorem dX7_cheapestJoin_6 : decode prog_9_method_19_code 6 = .ok (.iload 4, 2) := by decide +kernel
theorem dX7_cheapestJoin_8 : decode prog_9_method_19_code 8 = .ok (.bipush 6, 2) := by decide +kernel
theorem dX7_cheapestJoin_10 : decode prog_9_method_19_code 10 = .ok (.if_icmp .ge 46, 3) := by decide +kernel
theorem dX7_cheapestJoin_13 : decode prog_9_method_19_code 13 = .ok (.aload_n 0, 1) := by decide +kernel
theorem dX7_cheapestJoin_14 : decode prog_9_method_19_code 14 = .ok (.getfield 9, 3) := by decide +kernel
theorem dX7_cheapestJoin_17 : decode prog_9_method_19_code 17 = .ok (.iload 4, 2) := by decide +kernel
theorem dX7_cheapestJoin_19 : decode prog_9_method_19_code 19 = .ok (.bipush 6, 2) := by decide +kernel
theorem dX7_cheapestJoin_21 : decode prog_9_method_19_code 21 = .ok (.imul, 1) := by decide +kernel
theorem dX7_cheapestJoin_22 : decode prog_9_method_19_code 22 = .ok (.iload_n 2, 1) := by decide +kernel
theorem dX7_cheapestJoin_23 : decode prog_9_method_19_code 23 = .ok (.iadd, 1) := by decide +kernel
theorem dX7_cheapestJoin_24 : decode prog_9_method_19_code 24 = .ok (.iaload, 1) := by decide +kernel
theorem dX7_cheapestJoin_25 : decode prog_9_method_19_code 25 = .ok (.istore 5, 2) := by decide +kernel
theorem dX7_cheapestJoin_27 : decode prog_9_method_19_code 27 = .ok (.iload_n 1, 1) := by decide +kernel
theorem dX7_cheapestJoin_28 : decode prog_9_method_19_code 28 = .ok (.iload 4, 2) := by decide +kernel
theorem dX7_cheapestJoin_30 : decode prog_9_method_19_code 30 = .ok (.ishr, 1) := by decide +kernel
theorem dX7_cheapestJoin_31 : decode prog_9_method_19_code 31 = .ok (.iconst 1, 1) := by decide +kernel
theorem dX7_cheapestJoin_32 : decode prog_9_method_19_code 32 = .ok (.iand, 1) := by decide +kernel
theorem dX7_cheapestJoin_33 : decode prog_9_method_19_code 33 = .ok (.iconst 1, 1) := by decide +kernel
theorem dX7_cheapestJoin_34 : decode prog_9_method_19_code 34 = .ok (.if_icmp .ne 16, 3) := by decide +kernel
theorem dX7_cheapestJoin_37 : decode prog_9_method_19_code 37 = .ok (.iload 5, 2) := by decide +kernel
theorem dX7_cheapestJoin_39 : decode prog_9_method_19_code 39 = .ok (.iconst (-1), 1) := by decide +kernel
theorem dX7_cheapestJoin_40 : decode prog_9_method_19_code 40 = .ok (.if_icmp .eq 10, 3) := by decide +kernel
theorem dX7_cheapestJoin_43 : decode prog_9_method_19_code 43 = .ok (.iload_n 3, 1) := by decide +kernel
theorem dX7_cheapestJoin_44 : decode prog_9_method_19_code 44 = .ok (.iload 5, 2) := by decide +kernel
theorem dX7_cheapestJoin_46 : decode prog_9_method_19_code 46 = .ok (.invokestatic 64, 3) := by decide +kernel
theorem dX7_cheapestJoin_49 : decode prog_9_method_19_code 49 = .ok (.istore_n 3, 1) := by decide +kernel
theorem dX7_cheapestJoin_50 : decode prog_9_method_19_code 50 = .ok (.iinc 4 1, 3) := by decide +kernel
theorem dX7_cheapestJoin_53 : decode prog_9_method_19_code 53 = .ok (.goto (-47), 3) := by decide +kernel
theorem dX7_cheapestJoin_56 : decode prog_9_method_19_code 56 = .ok (.iload_n 3, 1) := by decide +kernel
theorem dX7_cheapestJoin_57 : decode prog_9_method_19_code 57 = .ok (.ireturn, 1) := by decide +kernel
theorem lp_X7_cheapestJoin {c : Nat → Nat → Int} {jn p : Nat} (cs : CS S R) (hm : MTr I c) (hj6 : jn < 64) (hp6 : p < 6) (hn : 1 ≤ n) (hp : Post (some (.int (iI (cjK c jn p 6)))) S I R) : ∀ (d i : Nat), i ≤ 6 → 6 - i = d → WP n 0 0 mX7_cheapestJoin Post 6 [(0, .ref (S.2.1 291)), (1, .int (iI (jn : Int))), (2, .int (iI (p : Int))), (3, .int (iI (cjK c jn p i))), (4, .int (iI (i : Int)))] [] 0 0 S I R := by
  intro d
  induction d using Nat.strongRecOn with
  | ind d ih =>
    intro i k1 k2
    have hcj := cjK_b (j := jn) (p := p) hm.2 i
    have hci := hm.2 i p
    refine x_iload dX7_cheapestJoin_6 rfl ?_
    refine x_bipush dX7_cheapestJoin_8 (by decide) ?_
    refine x_icmp_ge 56 dX7_cheapestJoin_10 (by decide) ⟨(by omega), (by omega)⟩ (fun w10 => ?_) (fun w10 => ?_)
    · refine x_iload_n dX7_cheapestJoin_56 rfl ?_
      exact x_ireturn dX7_cheapestJoin_57 rfl (by omega) (by omega) (by obtain rfl : i = 6 := (by omega); exact hp)
    · refine x_aload_n dX7_cheapestJoin_13 rfl ?_
      refine x_getR (b := 292) dX7_cheapestJoin_14 gf_RX7_9 (k_ob_291 cs) (fun _ _ => rfl) (k_r_291_2 cs) ?_
      refine x_iload dX7_cheapestJoin_17 rfl ?_
      refine x_bipush dX7_cheapestJoin_19 (by decide) ?_
      refine x_imul dX7_cheapestJoin_21 ?_
      refine x_iload_n dX7_cheapestJoin_22 rfl ?_
      refine x_iadd dX7_cheapestJoin_23 ?_
      refine x_iaload dX7_cheapestJoin_24 (k_ar_292 cs) (by omega) (by omega) ?_
      rw [show ((i : Int) * 6 + (p : Int)).toNat = i * 6 + p by omega, hm.1 i p (by omega) hp6]
      refine x_istore (lv2 := [(5, _), (0, _), (1, _), (2, _), (3, _), (4, _)]) dX7_cheapestJoin_25 (by decide) rfl ?_
      refine x_iload_n dX7_cheapestJoin_27 rfl ?_
      refine x_iload dX7_cheapestJoin_28 rfl ?_
      refine x_ishr dX7_cheapestJoin_30 ?_
      have hb := has_c (x := jn) (k := i) (by omega) (by omega)
      refine x_iconst dX7_cheapestJoin_31 ?_
      refine x_iand dX7_cheapestJoin_32 ?_
      refine x_iconst dX7_cheapestJoin_33 ?_
      refine x_icmp_ne 50 dX7_cheapestJoin_34 (by decide) ⟨(by omega), (by omega)⟩ (fun w34 => ?_) (fun w34 => ?_)
      · refine x_iinc (lv2 := [(4, _), (5, _), (0, _), (1, _), (2, _), (3, _)]) dX7_cheapestJoin_50 rfl (by decide) rfl ?_
        refine x_goto 6 dX7_cheapestJoin_53 (by decide) ?_
        refine x_sub [2, 3, 4, 5, 0] rfl ?_
        have hg := ih _ (by omega) (i + 1) (by omega) rfl
        simp only [cjK] at hg
        first
          | (rw [if_neg (fun h => by rw [h.1] at hb; simp at hb; omega)] at hg; exact hg)
          | (rw [if_neg (fun h => by have := h.2; omega)] at hg; exact hg)
          | (rw [if_pos ⟨by rcases hb with hh | hh; exact hh.2; exfalso; omega, by omega⟩] at hg
             rcases hr46 with hh | hh
             · rw [if_pos hh.2, ← hh.1] at hg; exact hg
             · rw [if_neg (by omega), ← hh.1] at hg; exact hg)
      · refine x_iload dX7_cheapestJoin_37 rfl ?_
        refine x_iconst dX7_cheapestJoin_39 ?_
        refine x_icmp_eq 50 dX7_cheapestJoin_40 (by decide) ⟨(by omega), (by omega)⟩ (fun w40 => ?_) (fun w40 => ?_)
        · refine x_iinc (lv2 := [(4, _), (5, _), (0, _), (1, _), (2, _), (3, _)]) dX7_cheapestJoin_50 rfl (by decide) rfl ?_
          refine x_goto 6 dX7_cheapestJoin_53 (by decide) ?_
          refine x_sub [2, 3, 4, 5, 0] rfl ?_
          have hg := ih _ (by omega) (i + 1) (by omega) rfl
          simp only [cjK] at hg
          first
            | (rw [if_neg (fun h => by rw [h.1] at hb; simp at hb; omega)] at hg; exact hg)
            | (rw [if_neg (fun h => by have := h.2; omega)] at hg; exact hg)
            | (rw [if_pos ⟨by rcases hb with hh | hh; exact hh.2; exfalso; omega, by omega⟩] at hg
               rcases hr46 with hh | hh
               · rw [if_pos hh.2, ← hh.1] at hg; exact hg
               · rw [if_neg (by omega), ← hh.1] at hg; exact hg)
        · refine x_iload_n dX7_cheapestJoin_43 rfl ?_
          refine x_iload dX7_cheapestJoin_44 rfl ?_
          refine x_mmin dX7_cheapestJoin_46 cv_RX7_64 (by omega) (Nat.le_of_ble_eq_true rfl) (by omega) (by omega) (by omega) (fun r46 hr46 => ?_)
          refine x_istore_n (lv2 := [(3, _), (5, _), (0, _), (1, _), (2, _), (4, _)]) dX7_cheapestJoin_49 (by decide) rfl ?_
          refine x_iinc (lv2 := [(4, _), (3, _), (5, _), (0, _), (1, _), (2, _)]) dX7_cheapestJoin_50 rfl (by decide) rfl ?_
          refine x_goto 6 dX7_cheapestJoin_53 (by decide) ?_
          refine x_sub [3, 4, 5, 1, 0] rfl ?_
          have hg := ih _ (by omega) (i + 1) (by omega) rfl
          simp only [cjK] at hg
          first
            | (rw [if_neg (fun h => by rw [h.1] at hb; simp at hb; omega)] at hg; exact hg)
            | (rw [if_neg (fun h => by have := h.2; omega)] at hg; exact hg)
            | (rw [if_pos ⟨by rcases hb with hh | hh; exact hh.2; exfalso; omega, by omega⟩] at hg
               rcases hr46 with hh | hh
               · rw [if_pos hh.2, ← hh.1] at hg; exact hg
               · rw [if_neg (by omega), ← hh.1] at hg; exact hg)
theorem sp_X7_cheapestJoin {c : Nat → Nat → Int} {jn p : Nat} (cs : CS S R) (hm : MTr I c) (hj6 : jn < 64) (hp6 : p < 6) (hn : 1 ≤ n) (hp : Post (some (.int (iI (cjK c jn p 6)))) S I R) : Call n 0 0 mX7_cheapestJoin [.ref (S.2.1 291), .int (iI (jn : Int)), .int (iI (p : Int))] S I R Post := by
  refine Call.of (by decide +kernel) (Nat.le_of_ble_eq_true rfl) ?_
  show WP _ _ _ _ _ 0 [(0, _), (1, _), (2, _)] [] 0 0 _ _ _
  refine x_ldc (z := 10000000) dX7_cheapestJoin_0 (bw_in (lwt_5 (List.mem_of_getElem? (i := 102) (by decide +kernel))) (by decide +kernel)) ?_
  refine x_istore_n (lv2 := [(3, _), (0, _), (1, _), (2, _)]) dX7_cheapestJoin_2 (by decide) rfl ?_
  refine x_iconst dX7_cheapestJoin_3 ?_
  refine x_istore (lv2 := [(4, _), (3, _), (0, _), (1, _), (2, _)]) dX7_cheapestJoin_4 (by decide) rfl ?_
  refine x_sub [2, 3, 4, 1, 0] rfl ?_
  exact lp_X7_cheapestJoin cs hm hj6 hp6 hn hp _ 0 (by omega) rfl
theorem dX7_cheapestOutside_0 : decode prog_9_method_18_code 0 = .ok (.iconst (-1), 1) := by decide +kernel
theorem dX7_cheapestOutside_1 : decode prog_9_method_18_code 1 = .ok (.istore_n 2, 1) := by decide +kernel
theorem dX7_cheapestOutside_2 : decode prog_9_method_18_code 2 = .ok (.ldc 51, 2) := by decide +kernel
theorem dX7_cheapestOutside_4 : decode prog_9_method_18_code 4 = .ok (.istore_n 3, 1) := by decide +kernel
theorem dX7_cheapestOutside_5 : decode prog_9_method_18_code 5 = .ok (.iconst 0, 1) := by decide +kernel
theorem dX7_cheapestOutside_6 : decode prog_9_method_18_code 6 = .ok (.istore 4, 2) := by decide +kernel
theorem dX7_cheapestOutside_8 : decode prog_9_method_18_code 8 = .ok (.iload 4, 2) := by decide +kernel
theorem dX7_cheapestOutside_10 : decode prog_9_method_18_code 10 = .ok (.bipush 6, 2) := by decide +kernel
theorem dX7_cheapestOutside_12 : decode prog_9_method_18_code 12 = .ok (.if_icmp .ge 45, 3) := by decide +kernel
theorem dX7_cheapestOutside_15 : decode prog_9_method_18_code 15 = .ok (.iload_n 1, 1) := by decide +kernel
theorem dX7_cheapestOutside_16 : decode prog_9_method_18_code 16 = .ok (.iload 4, 2) := by decide +kernel
theorem dX7_cheapestOutside_18 : decode prog_9_method_18_code 18 = .ok (.ishr, 1) := by decide +kernel
theorem dX7_cheapestOutside_19 : decode prog_9_method_18_code 19 = .ok (.iconst 1, 1) := by decide +kernel
theorem dX7_cheapestOutside_20 : decode prog_9_method_18_code 20 = .ok (.iand, 1) := by decide +kernel
theorem dX7_cheapestOutside_21 : decode prog_9_method_18_code 21 = .ok (.iconst 1, 1) := by decide +kernel
theorem dX7_cheapestOutside_22 : decode prog_9_method_18_code 22 = .ok (.if_icmp .ne 8, 3) := by decide +kernel
theorem dX7_cheapestOutside_25 : decode prog_9_method_18_code 25 = .ok (.ldc 51, 2) := by decide +kernel
theorem dX7_cheapestOutside_27 : decode prog_9_method_18_code 27 = .ok (.goto 10, 3) := by decide +kernel
theorem dX7_cheapestOutside_30 : decode prog_9_method_18_code 30 = .ok (.aload_n 0, 1) := by decide +kernel
theorem dX7_cheapestOutside_31 : decode prog_9_method_18_code 31 = .ok (.iload_n 1, 1) := by decide +kernel
theorem dX7_cheapestOutside_32 : decode prog_9_method_18_code 32 = .ok (.iload 4, 2) := by decide +kernel
theorem dX7_cheapestOutside_34 : decode prog_9_method_18_code 34 = .ok (.invokevirtual 58, 3) := by decide +kernel
theorem dX7_cheapestOutside_37 : decode prog_9_method_18_code 37 = .ok (.istore 5, 2) := by decide +kernel
theorem dX7_cheapestOutside_39 : decode prog_9_method_18_code 39 = .ok (.iload 5, 2) := by decide +kernel
theorem dX7_cheapestOutside_41 : decode prog_9_method_18_code 41 = .ok (.iload_n 3, 1) := by decide +kernel
theorem dX7_cheapestOutside_42 : decode prog_9_method_18_code 42 = .ok (.if_icmp .ge 9, 3) := by decide +kernel
theorem dX7_cheapestOutside_45 : decode prog_9_method_18_code 45 = .ok (.iload 5, 2) := by decide +kernel
theorem dX7_cheapestOutside_47 : decode prog_9_method_18_code 47 = .ok (.istore_n 3, 1) := by decide +kernel
theorem dX7_cheapestOutside_48 : decode prog_9_method_18_code 48 = .ok (.iload 4, 2) := by decide +kernel
theorem dX7_cheapestOutside_50 : decode prog_9_method_18_code 50 = .ok (.istore_n 2, 1) := by decide +kernel
theorem dX7_cheapestOutside_51 : decode prog_9_method_18_code 51 = .ok (.iinc 4 1, 3) := by decide +kernel
theorem dX7_cheapestOutside_54 : decode prog_9_method_18_code 54 = .ok (.goto (-46), 3) := by decide +kernel
theorem dX7_cheapestOutside_57 : decode prog_9_method_18_code 57 = .ok (.iload_n 2, 1) := by decide +kernel
theorem dX7_cheapestOutside_58 : decode prog_9_method_18_code 58 = .ok (.ireturn, 1) := by decide +kernel
theorem lp_X7_cheapestOutside {c : Nat → Nat → Int} {jn : Nat} (cs : CS S R) (hm : MTr I c) (hj6 : jn < 64) (hn : 2 ≤ n) (hp : Post (some (.int (iI (coK c jn 6).1))) S I R) : ∀ (d p : Nat), p ≤ 6 → 6 - p = d → WP n 0 0 mX7_cheapestOutside Post 8 [(0, .ref (S.2.1 291)), (1, .int (iI (jn : Int))), (2, .int (iI (coK c jn p).1)), (3, .int (iI (coK c jn p).2)), (4, .int (iI (p : Int)))] [] 0 0 S I R := by
  intro d
  induction d using Nat.strongRecOn with
  | ind d ih =>
    intro p k1 k2
    have hco := coK_b (j := jn) hm.2 p
    have hcj := cjK_b (j := jn) (p := p) hm.2 6
    refine x_iload dX7_cheapestOutside_8 rfl ?_
    refine x_bipush dX7_cheapestOutside_10 (by decide) ?_
    refine x_icmp_ge 57 dX7_cheapestOutside_12 (by decide) ⟨(by omega), (by omega)⟩ (fun w12 => ?_) (fun w12 => ?_)
    · refine x_iload_n dX7_cheapestOutside_57 rfl ?_
      exact x_ireturn dX7_cheapestOutside_58 rfl (by omega) (by omega) (by obtain rfl : p = 6 := (by omega); exact hp)
    · refine x_iload_n dX7_cheapestOutside_15 rfl ?_
      refine x_iload dX7_cheapestOutside_16 rfl ?_
      refine x_ishr dX7_cheapestOutside_18 ?_
      have hb := has_c (x := jn) (k := p) (by omega) (by omega)
      refine x_iconst dX7_cheapestOutside_19 ?_
      refine x_iand dX7_cheapestOutside_20 ?_
      refine x_iconst dX7_cheapestOutside_21 ?_
      refine x_icmp_ne 30 dX7_cheapestOutside_22 (by decide) ⟨(by omega), (by omega)⟩ (fun w22 => ?_) (fun w22 => ?_)
      · refine x_aload_n dX7_cheapestOutside_30 rfl ?_
        refine x_iload_n dX7_cheapestOutside_31 rfl ?_
        refine x_iload dX7_cheapestOutside_32 rfl ?_
        refine x_callV2 (mc1 := 0) (ms1 := 0) dX7_cheapestOutside_34 cv_RX7_58 (ci := 7) (k_ob_291 cs) rfl (Nat.le_of_ble_eq_true rfl) (n1 := n - 1) (by omega) (by omega) (by omega) ?_
        refine sp_X7_cheapestJoin cs hm hj6 (by omega) (by omega) ?_
        refine x_istore (lv2 := [(5, _), (0, _), (1, _), (2, _), (3, _), (4, _)]) dX7_cheapestOutside_37 (by decide) rfl ?_
        refine x_iload dX7_cheapestOutside_39 rfl ?_
        refine x_iload_n dX7_cheapestOutside_41 rfl ?_
        refine x_icmp_ge 51 dX7_cheapestOutside_42 (by decide) ⟨(by omega), (by omega)⟩ (fun w42 => ?_) (fun w42 => ?_)
        · refine x_iinc (lv2 := [(4, _), (5, _), (0, _), (1, _), (2, _), (3, _)]) dX7_cheapestOutside_51 rfl (by decide) rfl ?_
          refine x_goto 8 dX7_cheapestOutside_54 (by decide) ?_
          refine x_sub [2, 3, 4, 5, 0] rfl ?_
          have hg := ih _ (by omega) (p + 1) (by omega) rfl
          simp only [coK] at hg
          first
            | (exfalso; omega)
            | (rw [if_neg (fun h => by have h1 := h.1; rw [h1] at hb; simp at hb; omega)] at hg; exact hg)
            | (rw [if_neg (fun h => by have := h.2; omega)] at hg; exact hg)
            | (rw [if_pos ⟨by rcases hb with hh | hh; exfalso; omega; exact hh.2, by omega⟩] at hg; exact hg)
        · refine x_iload dX7_cheapestOutside_45 rfl ?_
          refine x_istore_n (lv2 := [(3, _), (5, _), (0, _), (1, _), (2, _), (4, _)]) dX7_cheapestOutside_47 (by decide) rfl ?_
          refine x_iload dX7_cheapestOutside_48 rfl ?_
          refine x_istore_n (lv2 := [(2, _), (3, _), (5, _), (0, _), (1, _), (4, _)]) dX7_cheapestOutside_50 (by decide) rfl ?_
          refine x_iinc (lv2 := [(4, _), (2, _), (3, _), (5, _), (0, _), (1, _)]) dX7_cheapestOutside_51 rfl (by decide) rfl ?_
          refine x_goto 8 dX7_cheapestOutside_54 (by decide) ?_
          refine x_sub [4, 5, 1, 2, 0] rfl ?_
          have hg := ih _ (by omega) (p + 1) (by omega) rfl
          simp only [coK] at hg
          first
            | (exfalso; omega)
            | (rw [if_neg (fun h => by have h1 := h.1; rw [h1] at hb; simp at hb; omega)] at hg; exact hg)
            | (rw [if_neg (fun h => by have := h.2; omega)] at hg; exact hg)
            | (rw [if_pos ⟨by rcases hb with hh | hh; exfalso; omega; exact hh.2, by omega⟩] at hg; exact hg)
      · refine x_ldc (z := 10000000) dX7_cheapestOutside_25 (bw_in (lwt_5 (List.mem_of_getElem? (i := 102) (by decide +kernel))) (by decide +kernel)) ?_
        refine x_goto 37 dX7_cheapestOutside_27 (by decide) ?_
        refine x_istore (lv2 := [(5, _), (0, _), (1, _), (2, _), (3, _), (4, _)]) dX7_cheapestOutside_37 (by decide) rfl ?_
        refine x_iload dX7_cheapestOutside_39 rfl ?_
        refine x_iload_n dX7_cheapestOutside_41 rfl ?_
        refine x_icmp_ge 51 dX7_cheapestOutside_42 (by decide) ⟨(by omega), (by omega)⟩ (fun w42 => ?_) (fun w42 => ?_)
        · refine x_iinc (lv2 := [(4, _), (5, _), (0, _), (1, _), (2, _), (3, _)]) dX7_cheapestOutside_51 rfl (by decide) rfl ?_
          refine x_goto 8 dX7_cheapestOutside_54 (by decide) ?_
          refine x_sub [2, 3, 4, 5, 0] rfl ?_
          have hg := ih _ (by omega) (p + 1) (by omega) rfl
          simp only [coK] at hg
          first
            | (exfalso; omega)
            | (rw [if_neg (fun h => by have h1 := h.1; rw [h1] at hb; simp at hb; omega)] at hg; exact hg)
            | (rw [if_neg (fun h => by have := h.2; omega)] at hg; exact hg)
            | (rw [if_pos ⟨by rcases hb with hh | hh; exfalso; omega; exact hh.2, by omega⟩] at hg; exact hg)
        · refine x_iload dX7_cheapestOutside_45 rfl ?_
          refine x_istore_n (lv2 := [(3, _), (5, _), (0, _), (1, _), (2, _), (4, _)]) dX7_cheapestOutside_47 (by decide) rfl ?_
          refine x_iload dX7_cheapestOutside_48 rfl ?_
          refine x_istore_n (lv2 := [(2, _), (3, _), (5, _), (0, _), (1, _), (4, _)]) dX7_cheapestOutside_50 (by decide) rfl ?_
          refine x_iinc (lv2 := [(4, _), (2, _), (3, _), (5, _), (0, _), (1, _)]) dX7_cheapestOutside_51 rfl (by decide) rfl ?_
          refine x_goto 8 dX7_cheapestOutside_54 (by decide) ?_
          refine x_sub [4, 5, 1, 2, 0] rfl ?_
          have hg := ih _ (by omega) (p + 1) (by omega) rfl
          simp only [coK] at hg
          first
            | (exfalso; omega)
            | (rw [if_neg (fun h => by have h1 := h.1; rw [h1] at hb; simp at hb; omega)] at hg; exact hg)
            | (rw [if_neg (fun h => by have := h.2; omega)] at hg; exact hg)
            | (rw [if_pos ⟨by rcases hb with hh | hh; exfalso; omega; exact hh.2, by omega⟩] at hg; exact hg)
theorem sp_X7_cheapestOutside {c : Nat → Nat → Int} {jn : Nat} (cs : CS S R) (hm : MTr I c) (hj6 : jn < 64) (hn : 2 ≤ n) (hp : Post (some (.int (iI (coK c jn 6).1))) S I R) : Call n 0 0 mX7_cheapestOutside [.ref (S.2.1 291), .int (iI (jn : Int))] S I R Post := by
  refine Call.of (by decide +kernel) (Nat.le_of_ble_eq_true rfl) ?_
  show WP _ _ _ _ _ 0 [(0, _), (1, _)] [] 0 0 _ _ _
  refine x_iconst dX7_cheapestOutside_0 ?_
  refine x_istore_n (lv2 := [(2, _), (0, _), (1, _)]) dX7_cheapestOutside_1 (by decide) rfl ?_
  refine x_ldc (z := 10000000) dX7_cheapestOutside_2 (bw_in (lwt_5 (List.mem_of_getElem? (i := 102) (by decide +kernel))) (by decide +kernel)) ?_
  refine x_istore_n (lv2 := [(3, _), (2, _), (0, _), (1, _)]) dX7_cheapestOutside_4 (by decide) rfl ?_
  refine x_iconst dX7_cheapestOutside_5 ?_
  refine x_istore (lv2 := [(4, _), (3, _), (2, _), (0, _), (1, _)]) dX7_cheapestOutside_6 (by decide) rfl ?_
  refine x_sub [3, 4, 2, 1, 0] rfl ?_
  exact lp_X7_cheapestOutside cs hm hj6 hn hp _ 0 (by omega) rfl
theorem dX7_costForAll_0 : decode prog_9_method_8_code 0 = .ok (.aload_n 0, 1) := by decide +kernel
theorem dX7_costForAll_1 : decode prog_9_method_8_code 1 = .ok (.invokevirtual 29, 3) := by decide +kernel
theorem dX7_costForAll_4 : decode prog_9_method_8_code 4 = .ok (.iconst 1, 1) := by decide +kernel
theorem dX7_costForAll_5 : decode prog_9_method_8_code 5 = .ok (.istore_n 1, 1) := by decide +kernel
theorem dX7_costForAll_6 : decode prog_9_method_8_code 6 = .ok (.iconst 0, 1) := by decide +kernel
theorem dX7_costForAll_7 : decode prog_9_method_8_code 7 = .ok (.istore_n 2, 1) := by decide +kernel
theorem dX7_costForAll_8 : decode prog_9_method_8_code 8 = .ok (.iconst 1, 1) := by decide +kernel
theorem dX7_costForAll_9 : decode prog_9_method_8_code 9 = .ok (.istore_n 3, 1) := by decide +kernel
theorem dX7_costForAll_10 : decode prog_9_method_8_code 10 = .ok (.iload_n 3, 1) := by decide +kernel
theorem dX7_costForAll_11 : decode prog_9_method_8_code 11 = .ok (.bipush 6, 2) := by decide +kernel
theorem dX7_costForAll_13 : decode prog_9_method_8_code 13 = .ok (.if_icmp .ge 41, 3) := by decide +kernel
theorem dX7_costForAll_16 : decode prog_9_method_8_code 16 = .ok (.aload_n 0, 1) := by decide +kernel
theorem dX7_costForAll_17 : decode prog_9_method_8_code 17 = .ok (.iload_n 1, 1) := by decide +kernel
theorem dX7_costForAll_18 : decode prog_9_method_8_code 18 = .ok (.invokevirtual 55, 3) := by decide +kernel
theorem dX7_costForAll_21 : decode prog_9_method_8_code 21 = .ok (.istore 4, 2) := by decide +kernel
theorem dX7_costForAll_23 : decode prog_9_method_8_code 23 = .ok (.iload 4, 2) := by decide +kernel
theorem dX7_costForAll_25 : decode prog_9_method_8_code 25 = .ok (.iconst (-1), 1) := by decide +kernel
theorem dX7_costForAll_26 : decode prog_9_method_8_code 26 = .ok (.if_icmp .ne 5, 3) := by decide +kernel
theorem dX7_costForAll_29 : decode prog_9_method_8_code 29 = .ok (.iconst (-1), 1) := by decide +kernel
theorem dX7_costForAll_30 : decode prog_9_method_8_code 30 = .ok (.ireturn, 1) := by decide +kernel
theorem dX7_costForAll_31 : decode prog_9_method_8_code 31 = .ok (.iload_n 2, 1) := by decide +kernel
theorem dX7_costForAll_32 : decode prog_9_method_8_code 32 = .ok (.aload_n 0, 1) := by decide +kernel
theorem dX7_costForAll_33 : decode prog_9_method_8_code 33 = .ok (.iload_n 1, 1) := by decide +kernel
theorem dX7_costForAll_34 : decode prog_9_method_8_code 34 = .ok (.iload 4, 2) := by decide +kernel
theorem dX7_costForAll_36 : decode prog_9_method_8_code 36 = .ok (.invokevirtual 58, 3) := by decide +kernel
theorem dX7_costForAll_39 : decode prog_9_method_8_code 39 = .ok (.iadd, 1) := by decide +kernel
theorem dX7_costForAll_40 : decode prog_9_method_8_code 40 = .ok (.istore_n 2, 1) := by decide +kernel
theorem dX7_costForAll_41 : decode prog_9_method_8_code 41 = .ok (.iload_n 1, 1) := by decide +kernel
theorem dX7_costForAll_42 : decode prog_9_method_8_code 42 = .ok (.iconst 1, 1) := by decide +kernel
theorem dX7_costForAll_43 : decode prog_9_method_8_code 43 = .ok (.iload 4, 2) := by decide +kernel
theorem dX7_costForAll_45 : decode prog_9_method_8_code 45 = .ok (.ishl, 1) := by decide +kernel
theorem dX7_costForAll_46 : decode prog_9_method_8_code 46 = .ok (.ior, 1) := by decide +kernel
theorem dX7_costForAll_47 : decode prog_9_method_8_code 47 = .ok (.istore_n 1, 1) := by decide +kernel
theorem dX7_costForAll_48 : decode prog_9_method_8_code 48 = .ok (.iinc 3 1, 3) := by decide +kernel
theorem dX7_costForAll_51 : decode prog_9_method_8_code 51 = .ok (.goto (-41), 3) := by decide +kernel
theorem dX7_costForAll_54 : decode prog_9_method_8_code 54 = .ok (.iload_n 2, 1) := by decide +kernel
theorem dX7_costForAll_55 : decode prog_9_method_8_code 55 = .ok (.ireturn, 1) := by decide +kernel
theorem lp_X7_costForAll {c : Nat → Nat → Int} (cs : CS S R) (hm : MTr I c) (hn : 3 ≤ n) (hp : Post (some (.int (iI (allP c)))) S I R) : ∀ (d k : Nat), k ≤ 5 → 5 - k = d → caP c k → WP n 0 0 mX7_costForAll Post 10 [(0, .ref (S.2.1 291)), (1, .int (iI ((caK c k).1 : Int))), (2, .int (iI (caK c k).2)), (3, .int (iI ((k : Int) + 1)))] [] 0 0 S I R := by
  intro d
  induction d using Nat.strongRecOn with
  | ind d ih =>
    intro k k1 k2 hP
    have hca := caK_b hm.2 k
    have hco := coK_b (j := (caK c k).1) hm.2 6
    have hcj := cjK_b (j := (caK c k).1) (p := (coK c (caK c k).1 6).1.toNat) hm.2 6
    have hpw := pw6 (p := (coK c (caK c k).1 6).1.toNat) (by omega)
    refine x_iload_n dX7_costForAll_10 rfl ?_
    refine x_bipush dX7_costForAll_11 (by decide) ?_
    refine x_icmp_ge 54 dX7_costForAll_13 (by decide) ⟨(by omega), (by omega)⟩ (fun w13 => ?_) (fun w13 => ?_)
    · refine x_iload_n dX7_costForAll_54 rfl ?_
      exact x_ireturn dX7_costForAll_55 rfl (by omega) (by omega) (by first | (obtain rfl : k = 5 := (by omega); rw [show allP c = (caK c 5).2 from @if_pos _ (Classical.propDecidable _) hP _ _ _] at hp; exact hp) | (rw [show allP c = -1 from @if_neg _ (Classical.propDecidable _) (fun h => by have h2 := caP_mono (k := k + 1) (4 - k) (by rw [show k + 1 + (4 - k) = 5 by omega]; exact h); exact h2.2 (by omega)) _ _ _] at hp; exact hp))
    · refine x_aload_n dX7_costForAll_16 rfl ?_
      refine x_iload_n dX7_costForAll_17 rfl ?_
      refine x_callV1 (mc1 := 0) (ms1 := 0) dX7_costForAll_18 cv_RX7_55 (ci := 7) (k_ob_291 cs) rfl (Nat.le_of_ble_eq_true rfl) (n1 := n - 1) (by omega) (by omega) (by omega) ?_
      refine sp_X7_cheapestOutside cs hm hca.1 (by omega) ?_
      refine x_istore (lv2 := [(4, _), (0, _), (1, _), (2, _), (3, _)]) dX7_costForAll_21 (by decide) rfl ?_
      refine x_iload dX7_costForAll_23 rfl ?_
      refine x_iconst dX7_costForAll_25 ?_
      refine x_icmp_ne 31 dX7_costForAll_26 (by decide) ⟨(by omega), (by omega)⟩ (fun w26 => ?_) (fun w26 => ?_)
      · refine x_iload_n dX7_costForAll_31 rfl ?_
        refine x_aload_n dX7_costForAll_32 rfl ?_
        refine x_iload_n dX7_costForAll_33 rfl ?_
        refine x_iload dX7_costForAll_34 rfl ?_
        rw [asN (a := (coK c (caK c k).1 6).1) (by omega)]
        refine x_callV2 (mc1 := 0) (ms1 := 0) dX7_costForAll_36 cv_RX7_58 (ci := 7) (k_ob_291 cs) rfl (Nat.le_of_ble_eq_true rfl) (n1 := n - 1) (by omega) (by omega) (by omega) ?_
        refine sp_X7_cheapestJoin cs hm hca.1 (by omega) (by omega) ?_
        refine x_iadd dX7_costForAll_39 ?_
        refine x_istore_n (lv2 := [(2, _), (4, _), (0, _), (1, _), (3, _)]) dX7_costForAll_40 (by decide) rfl ?_
        refine x_iload_n dX7_costForAll_41 rfl ?_
        refine x_iconst dX7_costForAll_42 ?_
        refine x_iload dX7_costForAll_43 rfl ?_
        refine x_ishl dX7_costForAll_45 ?_
        rw [← Int.toNat_of_nonneg (show 0 ≤ (coK c (caK c k).1 6).1 by omega), shl1_n (by omega)]
        refine x_ior dX7_costForAll_46 ?_
        rw [tN, orI_n (by omega) (by omega)]
        refine x_istore_n (lv2 := [(1, _), (2, _), (4, _), (0, _), (3, _)]) dX7_costForAll_47 (by decide) rfl ?_
        refine x_iinc (lv2 := [(3, _), (1, _), (2, _), (4, _), (0, _)]) dX7_costForAll_48 rfl (by decide) rfl ?_
        refine x_goto 10 dX7_costForAll_51 (by decide) ?_
        refine x_sub [4, 1, 2, 0] rfl ?_
        exact ih _ (by omega) (k + 1) (by omega) rfl ⟨hP, by omega⟩
      · refine x_iconst dX7_costForAll_29 ?_
        exact x_ireturn dX7_costForAll_30 rfl (by omega) (by omega) (by first | (obtain rfl : k = 5 := (by omega); rw [show allP c = (caK c 5).2 from @if_pos _ (Classical.propDecidable _) hP _ _ _] at hp; exact hp) | (rw [show allP c = -1 from @if_neg _ (Classical.propDecidable _) (fun h => by have h2 := caP_mono (k := k + 1) (4 - k) (by rw [show k + 1 + (4 - k) = 5 by omega]; exact h); exact h2.2 (by omega)) _ _ _] at hp; exact hp))
noncomputable def f_all (A : Nat → Int) (tx : Nat → Nat → Int) : Int := allP (cstA A tx)
theorem sp_X7_costForAll  (cs : CS S R) (hv : CIv S R I A tx) (hn : 6 ≤ n) (hp : ∀ I', CIv S R I' A tx → Fk I I' → Post (some (.int (iI (f_all A tx)))) S I' R) : Call n 0 0 mX7_costForAll [.ref (S.2.1 291)] S I R Post := by
  refine Call.of (by decide +kernel) (Nat.le_of_ble_eq_true rfl) ?_
  show WP _ _ _ _ _ 0 [(0, _)] [] 0 0 _ _ _
  refine x_aload_n dX7_costForAll_0 rfl ?_
  refine x_callV0 (mc1 := 0) (ms1 := 0) dX7_costForAll_1 cv_RX7_29 (ci := 7) (k_ob_291 cs) rfl (Nat.le_of_ble_eq_true rfl) (n1 := n - 1) (by omega) (by omega) (by omega) ?_
  refine sp_X7_listen cs hv (by omega) (fun I1 hv1 hF1 hM1 hL1 => ?_)
  have hs1 : SPr I1 (spA A) := fun i hi => ⟨hL1 i hi, spA_lt i⟩
  have hm1 : MTr I1 (cstA A tx) := MTr_of hv1.2.1 hM1
  refine x_iconst dX7_costForAll_4 ?_
  refine x_istore_n (lv2 := [(1, _), (0, _)]) dX7_costForAll_5 (by decide) rfl ?_
  refine x_iconst dX7_costForAll_6 ?_
  refine x_istore_n (lv2 := [(2, _), (1, _), (0, _)]) dX7_costForAll_7 (by decide) rfl ?_
  refine x_iconst dX7_costForAll_8 ?_
  refine x_istore_n (lv2 := [(3, _), (2, _), (1, _), (0, _)]) dX7_costForAll_9 (by decide) rfl ?_
  refine x_sub [3, 2, 1, 0] rfl ?_
  exact lp_X7_costForAll cs hm1 (by omega) (hp _ hv1 hF1) _ 0 (by omega) rfl trivial
theorem dX11_all_0 : decode prog_1_method_25_code 0 = .ok (.aload_n 0, 1) := by decide +kernel
theorem dX11_all_1 : decode prog_1_method_25_code 1 = .ok (.getfield 47, 3) := by decide +kernel
theorem dX11_all_4 : decode prog_1_method_25_code 4 = .ok (.invokevirtual 239, 3) := by decide +kernel
theorem dX11_all_7 : decode prog_1_method_25_code 7 = .ok (.ireturn, 1) := by decide +kernel
theorem sp_X11_all  (cs : CS S R) (hv : CIv S R I A tx) (hn : 7 ≤ n) (hp : ∀ I', CIv S R I' A tx → Fk I I' → Post (some (.int (iI (f_all A tx)))) S I' R) : Call n 0 0 mX11_all [.ref (S.2.1 0)] S I R Post := by
  refine Call.of (by decide +kernel) (Nat.le_of_ble_eq_true rfl) ?_
  show WP _ _ _ _ _ 0 [(0, _)] [] 0 0 _ _ _
  refine x_aload_n dX11_all_0 rfl ?_
  refine x_getR (b := 291) dX11_all_1 gf_RX11_47 (k_ob_0 cs) (fun _ _ => rfl) (k_r_0_5 cs) ?_
  refine x_callV0 (mc1 := 0) (ms1 := 0) dX11_all_4 cv_RX11_239 (ci := 7) (k_ob_291 cs) rfl (Nat.le_of_ble_eq_true rfl) (n1 := n - 1) (by omega) (by omega) (by omega) ?_
  refine sp_X7_costForAll cs hv (by omega) (fun I5 hv5 hF5 => ?_)
  exact x_ireturn dX11_all_7 rfl (by omega) (by omega) (hp _ hv5 hF5)
def pqK (sp : Nat → Nat) (s : Nat) : Nat → Int
  | 0 => 0
  | i + 1 => if s.testBit i then pqK sp s i + (bcN (sdN (sp i) s) : Int) else pqK sp s i
def cuK (sp : Nat → Nat) (a b : Nat) : Nat → Int
  | 0 => 36
  | s + 1 => if s.testBit a = true ∧ s.testBit b = false then (if cuK sp a b s ≤ pqK sp s 6 then cuK sp a b s else pqK sp s 6) else cuK sp a b s
theorem pqK_b {sp : Nat → Nat} {s : Nat} : ∀ i : Nat, 0 ≤ pqK sp s i ∧ pqK sp s i ≤ 8 * i := by
  intro i
  induction i with
  | zero => simp [pqK]
  | succ i ih =>
    simp only [pqK]
    have := bcN_b (sdN (sp i) s)
    split <;> omega
theorem cuK_b {sp : Nat → Nat} {a b : Nat} : ∀ s : Nat, 0 ≤ cuK sp a b s ∧ cuK sp a b s ≤ 36 := by
  intro s
  induction s with
  | zero => simp [cuK]
  | succ s ih =>
    simp only [cuK]
    have := pqK_b (sp := sp) (s := s) 6
    split
    · split <;> omega
    · omega
def f_cut (A : Nat → Int) (a b : Int) : Int := if 0 ≤ a ∧ a < 6 ∧ 0 ≤ b ∧ b < 6 ∧ a ≠ b then cuK (spA A) a.toNat b.toNat 64 else -1
theorem dX7_pairsOutOf_0 : decode prog_9_method_20_code 0 = .ok (.iconst 0, 1) := by decide +kernel
theorem dX7_pairsOutOf_1 : decode prog_9_method_20_code 1 = .ok (.istore_n 2, 1) := by decide +kernel
theorem dX7_pairsOutOf_2 : decode prog_9_method_20_code 2 = .ok (.iconst 0, 1) := by decide +kernel
theorem dX7_pairsOutOf_3 : decode prog_9_method_20_code 3 = .ok (.istore_n 3, 1) := by decide +kernel
theorem dX7_pairsOutOf_4 : decode prog_9_method_20_code 4 = .ok (.iload_n 3, 1) := by decide +kernel
theorem dX7_pairsOutOf_5 : decode prog_9_method_20_code 5 = .ok (.bipush 6, 2) := by decide +kernel
theorem dX7_pairsOutOf_7 : decode prog_9_method_20_code 7 = .ok (.if_icmp .ge 34, 3) := by decide +kernel
theorem dX7_pairsOutOf_10 : decode prog_9_method_20_code 10 = .ok (.iload_n 1, 1) := by decide +kernel
theorem dX7_pairsOutOf_11 : decode prog_9_method_20_code 11 = .ok (.iload_n 3, 1) := by decide +kernel
theorem dX7_pairsOutOf_12 : decode prog_9_method_20_code 12 = .ok (.ishr, 1) := by decide +kernel
theorem dX7_pairsOutOf_13 : decode prog_9_method_20_code 13 = .ok (.iconst 1, 1) := by decide +kernel
theorem dX7_pairsOutOf_14 : decode prog_9_method_20_code 14 = .ok (.iand, 1) := by decide +kernel
theorem dX7_pairsOutOf_15 : decode prog_9_method_20_code 15 = .ok (.iconst 1, 1) := by decide +kernel
theorem dX7_pairsOutOf_16 : decode prog_9_method_20_code 16 = .ok (.if_icmp .ne 19, 3) := by decide +kernel
theorem dX7_pairsOutOf_19 : decode prog_9_method_20_code 19 = .ok (.iload_n 2, 1) := by decide +kernel
theorem dX7_pairsOutOf_20 : decode prog_9_method_20_code 20 = .ok (.aload_n 0, 1) := by decide +kernel
theorem dX7_pairsOutOf_21 : decode prog_9_method_20_code 21 = .ok (.getfield 15, 3) := by decide +kernel
theorem dX7_pairsOutOf_24 : decode prog_9_method_20_code 24 = .ok (.iload_n 3, 1) := by decide +kernel
theorem dX7_pairsOutOf_25 : decode prog_9_method_20_code 25 = .ok (.iaload, 1) := by decide +kernel
theorem dX7_pairsOutOf_26 : decode prog_9_method_20_code 26 = .ok (.iload_n 1, 1) := by decide +kernel
theorem dX7_pairsOutOf_27 : decode prog_9_method_20_code 27 = .ok (.iconst (-1), 1) := by decide +kernel
theorem dX7_pairsOutOf_28 : decode prog_9_method_20_code 28 = .ok (.ixor, 1) := by decide +kernel
theorem dX7_pairsOutOf_29 : decode prog_9_method_20_code 29 = .ok (.iand, 1) := by decide +kernel
theorem dX7_pairsOutOf_30 : decode prog_9_method_20_code 30 = .ok (.invokestatic 36, 3) := by decide +kernel
theorem dX7_pairsOutOf_33 : decode prog_9_method_20_code 33 = .ok (.iadd, 1) := by decide +kernel
theorem dX7_pairsOutOf_34 : decode prog_9_method_20_code 34 = .ok (.istore_n 2, 1) := by decide +kernel
theorem dX7_pairsOutOf_35 : decode prog_9_method_20_code 35 = .ok (.iinc 3 1, 3) := by decide +kernel
theorem dX7_pairsOutOf_38 : decode prog_9_method_20_code 38 = .ok (.goto (-34), 3) := by decide +kernel
theorem dX7_pairsOutOf_41 : decode prog_9_method_20_code 41 = .ok (.iload_n 2, 1) := by decide +kernel
theorem dX7_pairsOutOf_42 : decode prog_9_method_20_code 42 = .ok (.ireturn, 1) := by decide +kernel
theorem lp_X7_pairsOutOf {sp : Nat → Nat} {s : Nat} (cs : CS S R) (hs : SPr I sp) (hs6 : s < 64) (hn : 1 ≤ n) (hp : Post (some (.int (iI (pqK sp s 6)))) S I R) : ∀ (d i : Nat), i ≤ 6 → 6 - i = d → WP n 0 0 mX7_pairsOutOf Post 4 [(0, .ref (S.2.1 291)), (1, .int (iI (s : Int))), (2, .int (iI (pqK sp s i))), (3, .int (iI (i : Int)))] [] 0 0 S I R := by
  intro d
  induction d using Nat.strongRecOn with
  | ind d ih =>
    intro i k1 k2
    have hpq := pqK_b (sp := sp) (s := s) i
    have hbc := bcN_b (sdN (sp i) s)
    have hsl := sdN_le (sp i) s
    have hsi : i < 6 → I 293 i = (sp i : Int) ∧ sp i < 64 := hs i
    refine x_iload_n dX7_pairsOutOf_4 rfl ?_
    refine x_bipush dX7_pairsOutOf_5 (by decide) ?_
    refine x_icmp_ge 41 dX7_pairsOutOf_7 (by decide) ⟨(by omega), (by omega)⟩ (fun w7 => ?_) (fun w7 => ?_)
    · refine x_iload_n dX7_pairsOutOf_41 rfl ?_
      exact x_ireturn dX7_pairsOutOf_42 rfl (by omega) (by omega) (by obtain rfl : i = 6 := (by omega); exact hp)
    · refine x_iload_n dX7_pairsOutOf_10 rfl ?_
      refine x_iload_n dX7_pairsOutOf_11 rfl ?_
      refine x_ishr dX7_pairsOutOf_12 ?_
      have hb := has_c (x := s) (k := i) (by omega) (by omega)
      refine x_iconst dX7_pairsOutOf_13 ?_
      refine x_iand dX7_pairsOutOf_14 ?_
      refine x_iconst dX7_pairsOutOf_15 ?_
      refine x_icmp_ne 35 dX7_pairsOutOf_16 (by decide) ⟨(by omega), (by omega)⟩ (fun w16 => ?_) (fun w16 => ?_)
      · refine x_iinc (lv2 := [(3, _), (0, _), (1, _), (2, _)]) dX7_pairsOutOf_35 rfl (by decide) rfl ?_
        refine x_goto 4 dX7_pairsOutOf_38 (by decide) ?_
        refine x_sub [1, 2, 3, 0] rfl ?_
        have hg := ih _ (by omega) (i + 1) (by omega) rfl
        simp only [pqK] at hg
        first
          | (rw [if_neg (fun h => by rw [h] at hb; simp at hb; omega)] at hg; exact hg)
          | (rw [if_pos (by rcases hb with hh | hh; exact hh.2; exfalso; omega)] at hg; exact hg)
      · refine x_iload_n dX7_pairsOutOf_19 rfl ?_
        refine x_aload_n dX7_pairsOutOf_20 rfl ?_
        refine x_getR (b := 293) dX7_pairsOutOf_21 gf_RX7_15 (k_ob_291 cs) (fun _ _ => rfl) (k_r_291_3 cs) ?_
        refine x_iload_n dX7_pairsOutOf_24 rfl ?_
        refine x_iaload dX7_pairsOutOf_25 (k_ar_293 cs) (by omega) (by omega) ?_
        rw [tN, (hsi (by omega)).1]
        have hsv := (hsi (by omega)).2
        refine x_iload_n dX7_pairsOutOf_26 rfl ?_
        refine x_iconst dX7_pairsOutOf_27 ?_
        refine x_ixor dX7_pairsOutOf_28 ?_
        refine x_iand dX7_pairsOutOf_29 ?_
        rw [andnot_n (by omega) (by omega)]
        refine x_callS1 (mc1 := 0) (ms1 := 0) dX7_pairsOutOf_30 cv_RX7_36 (Nat.le_of_ble_eq_true rfl) (n1 := n - 1) (by omega) (by omega) (by omega) ?_
        refine sp_bitCount (by omega) ?_
        refine x_iadd dX7_pairsOutOf_33 ?_
        refine x_istore_n (lv2 := [(2, _), (0, _), (1, _), (3, _)]) dX7_pairsOutOf_34 (by decide) rfl ?_
        refine x_iinc (lv2 := [(3, _), (2, _), (0, _), (1, _)]) dX7_pairsOutOf_35 rfl (by decide) rfl ?_
        refine x_goto 4 dX7_pairsOutOf_38 (by decide) ?_
        refine x_sub [2, 3, 1, 0] rfl ?_
        have hg := ih _ (by omega) (i + 1) (by omega) rfl
        simp only [pqK] at hg
        first
          | (rw [if_neg (fun h => by rw [h] at hb; simp at hb; omega)] at hg; exact hg)
          | (rw [if_pos (by rcases hb with hh | hh; exact hh.2; exfalso; omega)] at hg; exact hg)
theorem sp_X7_pairsOutOf {sp : Nat → Nat} {s : Nat} (cs : CS S R) (hs : SPr I sp) (hs6 : s < 64) (hn : 1 ≤ n) (hp : Post (some (.int (iI (pqK sp s 6)))) S I R) : Call n 0 0 mX7_pairsOutOf [.ref (S.2.1 291), .int (iI (s : Int))] S I R Post := by
  refine Call.of (by decide +kernel) (Nat.le_of_ble_eq_true rfl) ?_
  show WP _ _ _ _ _ 0 [(0, _), (1, _)] [] 0 0 _ _ _
  refine x_iconst dX7_pairsOutOf_0 ?_
  refine x_istore_n (lv2 := [(2, _), (0, _), (1, _)]) dX7_pairsOutOf_1 (by decide) rfl ?_
  refine x_iconst dX7_pairsOutOf_2 ?_
  refine x_istore_n (lv2 := [(3, _), (2, _), (0, _), (1, _)]) dX7_pairsOutOf_3 (by decide) rfl ?_
  refine x_sub [2, 3, 1, 0] rfl ?_
  exact lp_X7_pairsOutOf cs hs hs6 hn hp _ 0 (by omega) rfl
theorem dX7_fewestCut_0 : decode prog_9_method_9_code 0 = .ok (.aload_n 0, 1) := by decide +kernel
theorem dX7_fewestCut_1 : decode prog_9_method_9_code 1 = .ok (.invokevirtual 29, 3) := by decide +kernel
theorem dX7_fewestCut_4 : decode prog_9_method_9_code 4 = .ok (.bipush 36, 2) := by decide +kernel
theorem dX7_fewestCut_6 : decode prog_9_method_9_code 6 = .ok (.istore_n 3, 1) := by decide +kernel
theorem dX7_fewestCut_7 : decode prog_9_method_9_code 7 = .ok (.iconst 0, 1) := by decide +kernel
theorem dX7_fewestCut_8 : decode prog_9_method_9_code 8 = .ok (.istore 4, 2) := by decide +kernel
theorem dX7_fewestCut_10 : decode prog_9_method_9_code 10 = .ok (.iload 4, 2) := by decide +kernel
theorem dX7_fewestCut_12 : decode prog_9_method_9_code 12 = .ok (.bipush 63, 2) := by decide +kernel
theorem dX7_fewestCut_14 : decode prog_9_method_9_code 14 = .ok (.if_icmp .gt 39, 3) := by decide +kernel
theorem dX7_fewestCut_17 : decode prog_9_method_9_code 17 = .ok (.iload 4, 2) := by decide +kernel
theorem dX7_fewestCut_19 : decode prog_9_method_9_code 19 = .ok (.iload_n 1, 1) := by decide +kernel
theorem dX7_fewestCut_20 : decode prog_9_method_9_code 20 = .ok (.ishr, 1) := by decide +kernel
theorem dX7_fewestCut_21 : decode prog_9_method_9_code 21 = .ok (.iconst 1, 1) := by decide +kernel
theorem dX7_fewestCut_22 : decode prog_9_method_9_code 22 = .ok (.iand, 1) := by decide +kernel
theorem dX7_fewestCut_23 : decode prog_9_method_9_code 23 = .ok (.iconst 1, 1) := by decide +kernel
theorem dX7_fewestCut_24 : decode prog_9_method_9_code 24 = .ok (.if_icmp .ne 23, 3) := by decide +kernel
theorem dX7_fewestCut_27 : decode prog_9_method_9_code 27 = .ok (.iload 4, 2) := by decide +kernel
theorem dX7_fewestCut_29 : decode prog_9_method_9_code 29 = .ok (.iload_n 2, 1) := by decide +kernel
theorem dX7_fewestCut_30 : decode prog_9_method_9_code 30 = .ok (.ishr, 1) := by decide +kernel
theorem dX7_fewestCut_31 : decode prog_9_method_9_code 31 = .ok (.iconst 1, 1) := by decide +kernel
theorem dX7_fewestCut_32 : decode prog_9_method_9_code 32 = .ok (.iand, 1) := by decide +kernel
theorem dX7_fewestCut_33 : decode prog_9_method_9_code 33 = .ok (.ifCond .ne 14, 3) := by decide +kernel
theorem dX7_fewestCut_36 : decode prog_9_method_9_code 36 = .ok (.iload_n 3, 1) := by decide +kernel
theorem dX7_fewestCut_37 : decode prog_9_method_9_code 37 = .ok (.aload_n 0, 1) := by decide +kernel
theorem dX7_fewestCut_38 : decode prog_9_method_9_code 38 = .ok (.iload 4, 2) := by decide +kernel
theorem dX7_fewestCut_40 : decode prog_9_method_9_code 40 = .ok (.invokevirtual 61, 3) := by decide +kernel
theorem dX7_fewestCut_43 : decode prog_9_method_9_code 43 = .ok (.invokestatic 64, 3) := by decide +kernel
theorem dX7_fewestCut_46 : decode prog_9_method_9_code 46 = .ok (.istore_n 3, 1) := by decide +kernel
theorem dX7_fewestCut_47 : decode prog_9_method_9_code 47 = .ok (.iinc 4 1, 3) := by decide +kernel
theorem dX7_fewestCut_50 : decode prog_9_method_9_code 50 = .ok (.goto (-40), 3) := by decide +kernel
theorem dX7_fewestCut_53 : decode prog_9_method_9_code 53 = .ok (.iload_n 3, 1) := by decide +kernel
theorem dX7_fewestCut_54 : decode prog_9_method_9_code 54 = .ok (.ireturn, 1) := by decide +kernel
theorem lp_X7_fewestCut {sp : Nat → Nat} {a b : Nat} (cs : CS S R) (hs : SPr I sp) (ha : a < 6) (hb6 : b < 6) (hn : 2 ≤ n) (hp : Post (some (.int (iI (cuK sp a b 64)))) S I R) : ∀ (d s : Nat), s ≤ 64 → 64 - s = d → WP n 0 0 mX7_fewestCut Post 10 [(0, .ref (S.2.1 291)), (1, .int (iI (a : Int))), (2, .int (iI (b : Int))), (3, .int (iI (cuK sp a b s))), (4, .int (iI (s : Int)))] [] 0 0 S I R := by
  intro d
  induction d using Nat.strongRecOn with
  | ind d ih =>
    intro s k1 k2
    have hcu := cuK_b (sp := sp) (a := a) (b := b) s
    have hpq := pqK_b (sp := sp) (s := s) 6
    refine x_iload dX7_fewestCut_10 rfl ?_
    refine x_bipush dX7_fewestCut_12 (by decide) ?_
    refine x_icmp_gt 53 dX7_fewestCut_14 (by decide) ⟨(by omega), (by omega)⟩ (fun w14 => ?_) (fun w14 => ?_)
    · refine x_iload_n dX7_fewestCut_53 rfl ?_
      exact x_ireturn dX7_fewestCut_54 rfl (by omega) (by omega) (by obtain rfl : s = 64 := (by omega); exact hp)
    · refine x_iload dX7_fewestCut_17 rfl ?_
      refine x_iload_n dX7_fewestCut_19 rfl ?_
      refine x_ishr dX7_fewestCut_20 ?_
      have hb1 := has_c (x := s) (k := a) (by omega) (by omega)
      refine x_iconst dX7_fewestCut_21 ?_
      refine x_iand dX7_fewestCut_22 ?_
      refine x_iconst dX7_fewestCut_23 ?_
      refine x_icmp_ne 47 dX7_fewestCut_24 (by decide) ⟨(by omega), (by omega)⟩ (fun w24 => ?_) (fun w24 => ?_)
      · refine x_iinc (lv2 := [(4, _), (0, _), (1, _), (2, _), (3, _)]) dX7_fewestCut_47 rfl (by decide) rfl ?_
        refine x_goto 10 dX7_fewestCut_50 (by decide) ?_
        refine x_sub [1, 2, 3, 4, 0] rfl ?_
        have hg := ih _ (by omega) (s + 1) (by omega) rfl
        simp only [cuK] at hg
        first
          | (rw [if_neg (fun h => by rw [h.1] at hb1; simp at hb1; omega)] at hg; exact hg)
          | (rw [if_neg (fun h => by rw [h.2] at hb2; simp at hb2; omega)] at hg; exact hg)
          | (rw [if_pos ⟨by rcases hb1 with hh | hh; exact hh.2; exfalso; omega, by rcases hb2 with hh | hh; exfalso; omega; exact hh.2⟩] at hg
             rcases hr43 with hh | hh
             · rw [if_pos hh.2, ← hh.1] at hg; exact hg
             · rw [if_neg (by omega), ← hh.1] at hg; exact hg)
      · refine x_iload dX7_fewestCut_27 rfl ?_
        refine x_iload_n dX7_fewestCut_29 rfl ?_
        refine x_ishr dX7_fewestCut_30 ?_
        have hb2 := has_c (x := s) (k := b) (by omega) (by omega)
        refine x_iconst dX7_fewestCut_31 ?_
        refine x_iand dX7_fewestCut_32 ?_
        refine x_if_ne 47 dX7_fewestCut_33 (by decide) (by omega) (fun w33 => ?_) (fun w33 => ?_)
        · refine x_iinc (lv2 := [(4, _), (0, _), (1, _), (2, _), (3, _)]) dX7_fewestCut_47 rfl (by decide) rfl ?_
          refine x_goto 10 dX7_fewestCut_50 (by decide) ?_
          refine x_sub [1, 2, 3, 4, 0] rfl ?_
          have hg := ih _ (by omega) (s + 1) (by omega) rfl
          simp only [cuK] at hg
          first
            | (rw [if_neg (fun h => by rw [h.1] at hb1; simp at hb1; omega)] at hg; exact hg)
            | (rw [if_neg (fun h => by rw [h.2] at hb2; simp at hb2; omega)] at hg; exact hg)
            | (rw [if_pos ⟨by rcases hb1 with hh | hh; exact hh.2; exfalso; omega, by rcases hb2 with hh | hh; exfalso; omega; exact hh.2⟩] at hg
               rcases hr43 with hh | hh
               · rw [if_pos hh.2, ← hh.1] at hg; exact hg
               · rw [if_neg (by omega), ← hh.1] at hg; exact hg)
        · refine x_iload_n dX7_fewestCut_36 rfl ?_
          refine x_aload_n dX7_fewestCut_37 rfl ?_
          refine x_iload dX7_fewestCut_38 rfl ?_
          refine x_callV1 (mc1 := 0) (ms1 := 0) dX7_fewestCut_40 cv_RX7_61 (ci := 7) (k_ob_291 cs) rfl (Nat.le_of_ble_eq_true rfl) (n1 := n - 1) (by omega) (by omega) (by omega) ?_
          refine sp_X7_pairsOutOf cs hs (by omega) (by omega) ?_
          refine x_mmin dX7_fewestCut_43 cv_RX7_64 (by omega) (Nat.le_of_ble_eq_true rfl) (by omega) (by omega) (by omega) (fun r43 hr43 => ?_)
          refine x_istore_n (lv2 := [(3, _), (0, _), (1, _), (2, _), (4, _)]) dX7_fewestCut_46 (by decide) rfl ?_
          refine x_iinc (lv2 := [(4, _), (3, _), (0, _), (1, _), (2, _)]) dX7_fewestCut_47 rfl (by decide) rfl ?_
          refine x_goto 10 dX7_fewestCut_50 (by decide) ?_
          refine x_sub [2, 3, 4, 1, 0] rfl ?_
          have hg := ih _ (by omega) (s + 1) (by omega) rfl
          simp only [cuK] at hg
          first
            | (rw [if_neg (fun h => by rw [h.1] at hb1; simp at hb1; omega)] at hg; exact hg)
            | (rw [if_neg (fun h => by rw [h.2] at hb2; simp at hb2; omega)] at hg; exact hg)
            | (rw [if_pos ⟨by rcases hb1 with hh | hh; exact hh.2; exfalso; omega, by rcases hb2 with hh | hh; exfalso; omega; exact hh.2⟩] at hg
               rcases hr43 with hh | hh
               · rw [if_pos hh.2, ← hh.1] at hg; exact hg
               · rw [if_neg (by omega), ← hh.1] at hg; exact hg)
theorem sp_X7_fewestCut {a b : Nat} (cs : CS S R) (hv : CIv S R I A tx) (ha : a < 6) (hb6 : b < 6) (hn : 6 ≤ n) (hp : ∀ I', CIv S R I' A tx → Fk I I' → Post (some (.int (iI (cuK (spA A) a b 64)))) S I' R) : Call n 0 0 mX7_fewestCut [.ref (S.2.1 291), .int (iI (a : Int)), .int (iI (b : Int))] S I R Post := by
  refine Call.of (by decide +kernel) (Nat.le_of_ble_eq_true rfl) ?_
  show WP _ _ _ _ _ 0 [(0, _), (1, _), (2, _)] [] 0 0 _ _ _
  refine x_aload_n dX7_fewestCut_0 rfl ?_
  refine x_callV0 (mc1 := 0) (ms1 := 0) dX7_fewestCut_1 cv_RX7_29 (ci := 7) (k_ob_291 cs) rfl (Nat.le_of_ble_eq_true rfl) (n1 := n - 1) (by omega) (by omega) (by omega) ?_
  refine sp_X7_listen cs hv (by omega) (fun I1 hv1 hF1 hM1 hL1 => ?_)
  have hs1 : SPr I1 (spA A) := fun i hi => ⟨hL1 i hi, spA_lt i⟩
  have hm1 : MTr I1 (cstA A tx) := MTr_of hv1.2.1 hM1
  refine x_bipush dX7_fewestCut_4 (by decide) ?_
  refine x_istore_n (lv2 := [(3, _), (0, _), (1, _), (2, _)]) dX7_fewestCut_6 (by decide) rfl ?_
  refine x_iconst dX7_fewestCut_7 ?_
  refine x_istore (lv2 := [(4, _), (3, _), (0, _), (1, _), (2, _)]) dX7_fewestCut_8 (by decide) rfl ?_
  refine x_sub [2, 3, 4, 1, 0] rfl ?_
  exact lp_X7_fewestCut cs hs1 ha hb6 (by omega) (hp _ hv1 hF1) _ 0 (by omega) rfl
theorem dX11_cut_0 : decode prog_1_method_26_code 0 = .ok (.iload_n 1, 1) := by decide +kernel
theorem dX11_cut_1 : decode prog_1_method_26_code 1 = .ok (.iload_n 2, 1) := by decide +kernel
theorem dX11_cut_2 : decode prog_1_method_26_code 2 = .ok (.invokestatic 212, 3) := by decide +kernel
theorem dX11_cut_5 : decode prog_1_method_26_code 5 = .ok (.ifCond .eq 15, 3) := by decide +kernel
theorem dX11_cut_8 : decode prog_1_method_26_code 8 = .ok (.aload_n 0, 1) := by decide +kernel
theorem dX11_cut_9 : decode prog_1_method_26_code 9 = .ok (.getfield 47, 3) := by decide +kernel
theorem dX11_cut_12 : decode prog_1_method_26_code 12 = .ok (.iload_n 1, 1) := by decide +kernel
theorem dX11_cut_13 : decode prog_1_method_26_code 13 = .ok (.iload_n 2, 1) := by decide +kernel
theorem dX11_cut_14 : decode prog_1_method_26_code 14 = .ok (.invokevirtual 242, 3) := by decide +kernel
theorem dX11_cut_17 : decode prog_1_method_26_code 17 = .ok (.goto 4, 3) := by decide +kernel
theorem dX11_cut_20 : decode prog_1_method_26_code 20 = .ok (.iconst (-1), 1) := by decide +kernel
theorem dX11_cut_21 : decode prog_1_method_26_code 21 = .ok (.ireturn, 1) := by decide +kernel
theorem sp_X11_cut {a b : Int} (cs : CS S R) (hv : CIv S R I A tx) (ha : Rg a) (hb6 : Rg b) (hn : 7 ≤ n) (hp : ∀ I', CIv S R I' A tx → Fk I I' → Post (some (.int (iI (f_cut A a b)))) S I' R) : Call n 0 0 mX11_cut [.ref (S.2.1 0), .int (iI a), .int (iI b)] S I R Post := by
  unfold f_cut at hp
  refine Call.of (by decide +kernel) (Nat.le_of_ble_eq_true rfl) ?_
  show WP _ _ _ _ _ 0 [(0, _), (1, _), (2, _)] [] 0 0 _ _ _
  refine x_iload_n dX11_cut_0 rfl ?_
  refine x_iload_n dX11_cut_1 rfl ?_
  refine x_callS2 (mc1 := 0) (ms1 := 0) dX11_cut_2 cv_RX11_212 (Nat.le_of_ble_eq_true rfl) (n1 := n - 1) (by omega) (by omega) (by omega) ?_
  refine sp_X11_areTwo (by omega) (by omega) (by omega) (fun r2 hr2 => ?_)
  refine x_if_eq 20 dX11_cut_5 (by decide) (by omega) (fun w5 => ?_) (fun w5 => ?_)
  · refine x_iconst dX11_cut_20 ?_
    exact x_ireturn dX11_cut_21 rfl (by omega) (by omega) (by first | (rw [if_neg (by omega)] at hp; exact hp _ hv Fk.rf) | (rw [if_pos (by omega)] at hp; exact hp _ hv12 hF12))
  · refine x_aload_n dX11_cut_8 rfl ?_
    refine x_getR (b := 291) dX11_cut_9 gf_RX11_47 (k_ob_0 cs) (fun _ _ => rfl) (k_r_0_5 cs) ?_
    refine x_iload_n dX11_cut_12 rfl ?_
    refine x_iload_n dX11_cut_13 rfl ?_
    refine x_callV2 (mc1 := 0) (ms1 := 0) dX11_cut_14 cv_RX11_242 (ci := 7) (k_ob_291 cs) rfl (Nat.le_of_ble_eq_true rfl) (n1 := n - 1) (by omega) (by omega) (by omega) ?_
    rw [asN (a := a) (by omega), asN (a := b) (by omega)]
    refine sp_X7_fewestCut cs hv (by omega) (by omega) (by omega) (fun I12 hv12 hF12 => ?_)
    refine x_goto 21 dX11_cut_17 (by decide) ?_
    exact x_ireturn dX11_cut_21 rfl (by omega) (by omega) (by first | (rw [if_neg (by omega)] at hp; exact hp _ hv Fk.rf) | (rw [if_pos (by omega)] at hp; exact hp _ hv12 hF12))
end Talk3
