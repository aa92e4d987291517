section Rt1s
variable {n mc ms : Nat} {M : Md} {pc : Nat} {lv : List (Nat × Value)} {st : List Value} {k j : Nat} {Post : PT} {S : Sh} {I : CI} {R : CR} {A : Nat → Int} {tx : Nat → Nat → Int}
variable {t : Nat → Int} {l o : Nat} {sl : Bool} {cu cu1 : Cu} {p b c1 : List Int}
abbrev Qw (t : Nat → Int) (s0 : Nat) : Prop := t s0 = 113 ∧ t (s0 + 1) = 117 ∧ t (s0 + 2) = 97 ∧ t (s0 + 3) = 114 ∧ t (s0 + 4) = 114 ∧ t (s0 + 5) = 101 ∧ t (s0 + 6) = 108
def TkQ (J : CI) (t : Nat → Int) (cu : Cu) : Prop := (J 306 9 = 2 ∧ cu.1 = cu.2.1 + 7 ∧ Qw t cu.2.1) ↔ cu.2.2.1 = 138
theorem wd_q {s0 e : Nat} (he : s0 ≤ e) : wdL t s0 (e - s0) = [113, 117, 97, 114, 114, 101, 108] ↔ e = s0 + 7 ∧ Qw t s0 := by
  constructor
  · intro h
    have h1 : (wdL t s0 (e - s0)).length = 7 := by rw [h]; rfl
    rw [wdL_len] at h1
    have h2 : ∀ i v, i < e - s0 → ([113, 117, 97, 114, 114, 101, 108] : List Int)[i]? = some v → t (s0 + i) = v := by
      intro i v hi hv
      have h3 := wdL_get (t := t) (s := s0) hi
      rw [h, hv] at h3
      exact (Option.some.inj h3).symm
    exact ⟨by omega, h2 0 113 (by omega) rfl, h2 1 117 (by omega) rfl, h2 2 97 (by omega) rfl, h2 3 114 (by omega) rfl, h2 4 114 (by omega) rfl, h2 5 101 (by omega) rfl, h2 6 108 (by omega) rfl⟩
  · rintro ⟨h1, q0, q1, q2, q3, q4, q5, q6⟩
    rw [show e - s0 = 7 by omega]
    show [t (s0 + 0), t (s0 + 1), t (s0 + 2), t (s0 + 3), t (s0 + 4), t (s0 + 5), t (s0 + 6)] = _
    rw [show s0 + 0 = s0 by omega, q0, q1, q2, q3, q4, q5, q6]
theorem tq_of {J : CI} {s0 : Nat} (l3 : l ≤ 300) (hs : s0 ≤ l) (hC : CuR J t l s0) : TkQ J t (tkF t l s0) := by
  obtain ⟨c7, c8, c0, cw, cn, cg⟩ := hC
  unfold TkQ
  by_cases h1 : l ≤ s0
  · have e : tkF t l s0 = (s0, s0, 0, 0) := if_pos h1
    have k9 := c0 h1
    rw [e]
    show _ ↔ (0 : Int) = 138
    constructor
    · intro h; have := h.1; omega
    · intro h; omega
  · by_cases h2 : ltP (t s0)
    · have e : tkF t l s0 = (eR (lB t l) l s0, s0, kW (wdL t s0 (eR (lB t l) l s0 - s0)), 0) := by
        unfold tkF; rw [if_neg h1, if_pos h2]
      obtain ⟨k9, k11⟩ := cw (by omega) h2
      have hg := eR_ge (b := lB t l) (l := l) (p := s0)
      rw [e]
      show (J 306 9 = 2 ∧ eR (lB t l) l s0 = s0 + 7 ∧ Qw t s0) ↔ kW (wdL t s0 (eR (lB t l) l s0 - s0)) = 138
      rw [kW_quarrel, wd_q hg]
      exact ⟨fun h => h.2, fun h => ⟨k9, h⟩⟩
    · by_cases h4 : dgP (t s0)
      · have e : tkF t l s0 = (eR (dB t l) l s0, s0, 2, nuC t s0 (eR (dB t l) l s0 - s0)) := by
          unfold tkF; rw [if_neg h1, if_neg h2, if_pos h4]
        obtain ⟨k9, -⟩ := cn (by omega) h4
        rw [e]
        show _ ↔ (2 : Int) = 138
        constructor
        · intro h; have := h.1; omega
        · intro h; omega
      · have e : tkF t l s0 = (if eqP t l s0 then s0 + 2 else s0 + 1, s0, skK t l s0, 0) := by
          unfold tkF; rw [if_neg h1, if_neg h2, if_neg h4]
        have k9 := cg (by omega) h2 h4
        have hs2 : snR t l s0 ≠ 2 := by unfold snR; repeat' split
                                        all_goals omega
        have hk2 : skK t l s0 ≠ 138 := by unfold skK; repeat' split
                                          all_goals omega
        rw [e]
        show _ ↔ skK t l s0 = 138
        constructor
        · intro h; have := h.1; omega
        · intro h; omega
abbrev Tok (J : CI) (t : Nat → Int) (l : Nat) (cu : Cu) : Prop := TpR J t l ∧ TkR J cu ∧ CuOK l cu
theorem sp_nxq (cs : CS S R) (hn : 2 ≤ n) (h : Tok I t l cu) (hp : ∀ J, Tok J t l (adv t l cu.1) → TkQ J t (adv t l cu.1) → (cu.2.2.1 ≠ 0 → cu.2.1 < (adv t l cu.1).2.1) → cu.2.1 ≤ (adv t l cu.1).2.1 → FcR I J → Post none S J R) : Call n 0 0 mX12_nextToken [.ref (S.2.1 306)] S I R Post := by
  have l3 := h.1.2.2.1
  refine sp_X12_nextToken (t := t) (l := l) (p := cu.1) cs hn h.1 h.2.2.2.1 h.2.1.1.1 (fun J hC hF => ?_)
  have ha := cu_adv (t := t) h.2.2 l3
  have hT := TpR.f h.1 hF
  exact hp J ⟨hT, tk_of hT (eR_le h.2.2.2.1) hC, ha.1⟩ (tq_of l3 (eR_le h.2.2.2.1) hC) ha.2.1 ha.2.2 hF
theorem dX12_isQuarrelWord_0 : decode prog_14_method_35_code 0 = .ok (.aload_n 0, 1) := by decide +kernel
theorem dX12_isQuarrelWord_1 : decode prog_14_method_35_code 1 = .ok (.getfield 115, 3) := by decide +kernel
theorem dX12_isQuarrelWord_4 : decode prog_14_method_35_code 4 = .ok (.iconst 2, 1) := by decide +kernel
theorem dX12_isQuarrelWord_5 : decode prog_14_method_35_code 5 = .ok (.if_icmp .ne 124, 3) := by decide +kernel
theorem dX12_isQuarrelWord_8 : decode prog_14_method_35_code 8 = .ok (.aload_n 0, 1) := by decide +kernel
theorem dX12_isQuarrelWord_9 : decode prog_14_method_35_code 9 = .ok (.getfield 106, 3) := by decide +kernel
theorem dX12_isQuarrelWord_12 : decode prog_14_method_35_code 12 = .ok (.aload_n 0, 1) := by decide +kernel
theorem dX12_isQuarrelWord_13 : decode prog_14_method_35_code 13 = .ok (.getfield 112, 3) := by decide +kernel
theorem dX12_isQuarrelWord_16 : decode prog_14_method_35_code 16 = .ok (.isub, 1) := by decide +kernel
theorem dX12_isQuarrelWord_17 : decode prog_14_method_35_code 17 = .ok (.bipush 7, 2) := by decide +kernel
theorem dX12_isQuarrelWord_19 : decode prog_14_method_35_code 19 = .ok (.if_icmp .ne 110, 3) := by decide +kernel
theorem dX12_isQuarrelWord_22 : decode prog_14_method_35_code 22 = .ok (.aload_n 0, 1) := by decide +kernel
theorem dX12_isQuarrelWord_23 : decode prog_14_method_35_code 23 = .ok (.aload_n 0, 1) := by decide +kernel
theorem dX12_isQuarrelWord_24 : decode prog_14_method_35_code 24 = .ok (.getfield 112, 3) := by decide +kernel
theorem dX12_isQuarrelWord_27 : decode prog_14_method_35_code 27 = .ok (.invokevirtual 109, 3) := by decide +kernel
theorem dX12_isQuarrelWord_30 : decode prog_14_method_35_code 30 = .ok (.aload_n 0, 1) := by decide +kernel
theorem dX12_isQuarrelWord_31 : decode prog_14_method_35_code 31 = .ok (.aload_n 0, 1) := by decide +kernel
theorem dX12_isQuarrelWord_32 : decode prog_14_method_35_code 32 = .ok (.getfield 112, 3) := by decide +kernel
theorem dX12_isQuarrelWord_35 : decode prog_14_method_35_code 35 = .ok (.iconst 1, 1) := by decide +kernel
theorem dX12_isQuarrelWord_36 : decode prog_14_method_35_code 36 = .ok (.iadd, 1) := by decide +kernel
theorem dX12_isQuarrelWord_37 : decode prog_14_method_35_code 37 = .ok (.invokevirtual 109, 3) := by decide +kernel
theorem dX12_isQuarrelWord_40 : decode prog_14_method_35_code 40 = .ok (.aload_n 0, 1) := by decide +kernel
theorem dX12_isQuarrelWord_41 : decode prog_14_method_35_code 41 = .ok (.aload_n 0, 1) := by decide +kernel
theorem dX12_isQuarrelWord_42 : decode prog_14_method_35_code 42 = .ok (.getfield 112, 3) := by decide +kernel
theorem dX12_isQuarrelWord_45 : decode prog_14_method_35_code 45 = .ok (.iconst 2, 1) := by decide +kernel
theorem dX12_isQuarrelWord_46 : decode prog_14_method_35_code 46 = .ok (.iadd, 1) := by decide +kernel
theorem dX12_isQuarrelWord_47 : decode prog_14_method_35_code 47 = .ok (.invokevirtual 109, 3) := by decide +kernel
theorem dX12_isQuarrelWord_50 : decode prog_14_method_35_code 50 = .ok (.aload_n 0, 1) := by decide +kernel
theorem dX12_isQuarrelWord_51 : decode prog_14_method_35_code 51 = .ok (.aload_n 0, 1) := by decide +kernel
theorem dX12_isQuarrelWord_52 : decode prog_14_method_35_code 52 = .ok (.getfield 112, 3) := by decide +kernel
theorem dX12_isQuarrelWord_55 : decode prog_14_method_35_code 55 = .ok (.iconst 3, 1) := by decide +kernel
theorem dX12_isQuarrelWord_56 : decode prog_14_method_35_code 56 = .ok (.iadd, 1) := by decide +kernel
theorem dX12_isQuarrelWord_57 : decode prog_14_method_35_code 57 = .ok (.invokevirtual 109, 3) := by decide +kernel
theorem dX12_isQuarrelWord_60 : decode prog_14_method_35_code 60 = .ok (.invokestatic 145, 3) := by decide +kernel
theorem dX12_isQuarrelWord_63 : decode prog_14_method_35_code 63 = .ok (.bipush 113, 2) := by decide +kernel
theorem dX12_isQuarrelWord_65 : decode prog_14_method_35_code 65 = .ok (.bipush 117, 2) := by decide +kernel
theorem dX12_isQuarrelWord_67 : decode prog_14_method_35_code 67 = .ok (.bipush 97, 2) := by decide +kernel
theorem dX12_isQuarrelWord_69 : decode prog_14_method_35_code 69 = .ok (.bipush 114, 2) := by decide +kernel
theorem dX12_isQuarrelWord_71 : decode prog_14_method_35_code 71 = .ok (.invokestatic 145, 3) := by decide +kernel
theorem dX12_isQuarrelWord_74 : decode prog_14_method_35_code 74 = .ok (.lcmp, 1) := by decide +kernel
theorem dX12_isQuarrelWord_75 : decode prog_14_method_35_code 75 = .ok (.ifCond .ne 54, 3) := by decide +kernel
theorem dX12_isQuarrelWord_78 : decode prog_14_method_35_code 78 = .ok (.aload_n 0, 1) := by decide +kernel
theorem dX12_isQuarrelWord_79 : decode prog_14_method_35_code 79 = .ok (.aload_n 0, 1) := by decide +kernel
theorem dX12_isQuarrelWord_80 : decode prog_14_method_35_code 80 = .ok (.getfield 112, 3) := by decide +kernel
theorem dX12_isQuarrelWord_83 : decode prog_14_method_35_code 83 = .ok (.iconst 4, 1) := by decide +kernel
theorem dX12_isQuarrelWord_84 : decode prog_14_method_35_code 84 = .ok (.iadd, 1) := by decide +kernel
theorem dX12_isQuarrelWord_85 : decode prog_14_method_35_code 85 = .ok (.invokevirtual 109, 3) := by decide +kernel
theorem dX12_isQuarrelWord_88 : decode prog_14_method_35_code 88 = .ok (.aload_n 0, 1) := by decide +kernel
theorem dX12_isQuarrelWord_89 : decode prog_14_method_35_code 89 = .ok (.aload_n 0, 1) := by decide +kernel
theorem dX12_isQuarrelWord_90 : decode prog_14_method_35_code 90 = .ok (.getfield 112, 3) := by decide +kernel
theorem dX12_isQuarrelWord_93 : decode prog_14_method_35_code 93 = .ok (.iconst 5, 1) := by decide +kernel
theorem dX12_isQuarrelWord_94 : decode prog_14_method_35_code 94 = .ok (.iadd, 1) := by decide +kernel
theorem dX12_isQuarrelWord_95 : decode prog_14_method_35_code 95 = .ok (.invokevirtual 109, 3) := by decide +kernel
theorem dX12_isQuarrelWord_98 : decode prog_14_method_35_code 98 = .ok (.aload_n 0, 1) := by decide +kernel
theorem dX12_isQuarrelWord_99 : decode prog_14_method_35_code 99 = .ok (.aload_n 0, 1) := by decide +kernel
theorem dX12_isQuarrelWord_100 : decode prog_14_method_35_code 100 = .ok (.getfield 112, 3) := by decide +kernel
theorem dX12_isQuarrelWord_103 : decode prog_14_method_35_code 103 = .ok (.bipush 6, 2) := by decide +kernel
theorem dX12_isQuarrelWord_105 : decode prog_14_method_35_code 105 = .ok (.iadd, 1) := by decide +kernel
theorem dX12_isQuarrelWord_106 : decode prog_14_method_35_code 106 = .ok (.invokevirtual 109, 3) := by decide +kernel
theorem dX12_isQuarrelWord_109 : decode prog_14_method_35_code 109 = .ok (.invokestatic 141, 3) := by decide +kernel
theorem dX12_isQuarrelWord_112 : decode prog_14_method_35_code 112 = .ok (.bipush 114, 2) := by decide +kernel
theorem dX12_isQuarrelWord_114 : decode prog_14_method_35_code 114 = .ok (.bipush 101, 2) := by decide +kernel
theorem dX12_isQuarrelWord_116 : decode prog_14_method_35_code 116 = .ok (.bipush 108, 2) := by decide +kernel
theorem dX12_isQuarrelWord_118 : decode prog_14_method_35_code 118 = .ok (.invokestatic 141, 3) := by decide +kernel
theorem dX12_isQuarrelWord_121 : decode prog_14_method_35_code 121 = .ok (.lcmp, 1) := by decide +kernel
theorem dX12_isQuarrelWord_122 : decode prog_14_method_35_code 122 = .ok (.ifCond .ne 7, 3) := by decide +kernel
theorem dX12_isQuarrelWord_125 : decode prog_14_method_35_code 125 = .ok (.iconst 1, 1) := by decide +kernel
theorem dX12_isQuarrelWord_126 : decode prog_14_method_35_code 126 = .ok (.goto 4, 3) := by decide +kernel
theorem dX12_isQuarrelWord_129 : decode prog_14_method_35_code 129 = .ok (.iconst 0, 1) := by decide +kernel
theorem dX12_isQuarrelWord_130 : decode prog_14_method_35_code 130 = .ok (.ireturn, 1) := by decide +kernel
theorem sp_X12_isQuarrelWord (cs : CS S R) (hn : 3 ≤ n) (h : Tok I t l cu) (hq : TkQ I t cu) (hp : ∀ r : Int, (r = 1 ∧ cu.2.2.1 = 138 ∨ r = 0 ∧ cu.2.2.1 ≠ 138) → Post (some (.int (iI r))) S I R) : Call n 0 0 mX12_isQuarrelWord [.ref (S.2.1 306)] S I R Post := by
  obtain ⟨⟨a1, a2, a3, a4⟩, a5⟩ := id h.2.1
  have l3 := h.1.2.2.1
  have ok1 := h.2.2.1
  have ok2 := h.2.2.2.1
  have hq' : (I 306 9 = 2 ∧ cu.1 = cu.2.1 + 7 ∧ Qw t cu.2.1) ↔ cu.2.2.1 = 138 := hq
  have hno : ¬ (I 306 9 = 2 ∧ cu.1 = cu.2.1 + 7 ∧ Qw t cu.2.1) → cu.2.2.1 ≠ 138 := fun g e => g (hq'.mpr e)
  refine Call.of (by decide +kernel) (Nat.le_of_ble_eq_true rfl) ?_
  show WP _ _ _ _ _ 0 [(0, _)] [] 0 0 _ _ _
  refine x_aload_n dX12_isQuarrelWord_0 rfl ?_
  refine x_getI dX12_isQuarrelWord_1 gf_RX12_115 (k_ob_306 cs) (fun _ _ => rfl) ?_
  refine x_iconst dX12_isQuarrelWord_4 ?_
  refine x_icmp_ne 129 dX12_isQuarrelWord_5 (by decide) ⟨(by omega), (by omega)⟩ (fun w5 => ?_) (fun w5 => ?_)
  · refine x_iconst dX12_isQuarrelWord_129 ?_
    exact x_zreturn (by omega) dX12_isQuarrelWord_130 rfl (by omega) (by omega) (by first
 | exact hp 1 (Or.inl ⟨rfl, hq'.mp ⟨by omega, by omega, by omega, by omega, by omega, by omega, by omega, by omega, by omega⟩⟩)
 | (refine hp 0 (Or.inr ⟨rfl, hno (fun g => ?_)⟩)
    obtain ⟨g1, g2, q0, q1, q2, q3, q4, q5, q6⟩ := g
    omega))
  · refine x_aload_n dX12_isQuarrelWord_8 rfl ?_
    refine x_getIv (z := (cu.1 : Int)) dX12_isQuarrelWord_9 gf_RX12_106 (k_ob_306 cs) (fun _ _ => rfl) (by first | exact a1 | exact a2) ?_
    refine x_aload_n dX12_isQuarrelWord_12 rfl ?_
    refine x_getIv (z := (cu.2.1 : Int)) dX12_isQuarrelWord_13 gf_RX12_112 (k_ob_306 cs) (fun _ _ => rfl) (by first | exact a1 | exact a2) ?_
    refine x_isub dX12_isQuarrelWord_16 ?_
    refine x_bipush dX12_isQuarrelWord_17 (by decide) ?_
    refine x_icmp_ne 129 dX12_isQuarrelWord_19 (by decide) ⟨(by omega), (by omega)⟩ (fun w19 => ?_) (fun w19 => ?_)
    · refine x_iconst dX12_isQuarrelWord_129 ?_
      exact x_zreturn (by omega) dX12_isQuarrelWord_130 rfl (by omega) (by omega) (by first
 | exact hp 1 (Or.inl ⟨rfl, hq'.mp ⟨by omega, by omega, by omega, by omega, by omega, by omega, by omega, by omega, by omega⟩⟩)
 | (refine hp 0 (Or.inr ⟨rfl, hno (fun g => ?_)⟩)
    obtain ⟨g1, g2, q0, q1, q2, q3, q4, q5, q6⟩ := g
    omega))
    · have q1 := h.1.2.2.2 (cu.2.1 + 1) (by omega)
      have q2 := h.1.2.2.2 (cu.2.1 + 2) (by omega)
      have q3 := h.1.2.2.2 (cu.2.1 + 3) (by omega)
      have q4 := h.1.2.2.2 (cu.2.1 + 4) (by omega)
      have q5 := h.1.2.2.2 (cu.2.1 + 5) (by omega)
      have q6 := h.1.2.2.2 (cu.2.1 + 6) (by omega)
      have q0 := h.1.2.2.2 cu.2.1 (by omega)
      refine x_aload_n dX12_isQuarrelWord_22 rfl ?_
      refine x_aload_n dX12_isQuarrelWord_23 rfl ?_
      refine x_getIv (z := (cu.2.1 : Int)) dX12_isQuarrelWord_24 gf_RX12_112 (k_ob_306 cs) (fun _ _ => rfl) (by first | exact a1 | exact a2) ?_
      refine x_callV1 (mc1 := 0) (ms1 := 0) dX12_isQuarrelWord_27 cv_RX12_109 (ci := 12) (k_ob_306 cs) rfl (Nat.le_of_ble_eq_true rfl) (n1 := n - 1) (by omega) (by omega) (by omega) ?_
      refine sp_X12_byteAt (p := cu.2.1) cs h.1 (by omega) (fun r27 hr27 hg27 => ?_)
      refine x_aload_n dX12_isQuarrelWord_30 rfl ?_
      refine x_aload_n dX12_isQuarrelWord_31 rfl ?_
      refine x_getIv (z := (cu.2.1 : Int)) dX12_isQuarrelWord_32 gf_RX12_112 (k_ob_306 cs) (fun _ _ => rfl) (by first | exact a1 | exact a2) ?_
      refine x_iconst dX12_isQuarrelWord_35 ?_
      refine x_iadd dX12_isQuarrelWord_36 ?_
      refine x_callV1 (mc1 := 0) (ms1 := 0) dX12_isQuarrelWord_37 cv_RX12_109 (ci := 12) (k_ob_306 cs) rfl (Nat.le_of_ble_eq_true rfl) (n1 := n - 1) (by omega) (by omega) (by omega) ?_
      refine sp_X12_byteAt (p := cu.2.1 + 1) cs h.1 (by omega) (fun r37 hr37 hg37 => ?_)
      refine x_aload_n dX12_isQuarrelWord_40 rfl ?_
      refine x_aload_n dX12_isQuarrelWord_41 rfl ?_
      refine x_getIv (z := (cu.2.1 : Int)) dX12_isQuarrelWord_42 gf_RX12_112 (k_ob_306 cs) (fun _ _ => rfl) (by first | exact a1 | exact a2) ?_
      refine x_iconst dX12_isQuarrelWord_45 ?_
      refine x_iadd dX12_isQuarrelWord_46 ?_
      refine x_callV1 (mc1 := 0) (ms1 := 0) dX12_isQuarrelWord_47 cv_RX12_109 (ci := 12) (k_ob_306 cs) rfl (Nat.le_of_ble_eq_true rfl) (n1 := n - 1) (by omega) (by omega) (by omega) ?_
      refine sp_X12_byteAt (p := cu.2.1 + 2) cs h.1 (by omega) (fun r47 hr47 hg47 => ?_)
      refine x_aload_n dX12_isQuarrelWord_50 rfl ?_
      refine x_aload_n dX12_isQuarrelWord_51 rfl ?_
      refine x_getIv (z := (cu.2.1 : Int)) dX12_isQuarrelWord_52 gf_RX12_112 (k_ob_306 cs) (fun _ _ => rfl) (by first | exact a1 | exact a2) ?_
      refine x_iconst dX12_isQuarrelWord_55 ?_
      refine x_iadd dX12_isQuarrelWord_56 ?_
      refine x_callV1 (mc1 := 0) (ms1 := 0) dX12_isQuarrelWord_57 cv_RX12_109 (ci := 12) (k_ob_306 cs) rfl (Nat.le_of_ble_eq_true rfl) (n1 := n - 1) (by omega) (by omega) (by omega) ?_
      refine sp_X12_byteAt (p := cu.2.1 + 3) cs h.1 (by omega) (fun r57 hr57 hg57 => ?_)
      refine x_callS4 (mc1 := 0) (ms1 := 0) dX12_isQuarrelWord_60 cv_RX12_145 (Nat.le_of_ble_eq_true rfl) (n1 := n - 1) (by omega) (by omega) (by omega) ?_
      refine sp_X12_w4 (by omega) ?_ (by omega)
      refine x_bipush dX12_isQuarrelWord_63 (by decide) ?_
      refine x_bipush dX12_isQuarrelWord_65 (by decide) ?_
      refine x_bipush dX12_isQuarrelWord_67 (by decide) ?_
      refine x_bipush dX12_isQuarrelWord_69 (by decide) ?_
      refine x_callS4 (mc1 := 0) (ms1 := 0) dX12_isQuarrelWord_71 cv_RX12_145 (Nat.le_of_ble_eq_true rfl) (n1 := n - 1) (by omega) (by omega) (by omega) ?_
      refine sp_X12_w4 (by omega) ?_ (by omega)
      refine x_lcif_ne 129 dX12_isQuarrelWord_74 dX12_isQuarrelWord_75 (by decide) (by omega) (fun w74 => ?_) (fun w74 => ?_)
      · refine x_iconst dX12_isQuarrelWord_129 ?_
        exact x_zreturn (by omega) dX12_isQuarrelWord_130 rfl (by omega) (by omega) (by first
 | exact hp 1 (Or.inl ⟨rfl, hq'.mp ⟨by omega, by omega, by omega, by omega, by omega, by omega, by omega, by omega, by omega⟩⟩)
 | (refine hp 0 (Or.inr ⟨rfl, hno (fun g => ?_)⟩)
    obtain ⟨g1, g2, q0, q1, q2, q3, q4, q5, q6⟩ := g
    omega))
      · refine x_aload_n dX12_isQuarrelWord_78 rfl ?_
        refine x_aload_n dX12_isQuarrelWord_79 rfl ?_
        refine x_getIv (z := (cu.2.1 : Int)) dX12_isQuarrelWord_80 gf_RX12_112 (k_ob_306 cs) (fun _ _ => rfl) (by first | exact a1 | exact a2) ?_
        refine x_iconst dX12_isQuarrelWord_83 ?_
        refine x_iadd dX12_isQuarrelWord_84 ?_
        refine x_callV1 (mc1 := 0) (ms1 := 0) dX12_isQuarrelWord_85 cv_RX12_109 (ci := 12) (k_ob_306 cs) rfl (Nat.le_of_ble_eq_true rfl) (n1 := n - 1) (by omega) (by omega) (by omega) ?_
        refine sp_X12_byteAt (p := cu.2.1 + 4) cs h.1 (by omega) (fun r85 hr85 hg85 => ?_)
        refine x_aload_n dX12_isQuarrelWord_88 rfl ?_
        refine x_aload_n dX12_isQuarrelWord_89 rfl ?_
        refine x_getIv (z := (cu.2.1 : Int)) dX12_isQuarrelWord_90 gf_RX12_112 (k_ob_306 cs) (fun _ _ => rfl) (by first | exact a1 | exact a2) ?_
        refine x_iconst dX12_isQuarrelWord_93 ?_
        refine x_iadd dX12_isQuarrelWord_94 ?_
        refine x_callV1 (mc1 := 0) (ms1 := 0) dX12_isQuarrelWord_95 cv_RX12_109 (ci := 12) (k_ob_306 cs) rfl (Nat.le_of_ble_eq_true rfl) (n1 := n - 1) (by omega) (by omega) (by omega) ?_
        refine sp_X12_byteAt (p := cu.2.1 + 5) cs h.1 (by omega) (fun r95 hr95 hg95 => ?_)
        refine x_aload_n dX12_isQuarrelWord_98 rfl ?_
        refine x_aload_n dX12_isQuarrelWord_99 rfl ?_
        refine x_getIv (z := (cu.2.1 : Int)) dX12_isQuarrelWord_100 gf_RX12_112 (k_ob_306 cs) (fun _ _ => rfl) (by first | exact a1 | exact a2) ?_
        refine x_bipush dX12_isQuarrelWord_103 (by decide) ?_
        refine x_iadd dX12_isQuarrelWord_105 ?_
        refine x_callV1 (mc1 := 0) (ms1 := 0) dX12_isQuarrelWord_106 cv_RX12_109 (ci := 12) (k_ob_306 cs) rfl (Nat.le_of_ble_eq_true rfl) (n1 := n - 1) (by omega) (by omega) (by omega) ?_
        refine sp_X12_byteAt (p := cu.2.1 + 6) cs h.1 (by omega) (fun r106 hr106 hg106 => ?_)
        refine x_callS3 (mc1 := 0) (ms1 := 0) dX12_isQuarrelWord_109 cv_RX12_141 (Nat.le_of_ble_eq_true rfl) (n1 := n - 1) (by omega) (by omega) (by omega) ?_
        refine sp_X12_w3 (by omega) ?_ (by omega)
        refine x_bipush dX12_isQuarrelWord_112 (by decide) ?_
        refine x_bipush dX12_isQuarrelWord_114 (by decide) ?_
        refine x_bipush dX12_isQuarrelWord_116 (by decide) ?_
        refine x_callS3 (mc1 := 0) (ms1 := 0) dX12_isQuarrelWord_118 cv_RX12_141 (Nat.le_of_ble_eq_true rfl) (n1 := n - 1) (by omega) (by omega) (by omega) ?_
        refine sp_X12_w3 (by omega) ?_ (by omega)
        refine x_lcif_ne 129 dX12_isQuarrelWord_121 dX12_isQuarrelWord_122 (by decide) (by omega) (fun w121 => ?_) (fun w121 => ?_)
        · refine x_iconst dX12_isQuarrelWord_129 ?_
          exact x_zreturn (by omega) dX12_isQuarrelWord_130 rfl (by omega) (by omega) (by first
 | exact hp 1 (Or.inl ⟨rfl, hq'.mp ⟨by omega, by omega, by omega, by omega, by omega, by omega, by omega, by omega, by omega⟩⟩)
 | (refine hp 0 (Or.inr ⟨rfl, hno (fun g => ?_)⟩)
    obtain ⟨g1, g2, q0, q1, q2, q3, q4, q5, q6⟩ := g
    omega))
        · refine x_iconst dX12_isQuarrelWord_125 ?_
          refine x_goto 130 dX12_isQuarrelWord_126 (by decide) ?_
          exact x_zreturn (by omega) dX12_isQuarrelWord_130 rfl (by omega) (by omega) (by first
 | exact hp 1 (Or.inl ⟨rfl, hq'.mp ⟨by omega, by omega, by omega, by omega, by omega, by omega, by omega, by omega, by omega⟩⟩)
 | (refine hp 0 (Or.inr ⟨rfl, hno (fun g => ?_)⟩)
    obtain ⟨g1, g2, q0, q1, q2, q3, q4, q5, q6⟩ := g
    omega))
theorem dX12_sortOf_0 : decode prog_14_method_57_code 0 = .ok (.aload_n 0, 1) := by decide +kernel
theorem dX12_sortOf_1 : decode prog_14_method_57_code 1 = .ok (.bipush 100, 2) := by decide +kernel
theorem dX12_sortOf_3 : decode prog_14_method_57_code 3 = .ok (.bipush 117, 2) := by decide +kernel
theorem dX12_sortOf_5 : decode prog_14_method_57_code 5 = .ok (.bipush 101, 2) := by decide +kernel
theorem dX12_sortOf_7 : decode prog_14_method_57_code 7 = .ok (.bipush 115, 2) := by decide +kernel
theorem dX12_sortOf_9 : decode prog_14_method_57_code 9 = .ok (.invokestatic 145, 3) := by decide +kernel
theorem dX12_sortOf_12 : decode prog_14_method_57_code 12 = .ok (.invokevirtual 201, 3) := by decide +kernel
theorem dX12_sortOf_15 : decode prog_14_method_57_code 15 = .ok (.ifCond .eq 5, 3) := by decide +kernel
theorem dX12_sortOf_18 : decode prog_14_method_57_code 18 = .ok (.iconst 0, 1) := by decide +kernel
theorem dX12_sortOf_19 : decode prog_14_method_57_code 19 = .ok (.ireturn, 1) := by decide +kernel
theorem dX12_sortOf_20 : decode prog_14_method_57_code 20 = .ok (.aload_n 0, 1) := by decide +kernel
theorem dX12_sortOf_21 : decode prog_14_method_57_code 21 = .ok (.bipush 115, 2) := by decide +kernel
theorem dX12_sortOf_23 : decode prog_14_method_57_code 23 = .ok (.bipush 101, 2) := by decide +kernel
theorem dX12_sortOf_25 : decode prog_14_method_57_code 25 = .ok (.bipush 108, 2) := by decide +kernel
theorem dX12_sortOf_27 : decode prog_14_method_57_code 27 = .ok (.bipush 108, 2) := by decide +kernel
theorem dX12_sortOf_29 : decode prog_14_method_57_code 29 = .ok (.bipush 115, 2) := by decide +kernel
theorem dX12_sortOf_31 : decode prog_14_method_57_code 31 = .ok (.invokestatic 149, 3) := by decide +kernel
theorem dX12_sortOf_34 : decode prog_14_method_57_code 34 = .ok (.invokevirtual 201, 3) := by decide +kernel
theorem dX12_sortOf_37 : decode prog_14_method_57_code 37 = .ok (.ifCond .eq 5, 3) := by decide +kernel
theorem dX12_sortOf_40 : decode prog_14_method_57_code 40 = .ok (.iconst 1, 1) := by decide +kernel
theorem dX12_sortOf_41 : decode prog_14_method_57_code 41 = .ok (.ireturn, 1) := by decide +kernel
theorem dX12_sortOf_42 : decode prog_14_method_57_code 42 = .ok (.aload_n 0, 1) := by decide +kernel
theorem dX12_sortOf_43 : decode prog_14_method_57_code 43 = .ok (.invokevirtual 250, 3) := by decide +kernel
theorem dX12_sortOf_46 : decode prog_14_method_57_code 46 = .ok (.ifCond .eq 5, 3) := by decide +kernel
theorem dX12_sortOf_49 : decode prog_14_method_57_code 49 = .ok (.iconst 2, 1) := by decide +kernel
theorem dX12_sortOf_50 : decode prog_14_method_57_code 50 = .ok (.ireturn, 1) := by decide +kernel
theorem dX12_sortOf_51 : decode prog_14_method_57_code 51 = .ok (.aload_n 0, 1) := by decide +kernel
theorem dX12_sortOf_52 : decode prog_14_method_57_code 52 = .ok (.bipush 112, 2) := by decide +kernel
theorem dX12_sortOf_54 : decode prog_14_method_57_code 54 = .ok (.bipush 97, 2) := by decide +kernel
theorem dX12_sortOf_56 : decode prog_14_method_57_code 56 = .ok (.bipush 119, 2) := by decide +kernel
theorem dX12_sortOf_58 : decode prog_14_method_57_code 58 = .ok (.bipush 110, 2) := by decide +kernel
theorem dX12_sortOf_60 : decode prog_14_method_57_code 60 = .ok (.invokestatic 145, 3) := by decide +kernel
theorem dX12_sortOf_63 : decode prog_14_method_57_code 63 = .ok (.invokevirtual 201, 3) := by decide +kernel
theorem dX12_sortOf_66 : decode prog_14_method_57_code 66 = .ok (.ifCond .eq 5, 3) := by decide +kernel
theorem dX12_sortOf_69 : decode prog_14_method_57_code 69 = .ok (.iconst 3, 1) := by decide +kernel
theorem dX12_sortOf_70 : decode prog_14_method_57_code 70 = .ok (.ireturn, 1) := by decide +kernel
theorem dX12_sortOf_71 : decode prog_14_method_57_code 71 = .ok (.aload_n 0, 1) := by decide +kernel
theorem dX12_sortOf_72 : decode prog_14_method_57_code 72 = .ok (.bipush 114, 2) := by decide +kernel
theorem dX12_sortOf_74 : decode prog_14_method_57_code 74 = .ok (.bipush 101, 2) := by decide +kernel
theorem dX12_sortOf_76 : decode prog_14_method_57_code 76 = .ok (.bipush 100, 2) := by decide +kernel
theorem dX12_sortOf_78 : decode prog_14_method_57_code 78 = .ok (.bipush 101, 2) := by decide +kernel
theorem dX12_sortOf_80 : decode prog_14_method_57_code 80 = .ok (.bipush 101, 2) := by decide +kernel
theorem dX12_sortOf_82 : decode prog_14_method_57_code 82 = .ok (.bipush 109, 2) := by decide +kernel
theorem dX12_sortOf_84 : decode prog_14_method_57_code 84 = .ok (.invokestatic 159, 3) := by decide +kernel
theorem dX12_sortOf_87 : decode prog_14_method_57_code 87 = .ok (.invokevirtual 201, 3) := by decide +kernel
theorem dX12_sortOf_90 : decode prog_14_method_57_code 90 = .ok (.ifCond .eq 5, 3) := by decide +kernel
theorem dX12_sortOf_93 : decode prog_14_method_57_code 93 = .ok (.iconst 4, 1) := by decide +kernel
theorem dX12_sortOf_94 : decode prog_14_method_57_code 94 = .ok (.ireturn, 1) := by decide +kernel
theorem dX12_sortOf_95 : decode prog_14_method_57_code 95 = .ok (.aload_n 0, 1) := by decide +kernel
theorem dX12_sortOf_96 : decode prog_14_method_57_code 96 = .ok (.bipush 101, 2) := by decide +kernel
theorem dX12_sortOf_98 : decode prog_14_method_57_code 98 = .ok (.bipush 97, 2) := by decide +kernel
theorem dX12_sortOf_100 : decode prog_14_method_57_code 100 = .ok (.bipush 114, 2) := by decide +kernel
theorem dX12_sortOf_102 : decode prog_14_method_57_code 102 = .ok (.bipush 110, 2) := by decide +kernel
theorem dX12_sortOf_104 : decode prog_14_method_57_code 104 = .ok (.invokestatic 145, 3) := by decide +kernel
theorem dX12_sortOf_107 : decode prog_14_method_57_code 107 = .ok (.invokevirtual 201, 3) := by decide +kernel
theorem dX12_sortOf_110 : decode prog_14_method_57_code 110 = .ok (.ifCond .eq 7, 3) := by decide +kernel
theorem dX12_sortOf_113 : decode prog_14_method_57_code 113 = .ok (.iconst 5, 1) := by decide +kernel
theorem dX12_sortOf_114 : decode prog_14_method_57_code 114 = .ok (.goto 25, 3) := by decide +kernel
theorem dX12_sortOf_117 : decode prog_14_method_57_code 117 = .ok (.aload_n 0, 1) := by decide +kernel
theorem dX12_sortOf_118 : decode prog_14_method_57_code 118 = .ok (.bipush 100, 2) := by decide +kernel
theorem dX12_sortOf_120 : decode prog_14_method_57_code 120 = .ok (.bipush 97, 2) := by decide +kernel
theorem dX12_sortOf_122 : decode prog_14_method_57_code 122 = .ok (.bipush 121, 2) := by decide +kernel
theorem dX12_sortOf_124 : decode prog_14_method_57_code 124 = .ok (.invokestatic 141, 3) := by decide +kernel
theorem dX12_sortOf_127 : decode prog_14_method_57_code 127 = .ok (.invokevirtual 201, 3) := by decide +kernel
theorem dX12_sortOf_130 : decode prog_14_method_57_code 130 = .ok (.ifCond .eq 8, 3) := by decide +kernel
theorem dX12_sortOf_133 : decode prog_14_method_57_code 133 = .ok (.bipush 6, 2) := by decide +kernel
theorem dX12_sortOf_135 : decode prog_14_method_57_code 135 = .ok (.goto 4, 3) := by decide +kernel
theorem dX12_sortOf_138 : decode prog_14_method_57_code 138 = .ok (.iconst (-1), 1) := by decide +kernel
theorem dX12_sortOf_139 : decode prog_14_method_57_code 139 = .ok (.ireturn, 1) := by decide +kernel
theorem sp_X12_sortOf (cs : CS S R) (hn : 6 ≤ n) (h : Tok I t l cu) (hq : TkQ I t cu) (hp : ∀ r : Int, (r = srt cu.2.2.1 ∧ isCl cu.2.2.1 ∨ r = -1 ∧ ¬ isCl cu.2.2.1) → Post (some (.int (iI r))) S I R) : Call n 0 0 mX12_sortOf [.ref (S.2.1 306)] S I R Post := by
  have hk := h.2.1
  refine Call.of (by decide +kernel) (Nat.le_of_ble_eq_true rfl) ?_
  show WP _ _ _ _ _ 0 [(0, _)] [] 0 0 _ _ _
  refine x_aload_n dX12_sortOf_0 rfl ?_
  refine x_bipush dX12_sortOf_1 (by decide) ?_
  refine x_bipush dX12_sortOf_3 (by decide) ?_
  refine x_bipush dX12_sortOf_5 (by decide) ?_
  refine x_bipush dX12_sortOf_7 (by decide) ?_
  refine x_callS4 (mc1 := 0) (ms1 := 0) dX12_sortOf_9 cv_RX12_145 (Nat.le_of_ble_eq_true rfl) (n1 := n - 1) (by omega) (by omega) (by omega) ?_
  refine sp_X12_w4 (by omega) ?_ (by omega)
  refine x_callV1 (mc1 := 0) (ms1 := 0) dX12_sortOf_12 cv_RX12_201 (ci := 12) (k_ob_306 cs) rfl (Nat.le_of_ble_eq_true rfl) (n1 := n - 1) (by omega) (by omega) (by omega) ?_
  refine sp_isW (cu := cu) (K := 136) cs (by decide) hk (fun r12 hr12 => ?_)
  refine x_if_eq 20 dX12_sortOf_15 (by decide) (by omega) (fun w15 => ?_) (fun w15 => ?_)
  · refine x_aload_n dX12_sortOf_20 rfl ?_
    refine x_bipush dX12_sortOf_21 (by decide) ?_
    refine x_bipush dX12_sortOf_23 (by decide) ?_
    refine x_bipush dX12_sortOf_25 (by decide) ?_
    refine x_bipush dX12_sortOf_27 (by decide) ?_
    refine x_bipush dX12_sortOf_29 (by decide) ?_
    refine x_callS5 (mc1 := 0) (ms1 := 0) dX12_sortOf_31 cv_RX12_149 (Nat.le_of_ble_eq_true rfl) (n1 := n - 1) (by omega) (by omega) (by omega) ?_
    refine sp_X12_w5 (by omega) ?_ (by omega)
    refine x_callV1 (mc1 := 0) (ms1 := 0) dX12_sortOf_34 cv_RX12_201 (ci := 12) (k_ob_306 cs) rfl (Nat.le_of_ble_eq_true rfl) (n1 := n - 1) (by omega) (by omega) (by omega) ?_
    refine sp_isW (cu := cu) (K := 137) cs (by decide) hk (fun r34 hr34 => ?_)
    refine x_if_eq 42 dX12_sortOf_37 (by decide) (by omega) (fun w37 => ?_) (fun w37 => ?_)
    · refine x_aload_n dX12_sortOf_42 rfl ?_
      refine x_callV0 (mc1 := 0) (ms1 := 0) dX12_sortOf_43 cv_RX12_250 (ci := 12) (k_ob_306 cs) rfl (Nat.le_of_ble_eq_true rfl) (n1 := n - 1) (by omega) (by omega) (by omega) ?_
      refine sp_X12_isQuarrelWord (t := t) (l := l) (cu := cu) cs (by omega) h hq (fun r43 hr43 => ?_)
      refine x_if_eq 51 dX12_sortOf_46 (by decide) (by omega) (fun w46 => ?_) (fun w46 => ?_)
      · refine x_aload_n dX12_sortOf_51 rfl ?_
        refine x_bipush dX12_sortOf_52 (by decide) ?_
        refine x_bipush dX12_sortOf_54 (by decide) ?_
        refine x_bipush dX12_sortOf_56 (by decide) ?_
        refine x_bipush dX12_sortOf_58 (by decide) ?_
        refine x_callS4 (mc1 := 0) (ms1 := 0) dX12_sortOf_60 cv_RX12_145 (Nat.le_of_ble_eq_true rfl) (n1 := n - 1) (by omega) (by omega) (by omega) ?_
        refine sp_X12_w4 (by omega) ?_ (by omega)
        refine x_callV1 (mc1 := 0) (ms1 := 0) dX12_sortOf_63 cv_RX12_201 (ci := 12) (k_ob_306 cs) rfl (Nat.le_of_ble_eq_true rfl) (n1 := n - 1) (by omega) (by omega) (by omega) ?_
        refine sp_isW (cu := cu) (K := 140) cs (by decide) hk (fun r63 hr63 => ?_)
        refine x_if_eq 71 dX12_sortOf_66 (by decide) (by omega) (fun w66 => ?_) (fun w66 => ?_)
        · refine x_aload_n dX12_sortOf_71 rfl ?_
          refine x_bipush dX12_sortOf_72 (by decide) ?_
          refine x_bipush dX12_sortOf_74 (by decide) ?_
          refine x_bipush dX12_sortOf_76 (by decide) ?_
          refine x_bipush dX12_sortOf_78 (by decide) ?_
          refine x_bipush dX12_sortOf_80 (by decide) ?_
          refine x_bipush dX12_sortOf_82 (by decide) ?_
          refine x_callS6 (mc1 := 0) (ms1 := 0) dX12_sortOf_84 cv_RX12_159 (Nat.le_of_ble_eq_true rfl) (n1 := n - 1) (by omega) (by omega) (by omega) ?_
          refine sp_X12_w6 (by omega) ?_ (by omega)
          refine x_callV1 (mc1 := 0) (ms1 := 0) dX12_sortOf_87 cv_RX12_201 (ci := 12) (k_ob_306 cs) rfl (Nat.le_of_ble_eq_true rfl) (n1 := n - 1) (by omega) (by omega) (by omega) ?_
          refine sp_isW (cu := cu) (K := 141) cs (by decide) hk (fun r87 hr87 => ?_)
          refine x_if_eq 95 dX12_sortOf_90 (by decide) (by omega) (fun w90 => ?_) (fun w90 => ?_)
          · refine x_aload_n dX12_sortOf_95 rfl ?_
            refine x_bipush dX12_sortOf_96 (by decide) ?_
            refine x_bipush dX12_sortOf_98 (by decide) ?_
            refine x_bipush dX12_sortOf_100 (by decide) ?_
            refine x_bipush dX12_sortOf_102 (by decide) ?_
            refine x_callS4 (mc1 := 0) (ms1 := 0) dX12_sortOf_104 cv_RX12_145 (Nat.le_of_ble_eq_true rfl) (n1 := n - 1) (by omega) (by omega) (by omega) ?_
            refine sp_X12_w4 (by omega) ?_ (by omega)
            refine x_callV1 (mc1 := 0) (ms1 := 0) dX12_sortOf_107 cv_RX12_201 (ci := 12) (k_ob_306 cs) rfl (Nat.le_of_ble_eq_true rfl) (n1 := n - 1) (by omega) (by omega) (by omega) ?_
            refine sp_isW (cu := cu) (K := 142) cs (by decide) hk (fun r107 hr107 => ?_)
            refine x_if_eq 117 dX12_sortOf_110 (by decide) (by omega) (fun w110 => ?_) (fun w110 => ?_)
            · refine x_aload_n dX12_sortOf_117 rfl ?_
              refine x_bipush dX12_sortOf_118 (by decide) ?_
              refine x_bipush dX12_sortOf_120 (by decide) ?_
              refine x_bipush dX12_sortOf_122 (by decide) ?_
              refine x_callS3 (mc1 := 0) (ms1 := 0) dX12_sortOf_124 cv_RX12_141 (Nat.le_of_ble_eq_true rfl) (n1 := n - 1) (by omega) (by omega) (by omega) ?_
              refine sp_X12_w3 (by omega) ?_ (by omega)
              refine x_callV1 (mc1 := 0) (ms1 := 0) dX12_sortOf_127 cv_RX12_201 (ci := 12) (k_ob_306 cs) rfl (Nat.le_of_ble_eq_true rfl) (n1 := n - 1) (by omega) (by omega) (by omega) ?_
              refine sp_isW (cu := cu) (K := 128) cs (by decide) hk (fun r127 hr127 => ?_)
              refine x_if_eq 138 dX12_sortOf_130 (by decide) (by omega) (fun w130 => ?_) (fun w130 => ?_)
              · refine x_iconst dX12_sortOf_138 ?_
                exact x_ireturn dX12_sortOf_139 rfl (by omega) (by omega) (by first
 | exact hp (-1) (Or.inr ⟨rfl, by omega⟩)
 | (rcases (show cu.2.2.1 = 136 ∨ cu.2.2.1 = 137 ∨ cu.2.2.1 = 138 ∨ cu.2.2.1 = 140 ∨ cu.2.2.1 = 141 ∨ cu.2.2.1 = 142 ∨ cu.2.2.1 = 128 by omega) with h9 | h9 | h9 | h9 | h9 | h9 | h9 <;> first | (exfalso; omega) | exact hp _ (Or.inl ⟨by rw [h9]; rfl, by omega⟩)))
              · refine x_bipush dX12_sortOf_133 (by decide) ?_
                refine x_goto 139 dX12_sortOf_135 (by decide) ?_
                exact x_ireturn dX12_sortOf_139 rfl (by omega) (by omega) (by first
 | exact hp (-1) (Or.inr ⟨rfl, by omega⟩)
 | (rcases (show cu.2.2.1 = 136 ∨ cu.2.2.1 = 137 ∨ cu.2.2.1 = 138 ∨ cu.2.2.1 = 140 ∨ cu.2.2.1 = 141 ∨ cu.2.2.1 = 142 ∨ cu.2.2.1 = 128 by omega) with h9 | h9 | h9 | h9 | h9 | h9 | h9 <;> first | (exfalso; omega) | exact hp _ (Or.inl ⟨by rw [h9]; rfl, by omega⟩)))
            · refine x_iconst dX12_sortOf_113 ?_
              refine x_goto 139 dX12_sortOf_114 (by decide) ?_
              exact x_ireturn dX12_sortOf_139 rfl (by omega) (by omega) (by first
 | exact hp (-1) (Or.inr ⟨rfl, by omega⟩)
 | (rcases (show cu.2.2.1 = 136 ∨ cu.2.2.1 = 137 ∨ cu.2.2.1 = 138 ∨ cu.2.2.1 = 140 ∨ cu.2.2.1 = 141 ∨ cu.2.2.1 = 142 ∨ cu.2.2.1 = 128 by omega) with h9 | h9 | h9 | h9 | h9 | h9 | h9 <;> first | (exfalso; omega) | exact hp _ (Or.inl ⟨by rw [h9]; rfl, by omega⟩)))
          · refine x_iconst dX12_sortOf_93 ?_
            exact x_ireturn dX12_sortOf_94 rfl (by omega) (by omega) (by first
 | exact hp (-1) (Or.inr ⟨rfl, by omega⟩)
 | (rcases (show cu.2.2.1 = 136 ∨ cu.2.2.1 = 137 ∨ cu.2.2.1 = 138 ∨ cu.2.2.1 = 140 ∨ cu.2.2.1 = 141 ∨ cu.2.2.1 = 142 ∨ cu.2.2.1 = 128 by omega) with h9 | h9 | h9 | h9 | h9 | h9 | h9 <;> first | (exfalso; omega) | exact hp _ (Or.inl ⟨by rw [h9]; rfl, by omega⟩)))
        · refine x_iconst dX12_sortOf_69 ?_
          exact x_ireturn dX12_sortOf_70 rfl (by omega) (by omega) (by first
 | exact hp (-1) (Or.inr ⟨rfl, by omega⟩)
 | (rcases (show cu.2.2.1 = 136 ∨ cu.2.2.1 = 137 ∨ cu.2.2.1 = 138 ∨ cu.2.2.1 = 140 ∨ cu.2.2.1 = 141 ∨ cu.2.2.1 = 142 ∨ cu.2.2.1 = 128 by omega) with h9 | h9 | h9 | h9 | h9 | h9 | h9 <;> first | (exfalso; omega) | exact hp _ (Or.inl ⟨by rw [h9]; rfl, by omega⟩)))
      · refine x_iconst dX12_sortOf_49 ?_
        exact x_ireturn dX12_sortOf_50 rfl (by omega) (by omega) (by first
 | exact hp (-1) (Or.inr ⟨rfl, by omega⟩)
 | (rcases (show cu.2.2.1 = 136 ∨ cu.2.2.1 = 137 ∨ cu.2.2.1 = 138 ∨ cu.2.2.1 = 140 ∨ cu.2.2.1 = 141 ∨ cu.2.2.1 = 142 ∨ cu.2.2.1 = 128 by omega) with h9 | h9 | h9 | h9 | h9 | h9 | h9 <;> first | (exfalso; omega) | exact hp _ (Or.inl ⟨by rw [h9]; rfl, by omega⟩)))
    · refine x_iconst dX12_sortOf_40 ?_
      exact x_ireturn dX12_sortOf_41 rfl (by omega) (by omega) (by first
 | exact hp (-1) (Or.inr ⟨rfl, by omega⟩)
 | (rcases (show cu.2.2.1 = 136 ∨ cu.2.2.1 = 137 ∨ cu.2.2.1 = 138 ∨ cu.2.2.1 = 140 ∨ cu.2.2.1 = 141 ∨ cu.2.2.1 = 142 ∨ cu.2.2.1 = 128 by omega) with h9 | h9 | h9 | h9 | h9 | h9 | h9 <;> first | (exfalso; omega) | exact hp _ (Or.inl ⟨by rw [h9]; rfl, by omega⟩)))
  · refine x_iconst dX12_sortOf_18 ?_
    exact x_ireturn dX12_sortOf_19 rfl (by omega) (by omega) (by first
 | exact hp (-1) (Or.inr ⟨rfl, by omega⟩)
 | (rcases (show cu.2.2.1 = 136 ∨ cu.2.2.1 = 137 ∨ cu.2.2.1 = 138 ∨ cu.2.2.1 = 140 ∨ cu.2.2.1 = 141 ∨ cu.2.2.1 = 142 ∨ cu.2.2.1 = 128 by omega) with h9 | h9 | h9 | h9 | h9 | h9 | h9 <;> first | (exfalso; omega) | exact hp _ (Or.inl ⟨by rw [h9]; rfl, by omega⟩)))
/-- what a figure changes -/
def Fg1 (x : Nat) (I J : CI) : Prop := (∀ a, a ≠ 306 → a ≠ 309 → J a = I a) ∧ (∀ a, (a < 7 ∨ 11 < a) → J 306 a = I 306 a) ∧ ∀ a, a ≠ x → J 309 a = I 309 a
theorem fig_rg {lo hi : Int} : 0 ≤ figF lo hi cu ∧ figF lo hi cu ≤ 2 := by
  have := fig_b (cu := cu) (lo := lo) (hi := hi)
  omega
def fgC (t : Nat → Int) (l : Nat) (lo hi : Int) (cu : Cu) : Cu := if figF lo hi cu = 0 then adv t l cu.1 else cu
theorem dX12_figure_0 : decode prog_14_method_52_code 0 = .ok (.aload_n 0, 1) := by decide +kernel
theorem dX12_figure_1 : decode prog_14_method_52_code 1 = .ok (.getfield 115, 3) := by decide +kernel
theorem dX12_figure_4 : decode prog_14_method_52_code 4 = .ok (.iconst 1, 1) := by decide +kernel
theorem dX12_figure_5 : decode prog_14_method_52_code 5 = .ok (.if_icmp .eq 5, 3) := by decide +kernel
theorem dX12_figure_8 : decode prog_14_method_52_code 8 = .ok (.iconst 1, 1) := by decide +kernel
theorem dX12_figure_9 : decode prog_14_method_52_code 9 = .ok (.ireturn, 1) := by decide +kernel
theorem dX12_figure_10 : decode prog_14_method_52_code 10 = .ok (.aload_n 0, 1) := by decide +kernel
theorem dX12_figure_11 : decode prog_14_method_52_code 11 = .ok (.getfield 121, 3) := by decide +kernel
theorem dX12_figure_14 : decode prog_14_method_52_code 14 = .ok (.iload_n 2, 1) := by decide +kernel
theorem dX12_figure_15 : decode prog_14_method_52_code 15 = .ok (.iload_n 3, 1) := by decide +kernel
theorem dX12_figure_16 : decode prog_14_method_52_code 16 = .ok (.invokestatic 81, 3) := by decide +kernel
theorem dX12_figure_19 : decode prog_14_method_52_code 19 = .ok (.ifCond .ne 5, 3) := by decide +kernel
theorem dX12_figure_22 : decode prog_14_method_52_code 22 = .ok (.iconst 2, 1) := by decide +kernel
theorem dX12_figure_23 : decode prog_14_method_52_code 23 = .ok (.ireturn, 1) := by decide +kernel
theorem dX12_figure_24 : decode prog_14_method_52_code 24 = .ok (.aload_n 0, 1) := by decide +kernel
theorem dX12_figure_25 : decode prog_14_method_52_code 25 = .ok (.getfield 16, 3) := by decide +kernel
theorem dX12_figure_28 : decode prog_14_method_52_code 28 = .ok (.iload_n 1, 1) := by decide +kernel
theorem dX12_figure_29 : decode prog_14_method_52_code 29 = .ok (.aload_n 0, 1) := by decide +kernel
theorem dX12_figure_30 : decode prog_14_method_52_code 30 = .ok (.getfield 121, 3) := by decide +kernel
theorem dX12_figure_33 : decode prog_14_method_52_code 33 = .ok (.iastore, 1) := by decide +kernel
theorem dX12_figure_34 : decode prog_14_method_52_code 34 = .ok (.aload_n 0, 1) := by decide +kernel
theorem dX12_figure_35 : decode prog_14_method_52_code 35 = .ok (.invokevirtual 186, 3) := by decide +kernel
theorem dX12_figure_38 : decode prog_14_method_52_code 38 = .ok (.iconst 0, 1) := by decide +kernel
theorem dX12_figure_39 : decode prog_14_method_52_code 39 = .ok (.ireturn, 1) := by decide +kernel
theorem sp_X12_figure {x : Nat} {lo hi : Int} (cs : CS S R) (hn : 3 ≤ n) (hx : x < 2820) (hw : 0 ≤ lo ∧ lo ≤ hi ∧ hi ≤ 9999) (h : Tok I t l cu) (hp : ∀ J, Tok J t l (fgC t l lo hi cu) → (figF lo hi cu = 0 → J 309 x = cu.2.2.2) → Fg1 x I J → Post (some (.int (iI (figF lo hi cu)))) S J R) : Call n 0 0 mX12_figure [.ref (S.2.1 306), .int (iI (x : Int)), .int (iI lo), .int (iI hi)] S I R Post := by
  obtain ⟨⟨a1, a2, a3, a4⟩, ⟨a5, a5n⟩, a6⟩ := id h.2.1
  have e1 : figF lo hi cu ≠ 0 → fgC t l lo hi cu = cu := fun g => if_neg g
  have e2 : figF lo hi cu = 0 → fgC t l lo hi cu = adv t l cu.1 := fun g => if_pos g
  refine Call.of (by decide +kernel) (Nat.le_of_ble_eq_true rfl) ?_
  show WP _ _ _ _ _ 0 [(0, _), (1, _), (2, _), (3, _)] [] 0 0 _ _ _
  refine x_aload_n dX12_figure_0 rfl ?_
  refine x_getI dX12_figure_1 gf_RX12_115 (k_ob_306 cs) (fun _ _ => rfl) ?_
  refine x_iconst dX12_figure_4 ?_
  refine x_icmp_eq 10 dX12_figure_5 (by decide) ⟨(by omega), (by omega)⟩ (fun w5 => ?_) (fun w5 => ?_)
  · have hn10 := a5n (by omega)
    refine x_aload_n dX12_figure_10 rfl ?_
    refine x_getI dX12_figure_11 gf_RX12_121 (k_ob_306 cs) (fun _ _ => rfl) ?_
    refine x_iload_n dX12_figure_14 rfl ?_
    refine x_iload_n dX12_figure_15 rfl ?_
    refine x_callS3 (mc1 := 0) (ms1 := 0) dX12_figure_16 cv_RX12_81 (Nat.le_of_ble_eq_true rfl) (n1 := n - 1) (by omega) (by omega) (by omega) ?_
    refine sp_X12_isIn (by omega) (by omega) (by omega) (fun r16 hr16 => ?_)
    refine x_if_ne 24 dX12_figure_19 (by decide) (by omega) (fun w19 => ?_) (fun w19 => ?_)
    · refine x_aload_n dX12_figure_24 rfl ?_
      refine x_getR (b := 309) dX12_figure_25 gf_RX12_16 (k_ob_306 cs) (fun _ _ => rfl) (k_r_306_2 cs) ?_
      refine x_iload_n dX12_figure_28 rfl ?_
      refine x_aload_n dX12_figure_29 rfl ?_
      refine x_getI dX12_figure_30 gf_RX12_121 (k_ob_306 cs) (fun _ _ => rfl) ?_
      refine x_iastore dX12_figure_33 (k_ar_309 cs) (by omega) (by omega) ?_
      refine x_aload_n dX12_figure_34 rfl ?_
      refine x_callV0 (mc1 := 0) (ms1 := 0) dX12_figure_35 cv_RX12_186 (ci := 12) (k_ob_306 cs) rfl (Nat.le_of_ble_eq_true rfl) (n1 := n - 1) (by omega) (by omega) (by omega) ?_
      have z35 : figF lo hi cu = 0 := fig_0.mpr ⟨by omega, by omega, by omega⟩
      refine sp_nxt (t := t) (l := l) (cu := cu) cs (by omega) (tk_fr h (by rw [uI_row (by omega)]) (fun a ha => by rw [uI_row (by omega)])) (fun J35 k35 s35 m35 f35 => ?_)
      refine x_iconst dX12_figure_38 ?_
      exact x_ireturn dX12_figure_39 rfl (by omega) (by omega) (by first
 | (have z := fig_1 (cu := cu) (lo := lo) (hi := hi) (by omega)
    have e := e1 (by omega)
    rw [e, z] at hp
    exact hp I h (fun g => by omega) ⟨fun _ _ _ => rfl, fun _ _ => rfl, fun _ _ => rfl⟩)
 | (have z := fig_2 (cu := cu) (lo := lo) (hi := hi) (by omega) (by omega)
    have e := e1 (by omega)
    rw [e, z] at hp
    exact hp I h (fun g => by omega) ⟨fun _ _ _ => rfl, fun _ _ => rfl, fun _ _ => rfl⟩)
 | (rw [e2 z35, z35] at hp
    refine hp J35 k35 (fun _ => ?_) ⟨fun a h8 h9 => ?_, fun a h9 => ?_, fun a h9 => ?_⟩
    · rw [f35.1 309 (by omega), uI_x rfl (by omega)]; omega
    · rw [f35.1 a h8, uI_row h9]
    · rw [f35.2 a h9, uI_row (by omega)]
    · rw [f35.1 309 (by omega), uI_o (by omega)]))
    · refine x_iconst dX12_figure_22 ?_
      exact x_ireturn dX12_figure_23 rfl (by omega) (by omega) (by first
 | (have z := fig_1 (cu := cu) (lo := lo) (hi := hi) (by omega)
    have e := e1 (by omega)
    rw [e, z] at hp
    exact hp I h (fun g => by omega) ⟨fun _ _ _ => rfl, fun _ _ => rfl, fun _ _ => rfl⟩)
 | (have z := fig_2 (cu := cu) (lo := lo) (hi := hi) (by omega) (by omega)
    have e := e1 (by omega)
    rw [e, z] at hp
    exact hp I h (fun g => by omega) ⟨fun _ _ _ => rfl, fun _ _ => rfl, fun _ _ => rfl⟩)
 | (rw [e2 z35, z35] at hp
    refine hp J35 k35 (fun _ => ?_) ⟨fun a h8 h9 => ?_, fun a h9 => ?_, fun a h9 => ?_⟩
    · rw [f35.1 309 (by omega), uI_x rfl (by omega)]; omega
    · rw [f35.1 a h8, uI_row h9]
    · rw [f35.2 a h9, uI_row (by omega)]
    · rw [f35.1 309 (by omega), uI_o (by omega)]))
  · refine x_iconst dX12_figure_8 ?_
    exact x_ireturn dX12_figure_9 rfl (by omega) (by omega) (by first
 | (have z := fig_1 (cu := cu) (lo := lo) (hi := hi) (by omega)
    have e := e1 (by omega)
    rw [e, z] at hp
    exact hp I h (fun g => by omega) ⟨fun _ _ _ => rfl, fun _ _ => rfl, fun _ _ => rfl⟩)
 | (have z := fig_2 (cu := cu) (lo := lo) (hi := hi) (by omega) (by omega)
    have e := e1 (by omega)
    rw [e, z] at hp
    exact hp I h (fun g => by omega) ⟨fun _ _ _ => rfl, fun _ _ => rfl, fun _ _ => rfl⟩)
 | (rw [e2 z35, z35] at hp
    refine hp J35 k35 (fun _ => ?_) ⟨fun a h8 h9 => ?_, fun a h9 => ?_, fun a h9 => ?_⟩
    · rw [f35.1 309 (by omega), uI_x rfl (by omega)]; omega
    · rw [f35.1 a h8, uI_row h9]
    · rw [f35.2 a h9, uI_row (by omega)]
    · rw [f35.1 309 (by omega), uI_o (by omega)]))
theorem dX12_behind_0 : decode prog_14_method_54_code 0 = .ok (.aload_n 0, 1) := by decide +kernel
theorem dX12_behind_1 : decode prog_14_method_54_code 1 = .ok (.lload_n 2, 1) := by decide +kernel
theorem dX12_behind_2 : decode prog_14_method_54_code 2 = .ok (.invokevirtual 201, 3) := by decide +kernel
theorem dX12_behind_5 : decode prog_14_method_54_code 5 = .ok (.ifCond .ne 5, 3) := by decide +kernel
theorem dX12_behind_8 : decode prog_14_method_54_code 8 = .ok (.iconst 1, 1) := by decide +kernel
theorem dX12_behind_9 : decode prog_14_method_54_code 9 = .ok (.ireturn, 1) := by decide +kernel
theorem dX12_behind_10 : decode prog_14_method_54_code 10 = .ok (.aload_n 0, 1) := by decide +kernel
theorem dX12_behind_11 : decode prog_14_method_54_code 11 = .ok (.invokevirtual 186, 3) := by decide +kernel
theorem dX12_behind_14 : decode prog_14_method_54_code 14 = .ok (.aload_n 0, 1) := by decide +kernel
theorem dX12_behind_15 : decode prog_14_method_54_code 15 = .ok (.iload_n 1, 1) := by decide +kernel
theorem dX12_behind_16 : decode prog_14_method_54_code 16 = .ok (.iload 4, 2) := by decide +kernel
theorem dX12_behind_18 : decode prog_14_method_54_code 18 = .ok (.iload 5, 2) := by decide +kernel
theorem dX12_behind_20 : decode prog_14_method_54_code 20 = .ok (.invokevirtual 236, 3) := by decide +kernel
theorem dX12_behind_23 : decode prog_14_method_54_code 23 = .ok (.ireturn, 1) := by decide +kernel
theorem sp_X12_behind {x : Nat} {K N lo hi : Int} (cs : CS S R) (hn : 4 ≤ n) (hx : x < 2820) (hK : (K, N) ∈ wTab) (hw : 0 ≤ lo ∧ lo ≤ hi ∧ hi ≤ 9999) (h : Tok I t l cu) (hp : ∀ (J : CI) (r : Int) (cu2 : Cu), (0 ≤ r ∧ r ≤ 2) → (cu.2.2.1 ≠ K ∧ r = 1 ∧ cu2 = cu ∨ cu.2.2.1 = K ∧ r = figF lo hi (adv t l cu.1) ∧ cu2 = fgC t l lo hi (adv t l cu.1) ∧ (r = 0 → J 309 x = (adv t l cu.1).2.2.2)) → Tok J t l cu2 → Fg1 x I J → Post (some (.int (iI r))) S J R) : Call n 0 0 mX12_behind [.ref (S.2.1 306), .int (iI (x : Int)), .long (lI N), .int (iI lo), .int (iI hi)] S I R Post := by
  refine Call.of (by decide +kernel) (Nat.le_of_ble_eq_true rfl) ?_
  show WP _ _ _ _ _ 0 [(0, _), (1, _), (2, _), (4, _), (5, _)] [] 0 0 _ _ _
  refine x_aload_n dX12_behind_0 rfl ?_
  refine x_lload_n dX12_behind_1 rfl ?_
  refine x_callV1 (mc1 := 0) (ms1 := 0) dX12_behind_2 cv_RX12_201 (ci := 12) (k_ob_306 cs) rfl (Nat.le_of_ble_eq_true rfl) (n1 := n - 1) (by omega) (by omega) (by omega) ?_
  refine sp_isW (cu := cu) (K := K) cs hK h.2.1 (fun r2 hr2 => ?_)
  refine x_if_ne 10 dX12_behind_5 (by decide) (by omega) (fun w5 => ?_) (fun w5 => ?_)
  · refine x_aload_n dX12_behind_10 rfl ?_
    refine x_callV0 (mc1 := 0) (ms1 := 0) dX12_behind_11 cv_RX12_186 (ci := 12) (k_ob_306 cs) rfl (Nat.le_of_ble_eq_true rfl) (n1 := n - 1) (by omega) (by omega) (by omega) ?_
    refine sp_nxt (t := t) (l := l) (cu := cu) cs (by omega) h (fun J11 k11 s11 m11 f11 => ?_)
    refine x_aload_n dX12_behind_14 rfl ?_
    refine x_iload_n dX12_behind_15 rfl ?_
    refine x_iload dX12_behind_16 rfl ?_
    refine x_iload dX12_behind_18 rfl ?_
    refine x_callV3 (mc1 := 0) (ms1 := 0) dX12_behind_20 cv_RX12_236 (ci := 12) (k_ob_306 cs) rfl (Nat.le_of_ble_eq_true rfl) (n1 := n - 1) (by omega) (by omega) (by omega) ?_
    refine sp_X12_figure (t := t) (l := l) (cu := adv t l cu.1) cs (by omega) hx hw k11 (fun J20 k20 v20 f20 => ?_)
    exact x_ireturn dX12_behind_23 rfl (by omega) (by omega) (by first
 | exact hp I 1 cu (by omega) (Or.inl ⟨by omega, rfl, rfl⟩) h ⟨fun _ _ _ => rfl, fun _ _ => rfl, fun _ _ => rfl⟩
 | exact hp J20 _ _ fig_rg (Or.inr ⟨by omega, rfl, rfl, v20⟩) k20 ⟨fun a h8 h9 => (f20.1 a h8 h9).trans (f11.1 a h8), fun a h9 => (f20.2.1 a h9).trans (f11.2 a h9), fun a h9 => (f20.2.2 a h9).trans (by rw [f11.1 309 (by omega)])⟩)
  · refine x_iconst dX12_behind_8 ?_
    exact x_ireturn dX12_behind_9 rfl (by omega) (by omega) (by first
 | exact hp I 1 cu (by omega) (Or.inl ⟨by omega, rfl, rfl⟩) h ⟨fun _ _ _ => rfl, fun _ _ => rfl, fun _ _ => rfl⟩
 | exact hp J20 _ _ fig_rg (Or.inr ⟨by omega, rfl, rfl, v20⟩) k20 ⟨fun a h8 h9 => (f20.1 a h8 h9).trans (f11.1 a h8), fun a h9 => (f20.2.1 a h9).trans (f11.2 a h9), fun a h9 => (f20.2.2 a h9).trans (by rw [f11.1 309 (by omega)])⟩)
theorem deed_q0 (h0 : figF 0 5 cu ≠ 0) : deed t l 138 cu = (figF 0 5 cu, (0, 0, 0), cu) := by
  unfold deed; rw [if_pos rfl, if_neg h0]
theorem deed_q1 (h0 : figF 0 5 cu = 0) (h1 : (adv t l cu.1).2.2.1 ≠ 139) : deed t l 138 cu = (1, (0, 0, 0), adv t l cu.1) := by
  unfold deed; rw [if_pos rfl, if_pos h0, if_neg h1]
theorem deed_q2 (h0 : figF 0 5 cu = 0) (h1 : (adv t l cu.1).2.2.1 = 139) (h2 : figF 0 5 (adv t l (adv t l cu.1).1) ≠ 0) : deed t l 138 cu = (figF 0 5 (adv t l (adv t l cu.1).1), (0, 0, 0), adv t l (adv t l cu.1).1) := by
  unfold deed; rw [if_pos rfl, if_pos h0, if_pos h1, if_neg h2]
theorem deed_q3 (h0 : figF 0 5 cu = 0) (h1 : (adv t l cu.1).2.2.1 = 139) (h2 : figF 0 5 (adv t l (adv t l cu.1).1) = 0) (h3 : (adv t l (adv t l (adv t l cu.1).1).1).2.2.1 ≠ 131) : deed t l 138 cu = (1, (0, 0, 0), adv t l (adv t l (adv t l cu.1).1).1) := by
  unfold deed; rw [if_pos rfl, if_pos h0, if_pos h1, if_pos h2, if_neg h3]
theorem deed_q4 (h0 : figF 0 5 cu = 0) (h1 : (adv t l cu.1).2.2.1 = 139) (h2 : figF 0 5 (adv t l (adv t l cu.1).1) = 0) (h3 : (adv t l (adv t l (adv t l cu.1).1).1).2.2.1 = 131) (h4 : figF 1 99 (adv t l (adv t l (adv t l (adv t l cu.1).1).1).1) ≠ 0) : deed t l 138 cu = (figF 1 99 (adv t l (adv t l (adv t l (adv t l cu.1).1).1).1), (0, 0, 0), adv t l (adv t l (adv t l (adv t l cu.1).1).1).1) := by
  unfold deed; rw [if_pos rfl, if_pos h0, if_pos h1, if_pos h2, if_pos h3, if_neg h4]
theorem deed_q5 (h0 : figF 0 5 cu = 0) (h1 : (adv t l cu.1).2.2.1 = 139) (h2 : figF 0 5 (adv t l (adv t l cu.1).1) = 0) (h3 : (adv t l (adv t l (adv t l cu.1).1).1).2.2.1 = 131) (h4 : figF 1 99 (adv t l (adv t l (adv t l (adv t l cu.1).1).1).1) = 0) : deed t l 138 cu = (0, (cu.2.2.2, (adv t l (adv t l cu.1).1).2.2.2, (adv t l (adv t l (adv t l (adv t l cu.1).1).1).1).2.2.2), adv t l (adv t l (adv t l (adv t l (adv t l cu.1).1).1).1).1) := by
  unfold deed; rw [if_pos rfl, if_pos h0, if_pos h1, if_pos h2, if_pos h3, if_pos h4]
theorem deed_o {w : Int} (hw : w ≠ 138) : (deed t l w cu).1 = figF (dlo w) (dhi w) cu ∧ (deed t l w cu).2.2 = fgC t l (dlo w) (dhi w) cu ∧ ((deed t l w cu).1 = 0 → (deed t l w cu).2.1 = (cu.2.2.2, 0, 0)) := by
  unfold deed fgC
  rw [if_neg hw]
  by_cases h : figF (dlo w) (dhi w) cu = 0
  · rw [if_pos h, if_pos h]; exact ⟨h.symm, rfl, fun _ => rfl⟩
  · rw [if_neg h, if_neg h]; exact ⟨rfl, rfl, fun g => absurd g h⟩
/-- what a deed changes -/
def Fg3 (x : Nat) (I J : CI) : Prop := (∀ a, a ≠ 306 → a ≠ 309 → J a = I a) ∧ (∀ a, (a < 7 ∨ 11 < a) → J 306 a = I 306 a) ∧ ∀ a, (a < x + 1 ∨ x + 3 < a) → J 309 a = I 309 a
theorem Fg3.rf {x : Nat} : Fg3 x I I := ⟨fun _ _ _ => rfl, fun _ _ => rfl, fun _ _ => rfl⟩
theorem Fg3.nx {x y : Nat} {J K : CI} (h : Fg3 x I J) (h2 : Fg1 y J K) (hy : x + 1 ≤ y ∧ y ≤ x + 3) : Fg3 x I K := ⟨fun a h8 h9 => (h2.1 a h8 h9).trans (h.1 a h8 h9), fun a h9 => (h2.2.1 a h9).trans (h.2.1 a h9), fun a h9 => (h2.2.2 a (by omega)).trans (h.2.2 a h9)⟩
def DeR (J : CI) (t : Nat → Int) (l x : Nat) (w : Int) (cu : Cu) : Prop := Tok J t l (deed t l w cu).2.2 ∧ ((deed t l w cu).1 = 0 → J 309 (x + 1) = (deed t l w cu).2.1.1 ∧ (w = 138 → J 309 (x + 2) = (deed t l w cu).2.1.2.1 ∧ J 309 (x + 3) = (deed t l w cu).2.1.2.2))
theorem dX12_quarrelClause_0 : decode prog_14_method_55_code 0 = .ok (.aload_n 0, 1) := by decide +kernel
theorem dX12_quarrelClause_1 : decode prog_14_method_55_code 1 = .ok (.iload_n 1, 1) := by decide +kernel
theorem dX12_quarrelClause_2 : decode prog_14_method_55_code 2 = .ok (.iconst 1, 1) := by decide +kernel
theorem dX12_quarrelClause_3 : decode prog_14_method_55_code 3 = .ok (.iadd, 1) := by decide +kernel
theorem dX12_quarrelClause_4 : decode prog_14_method_55_code 4 = .ok (.iconst 0, 1) := by decide +kernel
theorem dX12_quarrelClause_5 : decode prog_14_method_55_code 5 = .ok (.iconst 5, 1) := by decide +kernel
theorem dX12_quarrelClause_6 : decode prog_14_method_55_code 6 = .ok (.invokevirtual 236, 3) := by decide +kernel
theorem dX12_quarrelClause_9 : decode prog_14_method_55_code 9 = .ok (.istore_n 2, 1) := by decide +kernel
theorem dX12_quarrelClause_10 : decode prog_14_method_55_code 10 = .ok (.iload_n 2, 1) := by decide +kernel
theorem dX12_quarrelClause_11 : decode prog_14_method_55_code 11 = .ok (.ifCond .ne 20, 3) := by decide +kernel
theorem dX12_quarrelClause_14 : decode prog_14_method_55_code 14 = .ok (.aload_n 0, 1) := by decide +kernel
theorem dX12_quarrelClause_15 : decode prog_14_method_55_code 15 = .ok (.iload_n 1, 1) := by decide +kernel
theorem dX12_quarrelClause_16 : decode prog_14_method_55_code 16 = .ok (.iconst 2, 1) := by decide +kernel
theorem dX12_quarrelClause_17 : decode prog_14_method_55_code 17 = .ok (.iadd, 1) := by decide +kernel
theorem dX12_quarrelClause_18 : decode prog_14_method_55_code 18 = .ok (.bipush 98, 2) := by decide +kernel
theorem dX12_quarrelClause_20 : decode prog_14_method_55_code 20 = .ok (.bipush 121, 2) := by decide +kernel
theorem dX12_quarrelClause_22 : decode prog_14_method_55_code 22 = .ok (.invokestatic 137, 3) := by decide +kernel
theorem dX12_quarrelClause_25 : decode prog_14_method_55_code 25 = .ok (.iconst 0, 1) := by decide +kernel
theorem dX12_quarrelClause_26 : decode prog_14_method_55_code 26 = .ok (.iconst 5, 1) := by decide +kernel
theorem dX12_quarrelClause_27 : decode prog_14_method_55_code 27 = .ok (.invokevirtual 240, 3) := by decide +kernel
theorem dX12_quarrelClause_30 : decode prog_14_method_55_code 30 = .ok (.istore_n 2, 1) := by decide +kernel
theorem dX12_quarrelClause_31 : decode prog_14_method_55_code 31 = .ok (.iload_n 2, 1) := by decide +kernel
theorem dX12_quarrelClause_32 : decode prog_14_method_55_code 32 = .ok (.ifCond .ne 29, 3) := by decide +kernel
theorem dX12_quarrelClause_35 : decode prog_14_method_55_code 35 = .ok (.aload_n 0, 1) := by decide +kernel
theorem dX12_quarrelClause_36 : decode prog_14_method_55_code 36 = .ok (.iload_n 1, 1) := by decide +kernel
theorem dX12_quarrelClause_37 : decode prog_14_method_55_code 37 = .ok (.iconst 3, 1) := by decide +kernel
theorem dX12_quarrelClause_38 : decode prog_14_method_55_code 38 = .ok (.iadd, 1) := by decide +kernel
theorem dX12_quarrelClause_39 : decode prog_14_method_55_code 39 = .ok (.bipush 119, 2) := by decide +kernel
theorem dX12_quarrelClause_41 : decode prog_14_method_55_code 41 = .ok (.bipush 111, 2) := by decide +kernel
theorem dX12_quarrelClause_43 : decode prog_14_method_55_code 43 = .ok (.bipush 114, 2) := by decide +kernel
theorem dX12_quarrelClause_45 : decode prog_14_method_55_code 45 = .ok (.bipush 116, 2) := by decide +kernel
theorem dX12_quarrelClause_47 : decode prog_14_method_55_code 47 = .ok (.bipush 104, 2) := by decide +kernel
theorem dX12_quarrelClause_49 : decode prog_14_method_55_code 49 = .ok (.invokestatic 149, 3) := by decide +kernel
theorem dX12_quarrelClause_52 : decode prog_14_method_55_code 52 = .ok (.iconst 1, 1) := by decide +kernel
theorem dX12_quarrelClause_53 : decode prog_14_method_55_code 53 = .ok (.bipush 99, 2) := by decide +kernel
theorem dX12_quarrelClause_55 : decode prog_14_method_55_code 55 = .ok (.invokevirtual 240, 3) := by decide +kernel
theorem dX12_quarrelClause_58 : decode prog_14_method_55_code 58 = .ok (.goto 4, 3) := by decide +kernel
theorem dX12_quarrelClause_61 : decode prog_14_method_55_code 61 = .ok (.iload_n 2, 1) := by decide +kernel
theorem dX12_quarrelClause_62 : decode prog_14_method_55_code 62 = .ok (.ireturn, 1) := by decide +kernel
theorem sp_X12_quarrelClause {x : Nat} (cs : CS S R) (hn : 5 ≤ n) (hx : x + 3 < 2820) (h : Tok I t l cu) (hp : ∀ J, DeR J t l x 138 cu → Fg3 x I J → Post (some (.int (iI (deed t l 138 cu).1))) S J R) : Call n 0 0 mX12_quarrelClause [.ref (S.2.1 306), .int (iI (x : Int))] S I R Post := by
  have g0 := fig_rg (cu := cu) (lo := 0) (hi := 5)
  refine Call.of (by decide +kernel) (Nat.le_of_ble_eq_true rfl) ?_
  show WP _ _ _ _ _ 0 [(0, _), (1, _)] [] 0 0 _ _ _
  refine x_aload_n dX12_quarrelClause_0 rfl ?_
  refine x_iload_n dX12_quarrelClause_1 rfl ?_
  refine x_iconst dX12_quarrelClause_2 ?_
  refine x_iadd dX12_quarrelClause_3 ?_
  refine x_iconst dX12_quarrelClause_4 ?_
  refine x_iconst dX12_quarrelClause_5 ?_
  refine x_callV3 (mc1 := 0) (ms1 := 0) dX12_quarrelClause_6 cv_RX12_236 (ci := 12) (k_ob_306 cs) rfl (Nat.le_of_ble_eq_true rfl) (n1 := n - 1) (by omega) (by omega) (by omega) ?_
  refine sp_X12_figure (x := x + 1) (t := t) (l := l) (cu := cu) cs (by omega) (by omega) (by omega) h (fun J6 k6 v6 f6 => ?_)
  refine x_istore_n (lv2 := [(2, _), (0, _), (1, _)]) dX12_quarrelClause_9 (by decide) rfl ?_
  refine x_iload_n dX12_quarrelClause_10 rfl ?_
  refine x_if_ne 31 dX12_quarrelClause_11 (by decide) (by omega) (fun w11 => ?_) (fun w11 => ?_)
  · refine x_iload_n dX12_quarrelClause_31 rfl ?_
    refine x_if_ne 61 dX12_quarrelClause_32 (by decide) (by omega) (fun w32 => ?_) (fun w32 => ?_)
    · refine x_iload_n dX12_quarrelClause_61 rfl ?_
      exact x_ireturn dX12_quarrelClause_62 rfl (by omega) (by omega) (by first
 | (have ez := deed_q0 (t := t) (l := l) (cu := cu) (by omega)
    have ec : fgC t l 0 5 cu = cu := if_neg (by omega)
    rw [ec] at k6
    unfold DeR at hp
    rw [ez] at hp
    exact hp J6 ⟨k6, fun g => by exfalso; have g' : figF 0 5 cu = 0 := g; omega⟩ (Fg3.rf.nx f6 (by omega)))
 | (have z6 : figF 0 5 cu = 0 := by omega
    have ec : fgC t l 0 5 cu = adv t l cu.1 := if_pos z6
    rw [ec] at hr27
    rcases hr27 with ⟨q1, q2, q3⟩ | ⟨q1, q2, q3, q4⟩
    · have ez := deed_q1 (t := t) (l := l) z6 q1
      unfold DeR at hp
      rw [ez] at hp
      subst q2 q3
      exact hp J27 ⟨k27, fun g => by exfalso; have g' : (1 : Int) = 0 := g; omega⟩ ((Fg3.rf.nx f6 (by omega)).nx f27 (by omega))
    · have ez := deed_q2 (t := t) (l := l) z6 q1 (by omega)
      have ed : fgC t l 0 5 (adv t l (adv t l cu.1).1) = adv t l (adv t l cu.1).1 := if_neg (by omega)
      rw [ed] at q3
      unfold DeR at hp
      rw [ez] at hp
      subst q3
      rw [q2]
      exact hp J27 ⟨k27, fun g => by exfalso; have g' : figF 0 5 (adv t l (adv t l cu.1).1) = 0 := g; omega⟩ ((Fg3.rf.nx f6 (by omega)).nx f27 (by omega)))
 | (have z6 : figF 0 5 cu = 0 := by omega
    have ec : fgC t l 0 5 cu = adv t l cu.1 := if_pos z6
    rw [ec] at hr27
    rcases hr27 with ⟨q1, q2, q3⟩ | ⟨q1, q2, q3, q4⟩
    · exfalso; omega
    have z27 : figF 0 5 (adv t l (adv t l cu.1).1) = 0 := by omega
    have ed : fgC t l 0 5 (adv t l (adv t l cu.1).1) = adv t l (adv t l (adv t l cu.1).1).1 := if_pos z27
    rw [ed] at q3
    subst q3
    have fr : Fg3 x I J55 := ((Fg3.rf.nx f6 (by omega)).nx f27 (by omega)).nx f55 (by omega)
    have v6' := v6 z6
    have v27' := q4 (by omega)
    rcases hr55 with ⟨p1, p2, p3⟩ | ⟨p1, p2, p3, p4⟩
    · have ez := deed_q3 (t := t) (l := l) z6 q1 z27 p1
      unfold DeR at hp
      rw [ez] at hp
      subst p2 p3
      exact hp J55 ⟨k55, fun g => by exfalso; have g' : (1 : Int) = 0 := g; omega⟩ fr
    · by_cases z55 : figF 1 99 (adv t l (adv t l (adv t l (adv t l cu.1).1).1).1) = 0
      · have ez := deed_q5 (t := t) (l := l) z6 q1 z27 p1 z55
        have ee : fgC t l 1 99 (adv t l (adv t l (adv t l (adv t l cu.1).1).1).1) = adv t l (adv t l (adv t l (adv t l (adv t l cu.1).1).1).1).1 := if_pos z55
        rw [ee] at p3
        subst p3
        have p4' := p4 (by omega)
        unfold DeR at hp
        rw [ez] at hp
        rw [p2, z55]
        refine hp J55 ⟨k55, fun _ => ⟨?_, fun _ => ⟨?_, p4'⟩⟩⟩ fr
        · rw [f55.2.2 (x + 1) (by omega), f27.2.2 (x + 1) (by omega)]; exact v6'
        · rw [f55.2.2 (x + 2) (by omega)]; exact v27'
      · have ez := deed_q4 (t := t) (l := l) z6 q1 z27 p1 z55
        have ee : fgC t l 1 99 (adv t l (adv t l (adv t l (adv t l cu.1).1).1).1) = adv t l (adv t l (adv t l (adv t l cu.1).1).1).1 := if_neg z55
        rw [ee] at p3
        subst p3
        unfold DeR at hp
        rw [ez] at hp
        rw [p2]
        exact hp J55 ⟨k55, fun g => absurd g z55⟩ fr))
    · exfalso; omega
  · refine x_aload_n dX12_quarrelClause_14 rfl ?_
    refine x_iload_n dX12_quarrelClause_15 rfl ?_
    refine x_iconst dX12_quarrelClause_16 ?_
    refine x_iadd dX12_quarrelClause_17 ?_
    refine x_bipush dX12_quarrelClause_18 (by decide) ?_
    refine x_bipush dX12_quarrelClause_20 (by decide) ?_
    refine x_callS2 (mc1 := 0) (ms1 := 0) dX12_quarrelClause_22 cv_RX12_137 (Nat.le_of_ble_eq_true rfl) (n1 := n - 1) (by omega) (by omega) (by omega) ?_
    refine sp_X12_w2 (by omega) ?_ (by omega)
    refine x_iconst dX12_quarrelClause_25 ?_
    refine x_iconst dX12_quarrelClause_26 ?_
    refine x_callV4 (mc1 := 0) (ms1 := 0) dX12_quarrelClause_27 cv_RX12_240 (ci := 12) (k_ob_306 cs) rfl (Nat.le_of_ble_eq_true rfl) (n1 := n - 1) (by omega) (by omega) (by omega) ?_
    refine sp_X12_behind (x := x + 2) (K := 139) (t := t) (l := l) (cu := fgC t l 0 5 cu) cs (by omega) (by omega) (by decide) (by omega) k6 (fun J27 r27 cu27 g27 hr27 k27 f27 => ?_)
    refine x_istore_n (lv2 := [(2, _), (0, _), (1, _)]) dX12_quarrelClause_30 (by decide) rfl ?_
    refine x_iload_n dX12_quarrelClause_31 rfl ?_
    refine x_if_ne 61 dX12_quarrelClause_32 (by decide) (by omega) (fun w32 => ?_) (fun w32 => ?_)
    · refine x_iload_n dX12_quarrelClause_61 rfl ?_
      exact x_ireturn dX12_quarrelClause_62 rfl (by omega) (by omega) (by first
 | (have ez := deed_q0 (t := t) (l := l) (cu := cu) (by omega)
    have ec : fgC t l 0 5 cu = cu := if_neg (by omega)
    rw [ec] at k6
    unfold DeR at hp
    rw [ez] at hp
    exact hp J6 ⟨k6, fun g => by exfalso; have g' : figF 0 5 cu = 0 := g; omega⟩ (Fg3.rf.nx f6 (by omega)))
 | (have z6 : figF 0 5 cu = 0 := by omega
    have ec : fgC t l 0 5 cu = adv t l cu.1 := if_pos z6
    rw [ec] at hr27
    rcases hr27 with ⟨q1, q2, q3⟩ | ⟨q1, q2, q3, q4⟩
    · have ez := deed_q1 (t := t) (l := l) z6 q1
      unfold DeR at hp
      rw [ez] at hp
      subst q2 q3
      exact hp J27 ⟨k27, fun g => by exfalso; have g' : (1 : Int) = 0 := g; omega⟩ ((Fg3.rf.nx f6 (by omega)).nx f27 (by omega))
    · have ez := deed_q2 (t := t) (l := l) z6 q1 (by omega)
      have ed : fgC t l 0 5 (adv t l (adv t l cu.1).1) = adv t l (adv t l cu.1).1 := if_neg (by omega)
      rw [ed] at q3
      unfold DeR at hp
      rw [ez] at hp
      subst q3
      rw [q2]
      exact hp J27 ⟨k27, fun g => by exfalso; have g' : figF 0 5 (adv t l (adv t l cu.1).1) = 0 := g; omega⟩ ((Fg3.rf.nx f6 (by omega)).nx f27 (by omega)))
 | (have z6 : figF 0 5 cu = 0 := by omega
    have ec : fgC t l 0 5 cu = adv t l cu.1 := if_pos z6
    rw [ec] at hr27
    rcases hr27 with ⟨q1, q2, q3⟩ | ⟨q1, q2, q3, q4⟩
    · exfalso; omega
    have z27 : figF 0 5 (adv t l (adv t l cu.1).1) = 0 := by omega
    have ed : fgC t l 0 5 (adv t l (adv t l cu.1).1) = adv t l (adv t l (adv t l cu.1).1).1 := if_pos z27
    rw [ed] at q3
    subst q3
    have fr : Fg3 x I J55 := ((Fg3.rf.nx f6 (by omega)).nx f27 (by omega)).nx f55 (by omega)
    have v6' := v6 z6
    have v27' := q4 (by omega)
    rcases hr55 with ⟨p1, p2, p3⟩ | ⟨p1, p2, p3, p4⟩
    · have ez := deed_q3 (t := t) (l := l) z6 q1 z27 p1
      unfold DeR at hp
      rw [ez] at hp
      subst p2 p3
      exact hp J55 ⟨k55, fun g => by exfalso; have g' : (1 : Int) = 0 := g; omega⟩ fr
    · by_cases z55 : figF 1 99 (adv t l (adv t l (adv t l (adv t l cu.1).1).1).1) = 0
      · have ez := deed_q5 (t := t) (l := l) z6 q1 z27 p1 z55
        have ee : fgC t l 1 99 (adv t l (adv t l (adv t l (adv t l cu.1).1).1).1) = adv t l (adv t l (adv t l (adv t l (adv t l cu.1).1).1).1).1 := if_pos z55
        rw [ee] at p3
        subst p3
        have p4' := p4 (by omega)
        unfold DeR at hp
        rw [ez] at hp
        rw [p2, z55]
        refine hp J55 ⟨k55, fun _ => ⟨?_, fun _ => ⟨?_, p4'⟩⟩⟩ fr
        · rw [f55.2.2 (x + 1) (by omega), f27.2.2 (x + 1) (by omega)]; exact v6'
        · rw [f55.2.2 (x + 2) (by omega)]; exact v27'
      · have ez := deed_q4 (t := t) (l := l) z6 q1 z27 p1 z55
        have ee : fgC t l 1 99 (adv t l (adv t l (adv t l (adv t l cu.1).1).1).1) = adv t l (adv t l (adv t l (adv t l cu.1).1).1).1 := if_neg z55
        rw [ee] at p3
        subst p3
        unfold DeR at hp
        rw [ez] at hp
        rw [p2]
        exact hp J55 ⟨k55, fun g => absurd g z55⟩ fr))
    · refine x_aload_n dX12_quarrelClause_35 rfl ?_
      refine x_iload_n dX12_quarrelClause_36 rfl ?_
      refine x_iconst dX12_quarrelClause_37 ?_
      refine x_iadd dX12_quarrelClause_38 ?_
      refine x_bipush dX12_quarrelClause_39 (by decide) ?_
      refine x_bipush dX12_quarrelClause_41 (by decide) ?_
      refine x_bipush dX12_quarrelClause_43 (by decide) ?_
      refine x_bipush dX12_quarrelClause_45 (by decide) ?_
      refine x_bipush dX12_quarrelClause_47 (by decide) ?_
      refine x_callS5 (mc1 := 0) (ms1 := 0) dX12_quarrelClause_49 cv_RX12_149 (Nat.le_of_ble_eq_true rfl) (n1 := n - 1) (by omega) (by omega) (by omega) ?_
      refine sp_X12_w5 (by omega) ?_ (by omega)
      refine x_iconst dX12_quarrelClause_52 ?_
      refine x_bipush dX12_quarrelClause_53 (by decide) ?_
      refine x_callV4 (mc1 := 0) (ms1 := 0) dX12_quarrelClause_55 cv_RX12_240 (ci := 12) (k_ob_306 cs) rfl (Nat.le_of_ble_eq_true rfl) (n1 := n - 1) (by omega) (by omega) (by omega) ?_
      refine sp_X12_behind (x := x + 3) (K := 131) (t := t) (l := l) (cu := cu27) cs (by omega) (by omega) (by decide) (by omega) k27 (fun J55 r55 cu55 g55 hr55 k55 f55 => ?_)
      refine x_goto 62 dX12_quarrelClause_58 (by decide) ?_
      exact x_ireturn dX12_quarrelClause_62 rfl (by omega) (by omega) (by first
 | (have ez := deed_q0 (t := t) (l := l) (cu := cu) (by omega)
    have ec : fgC t l 0 5 cu = cu := if_neg (by omega)
    rw [ec] at k6
    unfold DeR at hp
    rw [ez] at hp
    exact hp J6 ⟨k6, fun g => by exfalso; have g' : figF 0 5 cu = 0 := g; omega⟩ (Fg3.rf.nx f6 (by omega)))
 | (have z6 : figF 0 5 cu = 0 := by omega
    have ec : fgC t l 0 5 cu = adv t l cu.1 := if_pos z6
    rw [ec] at hr27
    rcases hr27 with ⟨q1, q2, q3⟩ | ⟨q1, q2, q3, q4⟩
    · have ez := deed_q1 (t := t) (l := l) z6 q1
      unfold DeR at hp
      rw [ez] at hp
      subst q2 q3
      exact hp J27 ⟨k27, fun g => by exfalso; have g' : (1 : Int) = 0 := g; omega⟩ ((Fg3.rf.nx f6 (by omega)).nx f27 (by omega))
    · have ez := deed_q2 (t := t) (l := l) z6 q1 (by omega)
      have ed : fgC t l 0 5 (adv t l (adv t l cu.1).1) = adv t l (adv t l cu.1).1 := if_neg (by omega)
      rw [ed] at q3
      unfold DeR at hp
      rw [ez] at hp
      subst q3
      rw [q2]
      exact hp J27 ⟨k27, fun g => by exfalso; have g' : figF 0 5 (adv t l (adv t l cu.1).1) = 0 := g; omega⟩ ((Fg3.rf.nx f6 (by omega)).nx f27 (by omega)))
 | (have z6 : figF 0 5 cu = 0 := by omega
    have ec : fgC t l 0 5 cu = adv t l cu.1 := if_pos z6
    rw [ec] at hr27
    rcases hr27 with ⟨q1, q2, q3⟩ | ⟨q1, q2, q3, q4⟩
    · exfalso; omega
    have z27 : figF 0 5 (adv t l (adv t l cu.1).1) = 0 := by omega
    have ed : fgC t l 0 5 (adv t l (adv t l cu.1).1) = adv t l (adv t l (adv t l cu.1).1).1 := if_pos z27
    rw [ed] at q3
    subst q3
    have fr : Fg3 x I J55 := ((Fg3.rf.nx f6 (by omega)).nx f27 (by omega)).nx f55 (by omega)
    have v6' := v6 z6
    have v27' := q4 (by omega)
    rcases hr55 with ⟨p1, p2, p3⟩ | ⟨p1, p2, p3, p4⟩
    · have ez := deed_q3 (t := t) (l := l) z6 q1 z27 p1
      unfold DeR at hp
      rw [ez] at hp
      subst p2 p3
      exact hp J55 ⟨k55, fun g => by exfalso; have g' : (1 : Int) = 0 := g; omega⟩ fr
    · by_cases z55 : figF 1 99 (adv t l (adv t l (adv t l (adv t l cu.1).1).1).1) = 0
      · have ez := deed_q5 (t := t) (l := l) z6 q1 z27 p1 z55
        have ee : fgC t l 1 99 (adv t l (adv t l (adv t l (adv t l cu.1).1).1).1) = adv t l (adv t l (adv t l (adv t l (adv t l cu.1).1).1).1).1 := if_pos z55
        rw [ee] at p3
        subst p3
        have p4' := p4 (by omega)
        unfold DeR at hp
        rw [ez] at hp
        rw [p2, z55]
        refine hp J55 ⟨k55, fun _ => ⟨?_, fun _ => ⟨?_, p4'⟩⟩⟩ fr
        · rw [f55.2.2 (x + 1) (by omega), f27.2.2 (x + 1) (by omega)]; exact v6'
        · rw [f55.2.2 (x + 2) (by omega)]; exact v27'
      · have ez := deed_q4 (t := t) (l := l) z6 q1 z27 p1 z55
        have ee : fgC t l 1 99 (adv t l (adv t l (adv t l (adv t l cu.1).1).1).1) = adv t l (adv t l (adv t l (adv t l cu.1).1).1).1 := if_neg z55
        rw [ee] at p3
        subst p3
        unfold DeR at hp
        rw [ez] at hp
        rw [p2]
        exact hp J55 ⟨k55, fun g => absurd g z55⟩ fr))
end Rt1s
