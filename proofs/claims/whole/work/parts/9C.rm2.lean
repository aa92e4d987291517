section Rm2s
variable {n mc ms : Nat} {M : Md} {pc : Nat} {lv : List (Nat × Value)} {st : List Value} {k j : Nat} {Post : PT} {S : Sh} {I : CI} {R : CR} {A : Nat → Int} {tx : Nat → Nat → Int}
variable {cu : Cu}
def opI : List Int → Int
  | [] => -1
  | o :: p => if 40 ≤ o then (p.length : Int) else opI p
theorem opI_opn {g : Nat → Int} : ∀ p : List Int, PlA g p → (opI p = -1 ∧ opn p = -1) ∨ ((0 ≤ opI p ∧ opI p < (p.length : Int)) ∧ g (opI p).toNat = opn p ∧ 40 ≤ opn p) := by
  intro p
  induction p with
  | nil => intro _; exact Or.inl ⟨rfl, rfl⟩
  | cons x p ih =>
    intro h
    by_cases hx : 40 ≤ x
    · right
      have e1 : opI (x :: p) = (p.length : Int) := if_pos hx
      have e2 : opn (x :: p) = x := if_pos hx
      rw [e1, e2, List.length_cons]
      exact ⟨by omega, by rw [show ((p.length : Int)).toNat = p.length by omega]; exact h.1, hx⟩
    · have e1 : opI (x :: p) = opI p := if_neg hx
      have e2 : opn (x :: p) = opn p := if_neg hx
      rw [e1, e2, List.length_cons]
      rcases ih h.2 with h1 | h1
      · exact Or.inl h1
      · exact Or.inr ⟨by omega, h1.2⟩
theorem okP_v : ∀ {p : List Int} {x : Int}, okP p → x ∈ p → vld x := by
  intro p
  induction p with
  | nil => intro x _ h; cases h
  | cons y p ih =>
    intro x h hx
    rcases List.mem_cons.mp hx with h1 | h1
    · rw [h1]; exact h.2.1
    · exact ih h.1 h1
theorem opn_v {p : List Int} (h : okP p) : opn p = -1 ∨ (40 ≤ opn p ∧ opn p ≤ 44) := by
  induction p with
  | nil => exact Or.inl rfl
  | cons y p ih =>
    have hv := h.2.1
    by_cases hy : 40 ≤ y
    · have e : opn (y :: p) = y := if_pos hy
      rw [e]; omega
    · have e : opn (y :: p) = opn p := if_neg hy
      rw [e]; exact ih h.1
theorem dX12_openAt_0 : decode prog_14_method_40_code 0 = .ok (.aload_n 0, 1) := by decide +kernel
theorem dX12_openAt_1 : decode prog_14_method_40_code 1 = .ok (.getfield 166, 3) := by decide +kernel
theorem dX12_openAt_4 : decode prog_14_method_40_code 4 = .ok (.iconst 1, 1) := by decide +kernel
theorem dX12_openAt_5 : decode prog_14_method_40_code 5 = .ok (.isub, 1) := by decide +kernel
theorem dX12_openAt_6 : decode prog_14_method_40_code 6 = .ok (.istore_n 1, 1) := by decide +kernel
theorem dX12_openAt_7 : decode prog_14_method_40_code 7 = .ok (.iload_n 1, 1) := by decide +kernel
theorem dX12_openAt_8 : decode prog_14_method_40_code 8 = .ok (.ifCond .lt 20, 3) := by decide +kernel
theorem dX12_openAt_11 : decode prog_14_method_40_code 11 = .ok (.aload_n 0, 1) := by decide +kernel
theorem dX12_openAt_12 : decode prog_14_method_40_code 12 = .ok (.getfield 29, 3) := by decide +kernel
theorem dX12_openAt_15 : decode prog_14_method_40_code 15 = .ok (.iload_n 1, 1) := by decide +kernel
theorem dX12_openAt_16 : decode prog_14_method_40_code 16 = .ok (.iaload, 1) := by decide +kernel
theorem dX12_openAt_17 : decode prog_14_method_40_code 17 = .ok (.bipush 40, 2) := by decide +kernel
theorem dX12_openAt_19 : decode prog_14_method_40_code 19 = .ok (.if_icmp .ge 9, 3) := by decide +kernel
theorem dX12_openAt_22 : decode prog_14_method_40_code 22 = .ok (.iinc 1 (-1), 3) := by decide +kernel
theorem dX12_openAt_25 : decode prog_14_method_40_code 25 = .ok (.goto (-18), 3) := by decide +kernel
theorem dX12_openAt_28 : decode prog_14_method_40_code 28 = .ok (.iload_n 1, 1) := by decide +kernel
theorem dX12_openAt_29 : decode prog_14_method_40_code 29 = .ok (.ireturn, 1) := by decide +kernel
theorem lp_openAt {q : Int} (cs : CS S R) (hp : Post (some (.int (iI q))) S I R) : ∀ p : List Int, PlA (I 311) p → okP p → p.length ≤ 160 → opI p = q → WP n 0 0 mX12_openAt Post 7 [(0, .ref (S.2.1 306)), (1, .int (iI ((p.length : Int) - 1)))] [] 0 0 S I R := by
  intro p
  induction p with
  | nil =>
    intro h0 hk hl hq
    have hq2 : -1 = q := hq
    subst hq2
    have e0 : (([] : List Int).length : Int) = 0 := rfl
    refine x_iload_n dX12_openAt_7 rfl ?_
    refine x_if_lt 28 dX12_openAt_8 (by decide) (by omega) (fun w8 => ?_) (fun w8 => ?_)
    · refine x_iload_n dX12_openAt_28 rfl ?_
      exact x_ireturn dX12_openAt_29 rfl (by omega) (by omega) (hp)
    · exfalso; omega
  | cons x p ih =>
    intro h0 hk hl hq
    rw [List.length_cons] at hl ⊢
    have hv := hk.2.1
    rw [show ((p.length + 1 : Nat) : Int) - 1 = (p.length : Int) by omega]
    refine x_iload_n dX12_openAt_7 rfl ?_
    refine x_if_lt 28 dX12_openAt_8 (by decide) (by omega) (fun w8 => ?_) (fun w8 => ?_)
    · refine x_iload_n dX12_openAt_28 rfl ?_
      exact x_ireturn dX12_openAt_29 rfl (by omega) (by omega) (by first | (exfalso; omega) | (rw [show opI (x :: p) = (p.length : Int) from if_pos (by omega)] at hq; rw [hq]; exact hp))
    · refine x_aload_n dX12_openAt_11 rfl ?_
      refine x_getR (b := 311) dX12_openAt_12 gf_RX12_29 (k_ob_306 cs) (fun _ _ => rfl) (k_r_306_15 cs) ?_
      refine x_iload_n dX12_openAt_15 rfl ?_
      refine x_iaload dX12_openAt_16 (k_ar_311 cs) (by omega) (by omega) ?_
      rw [show I 311 (((p.length : Int)).toNat) = x by rw [show ((p.length : Int)).toNat = p.length by omega]; exact h0.1]
      refine x_bipush dX12_openAt_17 (by decide) ?_
      refine x_icmp_ge 28 dX12_openAt_19 (by decide) ⟨(by omega), (by omega)⟩ (fun w19 => ?_) (fun w19 => ?_)
      · refine x_iload_n dX12_openAt_28 rfl ?_
        exact x_ireturn dX12_openAt_29 rfl (by omega) (by omega) (by first | (exfalso; omega) | (rw [show opI (x :: p) = (p.length : Int) from if_pos (by omega)] at hq; rw [hq]; exact hp))
      · refine x_iinc (lv2 := [(1, _), (0, _)]) dX12_openAt_22 rfl (by decide) rfl ?_
        refine x_goto 7 dX12_openAt_25 (by decide) ?_
        refine x_sub [1, 0] rfl ?_
        rw [show (p.length : Int) + -1 = (p.length : Int) - 1 by omega]
        exact ih h0.2 hk.1 (by omega) (by rw [← hq]; exact (if_neg (by omega)).symm)
theorem sp_X12_openAt {p : List Int} (cs : CS S R) (hP : PlS I p) (hk : okP p) (hl : p.length ≤ 160) (hp : Post (some (.int (iI (opI p)))) S I R) : Call n 0 0 mX12_openAt [.ref (S.2.1 306)] S I R Post := by
  have p2 := hP.2.1
  refine Call.of (by decide +kernel) (Nat.le_of_ble_eq_true rfl) ?_
  show WP _ _ _ _ _ 0 [(0, _)] [] 0 0 _ _ _
  refine x_aload_n dX12_openAt_0 rfl ?_
  refine x_getIv (z := (p.length : Int)) dX12_openAt_1 gf_RX12_166 (k_ob_306 cs) (fun _ _ => rfl) (by exact p2) ?_
  refine x_iconst dX12_openAt_4 ?_
  refine x_isub dX12_openAt_5 ?_
  refine x_istore_n (lv2 := [(1, _), (0, _)]) dX12_openAt_6 (by decide) rfl ?_
  refine x_sub [1, 0] rfl ?_
  exact lp_openAt cs hp p hP.1 hk hl rfl
theorem dX12_openNow_0 : decode prog_14_method_41_code 0 = .ok (.aload_n 0, 1) := by decide +kernel
theorem dX12_openNow_1 : decode prog_14_method_41_code 1 = .ok (.invokevirtual 179, 3) := by decide +kernel
theorem dX12_openNow_4 : decode prog_14_method_41_code 4 = .ok (.ifCond .ge 7, 3) := by decide +kernel
theorem dX12_openNow_7 : decode prog_14_method_41_code 7 = .ok (.iconst (-1), 1) := by decide +kernel
theorem dX12_openNow_8 : decode prog_14_method_41_code 8 = .ok (.goto 12, 3) := by decide +kernel
theorem dX12_openNow_11 : decode prog_14_method_41_code 11 = .ok (.aload_n 0, 1) := by decide +kernel
theorem dX12_openNow_12 : decode prog_14_method_41_code 12 = .ok (.getfield 29, 3) := by decide +kernel
theorem dX12_openNow_15 : decode prog_14_method_41_code 15 = .ok (.aload_n 0, 1) := by decide +kernel
theorem dX12_openNow_16 : decode prog_14_method_41_code 16 = .ok (.invokevirtual 179, 3) := by decide +kernel
theorem dX12_openNow_19 : decode prog_14_method_41_code 19 = .ok (.iaload, 1) := by decide +kernel
theorem dX12_openNow_20 : decode prog_14_method_41_code 20 = .ok (.ireturn, 1) := by decide +kernel
theorem sp_X12_openNow {p : List Int} (cs : CS S R) (hn : 1 ≤ n) (hP : PlS I p) (hk : okP p) (hl : p.length ≤ 160) (hp : Post (some (.int (iI (opn p)))) S I R) : Call n 0 0 mX12_openNow [.ref (S.2.1 306)] S I R Post := by
  have ho := opI_opn p hP.1
  refine Call.of (by decide +kernel) (Nat.le_of_ble_eq_true rfl) ?_
  show WP _ _ _ _ _ 0 [(0, _)] [] 0 0 _ _ _
  refine x_aload_n dX12_openNow_0 rfl ?_
  refine x_callV0 (mc1 := 0) (ms1 := 0) dX12_openNow_1 cv_RX12_179 (ci := 12) (k_ob_306 cs) rfl (Nat.le_of_ble_eq_true rfl) (n1 := n - 1) (by omega) (by omega) (by omega) ?_
  refine sp_X12_openAt cs hP hk hl ?_
  refine x_if_ge 11 dX12_openNow_4 (by decide) (by omega) (fun w4 => ?_) (fun w4 => ?_)
  · refine x_aload_n dX12_openNow_11 rfl ?_
    refine x_getR (b := 311) dX12_openNow_12 gf_RX12_29 (k_ob_306 cs) (fun _ _ => rfl) (k_r_306_15 cs) ?_
    refine x_aload_n dX12_openNow_15 rfl ?_
    refine x_callV0 (mc1 := 0) (ms1 := 0) dX12_openNow_16 cv_RX12_179 (ci := 12) (k_ob_306 cs) rfl (Nat.le_of_ble_eq_true rfl) (n1 := n - 1) (by omega) (by omega) (by omega) ?_
    refine sp_X12_openAt cs hP hk hl ?_
    refine x_iaload dX12_openNow_19 (k_ar_311 cs) (by omega) (by omega) ?_
    rw [show I 311 ((opI p).toNat) = opn p by omega]
    exact x_ireturn dX12_openNow_20 rfl (by omega) (by omega) (by first | exact hp | (rw [show opn p = -1 by omega] at hp; exact hp))
  · refine x_iconst dX12_openNow_7 ?_
    refine x_goto 20 dX12_openNow_8 (by decide) ?_
    exact x_ireturn dX12_openNow_20 rfl (by omega) (by omega) (by first | exact hp | (rw [show opn p = -1 by omega] at hp; exact hp))
theorem dX12_isCompared_0 : decode prog_14_method_42_code 0 = .ok (.aload_n 0, 1) := by decide +kernel
theorem dX12_isCompared_1 : decode prog_14_method_42_code 1 = .ok (.getfield 166, 3) := by decide +kernel
theorem dX12_isCompared_4 : decode prog_14_method_42_code 4 = .ok (.iconst 1, 1) := by decide +kernel
theorem dX12_isCompared_5 : decode prog_14_method_42_code 5 = .ok (.isub, 1) := by decide +kernel
theorem dX12_isCompared_6 : decode prog_14_method_42_code 6 = .ok (.istore_n 1, 1) := by decide +kernel
theorem dX12_isCompared_7 : decode prog_14_method_42_code 7 = .ok (.iload_n 1, 1) := by decide +kernel
theorem dX12_isCompared_8 : decode prog_14_method_42_code 8 = .ok (.ifCond .lt 22, 3) := by decide +kernel
theorem dX12_isCompared_11 : decode prog_14_method_42_code 11 = .ok (.aload_n 0, 1) := by decide +kernel
theorem dX12_isCompared_12 : decode prog_14_method_42_code 12 = .ok (.getfield 29, 3) := by decide +kernel
theorem dX12_isCompared_15 : decode prog_14_method_42_code 15 = .ok (.iload_n 1, 1) := by decide +kernel
theorem dX12_isCompared_16 : decode prog_14_method_42_code 16 = .ok (.iaload, 1) := by decide +kernel
theorem dX12_isCompared_17 : decode prog_14_method_42_code 17 = .ok (.invokestatic 169, 3) := by decide +kernel
theorem dX12_isCompared_20 : decode prog_14_method_42_code 20 = .ok (.iconst 4, 1) := by decide +kernel
theorem dX12_isCompared_21 : decode prog_14_method_42_code 21 = .ok (.if_icmp .le 9, 3) := by decide +kernel
theorem dX12_isCompared_24 : decode prog_14_method_42_code 24 = .ok (.iinc 1 (-1), 3) := by decide +kernel
theorem dX12_isCompared_27 : decode prog_14_method_42_code 27 = .ok (.goto (-20), 3) := by decide +kernel
theorem dX12_isCompared_30 : decode prog_14_method_42_code 30 = .ok (.iload_n 1, 1) := by decide +kernel
theorem dX12_isCompared_31 : decode prog_14_method_42_code 31 = .ok (.ifCond .lt 20, 3) := by decide +kernel
theorem dX12_isCompared_34 : decode prog_14_method_42_code 34 = .ok (.aload_n 0, 1) := by decide +kernel
theorem dX12_isCompared_35 : decode prog_14_method_42_code 35 = .ok (.getfield 29, 3) := by decide +kernel
theorem dX12_isCompared_38 : decode prog_14_method_42_code 38 = .ok (.iload_n 1, 1) := by decide +kernel
theorem dX12_isCompared_39 : decode prog_14_method_42_code 39 = .ok (.iaload, 1) := by decide +kernel
theorem dX12_isCompared_40 : decode prog_14_method_42_code 40 = .ok (.invokestatic 169, 3) := by decide +kernel
theorem dX12_isCompared_43 : decode prog_14_method_42_code 43 = .ok (.iconst 4, 1) := by decide +kernel
theorem dX12_isCompared_44 : decode prog_14_method_42_code 44 = .ok (.if_icmp .ne 7, 3) := by decide +kernel
theorem dX12_isCompared_47 : decode prog_14_method_42_code 47 = .ok (.iconst 1, 1) := by decide +kernel
theorem dX12_isCompared_48 : decode prog_14_method_42_code 48 = .ok (.goto 4, 3) := by decide +kernel
theorem dX12_isCompared_51 : decode prog_14_method_42_code 51 = .ok (.iconst 0, 1) := by decide +kernel
theorem dX12_isCompared_52 : decode prog_14_method_42_code 52 = .ok (.ireturn, 1) := by decide +kernel
theorem lp_isCompared {q : Bool} (cs : CS S R) (hn : 1 ≤ n) (hp : ∀ r : Int, (r = 1 ∧ q = true ∨ r = 0 ∧ q = false) → Post (some (.int (iI r))) S I R) : ∀ p : List Int, PlA (I 311) p → okP p → p.length ≤ 160 → cmpd p = q → WP n 0 0 mX12_isCompared Post 7 [(0, .ref (S.2.1 306)), (1, .int (iI ((p.length : Int) - 1)))] [] 0 0 S I R := by
  intro p
  induction p with
  | nil =>
    intro h0 hk hl hq
    have hq2 : false = q := hq
    subst hq2
    have e0 : (([] : List Int).length : Int) = 0 := rfl
    refine x_iload_n dX12_isCompared_7 rfl ?_
    refine x_if_lt 30 dX12_isCompared_8 (by decide) (by omega) (fun w8 => ?_) (fun w8 => ?_)
    · refine x_iload_n dX12_isCompared_30 rfl ?_
      refine x_if_lt 51 dX12_isCompared_31 (by decide) (by omega) (fun w31 => ?_) (fun w31 => ?_)
      · refine x_iconst dX12_isCompared_51 ?_
        exact x_zreturn (by omega) dX12_isCompared_52 rfl (by omega) (by omega) (hp 0 (Or.inr ⟨rfl, rfl⟩))
      · exfalso; omega
    · exfalso; omega
  | cons x p ih =>
    intro h0 hk hl hq
    rw [List.length_cons] at hl ⊢
    have hv := hk.2.1
    have hrb := rk_b x
    rw [show ((p.length + 1 : Nat) : Int) - 1 = (p.length : Int) by omega]
    refine x_iload_n dX12_isCompared_7 rfl ?_
    refine x_if_lt 30 dX12_isCompared_8 (by decide) (by omega) (fun w8 => ?_) (fun w8 => ?_)
    · refine x_iload_n dX12_isCompared_30 rfl ?_
      refine x_if_lt 51 dX12_isCompared_31 (by decide) (by omega) (fun w31 => ?_) (fun w31 => ?_)
      · refine x_iconst dX12_isCompared_51 ?_
        exact x_zreturn (by omega) dX12_isCompared_52 rfl (by omega) (by omega) (by
  first
  | (exfalso; omega)
  | (have e : cmpd (x :: p) = decide (rk x = 4) := if_neg (by omega)
     rw [e] at hq
     first
     | exact hp 1 (Or.inl ⟨rfl, by rw [← hq]; exact decide_eq_true (by omega)⟩)
     | exact hp 0 (Or.inr ⟨rfl, by rw [← hq]; exact decide_eq_false (by omega)⟩)))
      · refine x_aload_n dX12_isCompared_34 rfl ?_
        refine x_getR (b := 311) dX12_isCompared_35 gf_RX12_29 (k_ob_306 cs) (fun _ _ => rfl) (k_r_306_15 cs) ?_
        refine x_iload_n dX12_isCompared_38 rfl ?_
        refine x_iaload dX12_isCompared_39 (k_ar_311 cs) (by omega) (by omega) ?_
        rw [show I 311 (((p.length : Int)).toNat) = x by rw [show ((p.length : Int)).toNat = p.length by omega]; exact h0.1]
        refine x_callS1 (mc1 := 0) (ms1 := 0) dX12_isCompared_40 cv_RX12_169 (Nat.le_of_ble_eq_true rfl) (n1 := n - 1) (by omega) (by omega) (by omega) ?_
        refine sp_X12_rank (by omega) ?_
        refine x_iconst dX12_isCompared_43 ?_
        refine x_icmp_ne 51 dX12_isCompared_44 (by decide) ⟨(by omega), (by omega)⟩ (fun w44 => ?_) (fun w44 => ?_)
        · refine x_iconst dX12_isCompared_51 ?_
          exact x_zreturn (by omega) dX12_isCompared_52 rfl (by omega) (by omega) (by
  first
  | (exfalso; omega)
  | (have e : cmpd (x :: p) = decide (rk x = 4) := if_neg (by omega)
     rw [e] at hq
     first
     | exact hp 1 (Or.inl ⟨rfl, by rw [← hq]; exact decide_eq_true (by omega)⟩)
     | exact hp 0 (Or.inr ⟨rfl, by rw [← hq]; exact decide_eq_false (by omega)⟩)))
        · refine x_iconst dX12_isCompared_47 ?_
          refine x_goto 52 dX12_isCompared_48 (by decide) ?_
          exact x_zreturn (by omega) dX12_isCompared_52 rfl (by omega) (by omega) (by
  first
  | (exfalso; omega)
  | (have e : cmpd (x :: p) = decide (rk x = 4) := if_neg (by omega)
     rw [e] at hq
     first
     | exact hp 1 (Or.inl ⟨rfl, by rw [← hq]; exact decide_eq_true (by omega)⟩)
     | exact hp 0 (Or.inr ⟨rfl, by rw [← hq]; exact decide_eq_false (by omega)⟩)))
    · refine x_aload_n dX12_isCompared_11 rfl ?_
      refine x_getR (b := 311) dX12_isCompared_12 gf_RX12_29 (k_ob_306 cs) (fun _ _ => rfl) (k_r_306_15 cs) ?_
      refine x_iload_n dX12_isCompared_15 rfl ?_
      refine x_iaload dX12_isCompared_16 (k_ar_311 cs) (by omega) (by omega) ?_
      rw [show I 311 (((p.length : Int)).toNat) = x by rw [show ((p.length : Int)).toNat = p.length by omega]; exact h0.1]
      refine x_callS1 (mc1 := 0) (ms1 := 0) dX12_isCompared_17 cv_RX12_169 (Nat.le_of_ble_eq_true rfl) (n1 := n - 1) (by omega) (by omega) (by omega) ?_
      refine sp_X12_rank (by omega) ?_
      refine x_iconst dX12_isCompared_20 ?_
      refine x_icmp_le 30 dX12_isCompared_21 (by decide) ⟨(by omega), (by omega)⟩ (fun w21 => ?_) (fun w21 => ?_)
      · refine x_iload_n dX12_isCompared_30 rfl ?_
        refine x_if_lt 51 dX12_isCompared_31 (by decide) (by omega) (fun w31 => ?_) (fun w31 => ?_)
        · refine x_iconst dX12_isCompared_51 ?_
          exact x_zreturn (by omega) dX12_isCompared_52 rfl (by omega) (by omega) (by
  first
  | (exfalso; omega)
  | (have e : cmpd (x :: p) = decide (rk x = 4) := if_neg (by omega)
     rw [e] at hq
     first
     | exact hp 1 (Or.inl ⟨rfl, by rw [← hq]; exact decide_eq_true (by omega)⟩)
     | exact hp 0 (Or.inr ⟨rfl, by rw [← hq]; exact decide_eq_false (by omega)⟩)))
        · refine x_aload_n dX12_isCompared_34 rfl ?_
          refine x_getR (b := 311) dX12_isCompared_35 gf_RX12_29 (k_ob_306 cs) (fun _ _ => rfl) (k_r_306_15 cs) ?_
          refine x_iload_n dX12_isCompared_38 rfl ?_
          refine x_iaload dX12_isCompared_39 (k_ar_311 cs) (by omega) (by omega) ?_
          rw [show I 311 (((p.length : Int)).toNat) = x by rw [show ((p.length : Int)).toNat = p.length by omega]; exact h0.1]
          refine x_callS1 (mc1 := 0) (ms1 := 0) dX12_isCompared_40 cv_RX12_169 (Nat.le_of_ble_eq_true rfl) (n1 := n - 1) (by omega) (by omega) (by omega) ?_
          refine sp_X12_rank (by omega) ?_
          refine x_iconst dX12_isCompared_43 ?_
          refine x_icmp_ne 51 dX12_isCompared_44 (by decide) ⟨(by omega), (by omega)⟩ (fun w44 => ?_) (fun w44 => ?_)
          · refine x_iconst dX12_isCompared_51 ?_
            exact x_zreturn (by omega) dX12_isCompared_52 rfl (by omega) (by omega) (by
  first
  | (exfalso; omega)
  | (have e : cmpd (x :: p) = decide (rk x = 4) := if_neg (by omega)
     rw [e] at hq
     first
     | exact hp 1 (Or.inl ⟨rfl, by rw [← hq]; exact decide_eq_true (by omega)⟩)
     | exact hp 0 (Or.inr ⟨rfl, by rw [← hq]; exact decide_eq_false (by omega)⟩)))
          · refine x_iconst dX12_isCompared_47 ?_
            refine x_goto 52 dX12_isCompared_48 (by decide) ?_
            exact x_zreturn (by omega) dX12_isCompared_52 rfl (by omega) (by omega) (by
  first
  | (exfalso; omega)
  | (have e : cmpd (x :: p) = decide (rk x = 4) := if_neg (by omega)
     rw [e] at hq
     first
     | exact hp 1 (Or.inl ⟨rfl, by rw [← hq]; exact decide_eq_true (by omega)⟩)
     | exact hp 0 (Or.inr ⟨rfl, by rw [← hq]; exact decide_eq_false (by omega)⟩)))
      · refine x_iinc (lv2 := [(1, _), (0, _)]) dX12_isCompared_24 rfl (by decide) rfl ?_
        refine x_goto 7 dX12_isCompared_27 (by decide) ?_
        refine x_sub [1, 0] rfl ?_
        rw [show (p.length : Int) + -1 = (p.length : Int) - 1 by omega]
        exact ih h0.2 hk.1 (by omega) (by rw [← hq]; exact (if_pos (by omega)).symm)
theorem sp_X12_isCompared {p : List Int} (cs : CS S R) (hn : 1 ≤ n) (hP : PlS I p) (hk : okP p) (hl : p.length ≤ 160) (hp : ∀ r : Int, (r = 1 ∧ cmpd p = true ∨ r = 0 ∧ cmpd p = false) → Post (some (.int (iI r))) S I R) : Call n 0 0 mX12_isCompared [.ref (S.2.1 306)] S I R Post := by
  have p2 := hP.2.1
  refine Call.of (by decide +kernel) (Nat.le_of_ble_eq_true rfl) ?_
  show WP _ _ _ _ _ 0 [(0, _)] [] 0 0 _ _ _
  refine x_aload_n dX12_isCompared_0 rfl ?_
  refine x_getIv (z := (p.length : Int)) dX12_isCompared_1 gf_RX12_166 (k_ob_306 cs) (fun _ _ => rfl) (by exact p2) ?_
  refine x_iconst dX12_isCompared_4 ?_
  refine x_isub dX12_isCompared_5 ?_
  refine x_istore_n (lv2 := [(1, _), (0, _)]) dX12_isCompared_6 (by decide) rfl ?_
  refine x_sub [1, 0] rfl ?_
  exact lp_isCompared cs hn hp p hP.1 hk hl rfl
theorem dX12_isAskAhead_0 : decode prog_14_method_43_code 0 = .ok (.aload_n 0, 1) := by decide +kernel
theorem dX12_isAskAhead_1 : decode prog_14_method_43_code 1 = .ok (.invokevirtual 183, 3) := by decide +kernel
theorem dX12_isAskAhead_4 : decode prog_14_method_43_code 4 = .ok (.bipush 42, 2) := by decide +kernel
theorem dX12_isAskAhead_6 : decode prog_14_method_43_code 6 = .ok (.if_icmp .ne 45, 3) := by decide +kernel
theorem dX12_isAskAhead_9 : decode prog_14_method_43_code 9 = .ok (.aload_n 0, 1) := by decide +kernel
theorem dX12_isAskAhead_10 : decode prog_14_method_43_code 10 = .ok (.getfield 29, 3) := by decide +kernel
theorem dX12_isAskAhead_13 : decode prog_14_method_43_code 13 = .ok (.aload_n 0, 1) := by decide +kernel
theorem dX12_isAskAhead_14 : decode prog_14_method_43_code 14 = .ok (.getfield 166, 3) := by decide +kernel
theorem dX12_isAskAhead_17 : decode prog_14_method_43_code 17 = .ok (.iconst 1, 1) := by decide +kernel
theorem dX12_isAskAhead_18 : decode prog_14_method_43_code 18 = .ok (.isub, 1) := by decide +kernel
theorem dX12_isAskAhead_19 : decode prog_14_method_43_code 19 = .ok (.iaload, 1) := by decide +kernel
theorem dX12_isAskAhead_20 : decode prog_14_method_43_code 20 = .ok (.bipush 40, 2) := by decide +kernel
theorem dX12_isAskAhead_22 : decode prog_14_method_43_code 22 = .ok (.if_icmp .ge 25, 3) := by decide +kernel
theorem dX12_isAskAhead_25 : decode prog_14_method_43_code 25 = .ok (.aload_n 0, 1) := by decide +kernel
theorem dX12_isAskAhead_26 : decode prog_14_method_43_code 26 = .ok (.getfield 29, 3) := by decide +kernel
theorem dX12_isAskAhead_29 : decode prog_14_method_43_code 29 = .ok (.aload_n 0, 1) := by decide +kernel
theorem dX12_isAskAhead_30 : decode prog_14_method_43_code 30 = .ok (.getfield 166, 3) := by decide +kernel
theorem dX12_isAskAhead_33 : decode prog_14_method_43_code 33 = .ok (.iconst 1, 1) := by decide +kernel
theorem dX12_isAskAhead_34 : decode prog_14_method_43_code 34 = .ok (.isub, 1) := by decide +kernel
theorem dX12_isAskAhead_35 : decode prog_14_method_43_code 35 = .ok (.iaload, 1) := by decide +kernel
theorem dX12_isAskAhead_36 : decode prog_14_method_43_code 36 = .ok (.invokestatic 169, 3) := by decide +kernel
theorem dX12_isAskAhead_39 : decode prog_14_method_43_code 39 = .ok (.iconst 1, 1) := by decide +kernel
theorem dX12_isAskAhead_40 : decode prog_14_method_43_code 40 = .ok (.iconst 3, 1) := by decide +kernel
theorem dX12_isAskAhead_41 : decode prog_14_method_43_code 41 = .ok (.invokestatic 81, 3) := by decide +kernel
theorem dX12_isAskAhead_44 : decode prog_14_method_43_code 44 = .ok (.ifCond .eq 7, 3) := by decide +kernel
theorem dX12_isAskAhead_47 : decode prog_14_method_43_code 47 = .ok (.iconst 1, 1) := by decide +kernel
theorem dX12_isAskAhead_48 : decode prog_14_method_43_code 48 = .ok (.goto 4, 3) := by decide +kernel
theorem dX12_isAskAhead_51 : decode prog_14_method_43_code 51 = .ok (.iconst 0, 1) := by decide +kernel
theorem dX12_isAskAhead_52 : decode prog_14_method_43_code 52 = .ok (.ireturn, 1) := by decide +kernel
theorem sp_X12_isAskAhead {p : List Int} (cs : CS S R) (hn : 2 ≤ n) (hP : PlS I p) (hk : okP p) (hl : p.length ≤ 160) (hp : ∀ r : Int, (r = 1 ∧ askA p = true ∨ r = 0 ∧ askA p = false) → Post (some (.int (iI r))) S I R) : Call n 0 0 mX12_isAskAhead [.ref (S.2.1 306)] S I R Post := by
  have hov := opn_v hk
  have hA1 : opn p ≠ 42 → askA p = false := fun h => by unfold askA; rw [decide_eq_false h]; rfl
  by_cases h42 : opn p = 42
  · cases p with
    | nil => exact absurd h42 (by decide)
    | cons x p =>
      obtain ⟨⟨p0, p1⟩, p2, p3⟩ := id hP
      have hv := hk.2.1
      have hrb := rk_b x
      rw [List.length_cons] at p2 hl
      have hA2 : (40 ≤ x ∨ (1 ≤ rk x ∧ rk x ≤ 3)) → askA (x :: p) = true := fun h => ask_i h42 h
      have hA3 : ¬ (40 ≤ x ∨ (1 ≤ rk x ∧ rk x ≤ 3)) → askA (x :: p) = false := fun h => ask_f (by omega) (by omega)
      refine Call.of (by decide +kernel) (Nat.le_of_ble_eq_true rfl) ?_
      show WP _ _ _ _ _ 0 [(0, _)] [] 0 0 _ _ _
      refine x_aload_n dX12_isAskAhead_0 rfl ?_
      refine x_callV0 (mc1 := 0) (ms1 := 0) dX12_isAskAhead_1 cv_RX12_183 (ci := 12) (k_ob_306 cs) rfl (Nat.le_of_ble_eq_true rfl) (n1 := n - 1) (by omega) (by omega) (by omega) ?_
      refine sp_X12_openNow cs (by omega) hP hk (by rw [List.length_cons]; exact hl) ?_
      rw [h42]
      refine x_bipush dX12_isAskAhead_4 (by decide) ?_
      refine x_icmp_ne 51 dX12_isAskAhead_6 (by decide) ⟨(by omega), (by omega)⟩ (fun w6 => ?_) (fun w6 => ?_)
      · refine x_iconst dX12_isAskAhead_51 ?_
        exact x_zreturn (by omega) dX12_isAskAhead_52 rfl (by omega) (by omega) (by first | (exfalso; omega) | exact hp 1 (Or.inl ⟨rfl, hA2 (by omega)⟩) | exact hp 0 (Or.inr ⟨rfl, hA3 (by omega)⟩))
      · refine x_aload_n dX12_isAskAhead_9 rfl ?_
        refine x_getR (b := 311) dX12_isAskAhead_10 gf_RX12_29 (k_ob_306 cs) (fun _ _ => rfl) (k_r_306_15 cs) ?_
        refine x_aload_n dX12_isAskAhead_13 rfl ?_
        refine x_getIv (z := ((p.length : Int) + 1)) dX12_isAskAhead_14 gf_RX12_166 (k_ob_306 cs) (fun _ _ => rfl) (by exact p2) ?_
        refine x_iconst dX12_isAskAhead_17 ?_
        refine x_isub dX12_isAskAhead_18 ?_
        refine x_iaload dX12_isAskAhead_19 (k_ar_311 cs) (by omega) (by omega) ?_
        rw [show I 311 (((p.length : Int) + 1 - 1).toNat) = x by rw [show ((p.length : Int) + 1 - 1).toNat = p.length by omega]; exact p0]
        refine x_bipush dX12_isAskAhead_20 (by decide) ?_
        refine x_icmp_ge 47 dX12_isAskAhead_22 (by decide) ⟨(by omega), (by omega)⟩ (fun w22 => ?_) (fun w22 => ?_)
        · refine x_iconst dX12_isAskAhead_47 ?_
          refine x_goto 52 dX12_isAskAhead_48 (by decide) ?_
          exact x_zreturn (by omega) dX12_isAskAhead_52 rfl (by omega) (by omega) (by first | (exfalso; omega) | exact hp 1 (Or.inl ⟨rfl, hA2 (by omega)⟩) | exact hp 0 (Or.inr ⟨rfl, hA3 (by omega)⟩))
        · refine x_aload_n dX12_isAskAhead_25 rfl ?_
          refine x_getR (b := 311) dX12_isAskAhead_26 gf_RX12_29 (k_ob_306 cs) (fun _ _ => rfl) (k_r_306_15 cs) ?_
          refine x_aload_n dX12_isAskAhead_29 rfl ?_
          refine x_getIv (z := ((p.length : Int) + 1)) dX12_isAskAhead_30 gf_RX12_166 (k_ob_306 cs) (fun _ _ => rfl) (by exact p2) ?_
          refine x_iconst dX12_isAskAhead_33 ?_
          refine x_isub dX12_isAskAhead_34 ?_
          refine x_iaload dX12_isAskAhead_35 (k_ar_311 cs) (by omega) (by omega) ?_
          rw [show I 311 (((p.length : Int) + 1 - 1).toNat) = x by rw [show ((p.length : Int) + 1 - 1).toNat = p.length by omega]; exact p0]
          refine x_callS1 (mc1 := 0) (ms1 := 0) dX12_isAskAhead_36 cv_RX12_169 (Nat.le_of_ble_eq_true rfl) (n1 := n - 1) (by omega) (by omega) (by omega) ?_
          refine sp_X12_rank (by omega) ?_
          refine x_iconst dX12_isAskAhead_39 ?_
          refine x_iconst dX12_isAskAhead_40 ?_
          refine x_callS3 (mc1 := 0) (ms1 := 0) dX12_isAskAhead_41 cv_RX12_81 (Nat.le_of_ble_eq_true rfl) (n1 := n - 1) (by omega) (by omega) (by omega) ?_
          refine sp_X12_isIn (by omega) (by omega) (by omega) (fun r41 hr41 => ?_)
          refine x_if_eq 51 dX12_isAskAhead_44 (by decide) (by omega) (fun w44 => ?_) (fun w44 => ?_)
          · refine x_iconst dX12_isAskAhead_51 ?_
            exact x_zreturn (by omega) dX12_isAskAhead_52 rfl (by omega) (by omega) (by first | (exfalso; omega) | exact hp 1 (Or.inl ⟨rfl, hA2 (by omega)⟩) | exact hp 0 (Or.inr ⟨rfl, hA3 (by omega)⟩))
          · refine x_iconst dX12_isAskAhead_47 ?_
            refine x_goto 52 dX12_isAskAhead_48 (by decide) ?_
            exact x_zreturn (by omega) dX12_isAskAhead_52 rfl (by omega) (by omega) (by first | (exfalso; omega) | exact hp 1 (Or.inl ⟨rfl, hA2 (by omega)⟩) | exact hp 0 (Or.inr ⟨rfl, hA3 (by omega)⟩))
  · skip
    refine Call.of (by decide +kernel) (Nat.le_of_ble_eq_true rfl) ?_
    show WP _ _ _ _ _ 0 [(0, _)] [] 0 0 _ _ _
    refine x_aload_n dX12_isAskAhead_0 rfl ?_
    refine x_callV0 (mc1 := 0) (ms1 := 0) dX12_isAskAhead_1 cv_RX12_183 (ci := 12) (k_ob_306 cs) rfl (Nat.le_of_ble_eq_true rfl) (n1 := n - 1) (by omega) (by omega) (by omega) ?_
    refine sp_X12_openNow cs (by omega) hP hk hl ?_
    refine x_bipush dX12_isAskAhead_4 (by decide) ?_
    refine x_icmp_ne 51 dX12_isAskAhead_6 (by decide) ⟨(by omega), (by omega)⟩ (fun w6 => ?_) (fun w6 => ?_)
    · refine x_iconst dX12_isAskAhead_51 ?_
      exact x_zreturn (by omega) dX12_isAskAhead_52 rfl (by omega) (by omega) (hp 0 (Or.inr ⟨rfl, hA1 h42⟩))
    · exfalso; omega
theorem sp_isW {K N : Int} (cs : CS S R) (hK : (K, N) ∈ wTab) (hk : TkR I cu) (hp : ∀ r : Int, (r = 1 ∧ cu.2.2.1 = K ∨ r = 0 ∧ cu.2.2.1 ≠ K) → Post (some (.int (iI r))) S I R) : Call n 0 0 mX12_isWord [.ref (S.2.1 306), .long (lI N)] S I R Post := by
  obtain ⟨⟨a1, a2, a3, a4⟩, a5, a6, a7, a8, a9, a10⟩ := hk
  have hw := a10 (K, N) hK
  have hw2 : (I 306 9 = 2 ∧ I 306 11 = N) ↔ cu.2.2.1 = K := hw
  have hN : 0 ≤ N ∧ N < 281474976710656 := by
    have : ∀ e ∈ wTab, 0 ≤ e.2 ∧ e.2 < 281474976710656 := by decide
    exact this (K, N) hK
  refine Call.of (by decide +kernel) (Nat.le_of_ble_eq_true rfl) ?_
  show WP _ _ _ _ _ 0 [(0, _), (1, _)] [] 0 0 _ _ _
  refine x_aload_n dX12_isWord_0 rfl ?_
  refine x_getI dX12_isWord_1 gf_RX12_115 (k_ob_306 cs) (fun _ _ => rfl) ?_
  refine x_iconst dX12_isWord_4 ?_
  refine x_icmp_ne 21 dX12_isWord_5 (by decide) ⟨(by omega), (by omega)⟩ (fun w5 => ?_) (fun w5 => ?_)
  · refine x_iconst dX12_isWord_21 ?_
    exact x_zreturn (by omega) dX12_isWord_22 rfl (by omega) (by omega) (hp _ (by omega))
  · have a11 := a4 (by omega)
    refine x_aload_n dX12_isWord_8 rfl ?_
    refine x_getL dX12_isWord_9 gf_RX12_128 (k_ob_306 cs) (fun _ _ => rfl) ?_
    refine x_lload_n dX12_isWord_12 rfl ?_
    refine x_lcif_ne 21 dX12_isWord_13 dX12_isWord_14 (by decide) (by omega) (fun w13 => ?_) (fun w13 => ?_)
    · refine x_iconst dX12_isWord_21 ?_
      exact x_zreturn (by omega) dX12_isWord_22 rfl (by omega) (by omega) (hp _ (by omega))
    · refine x_iconst dX12_isWord_17 ?_
      refine x_goto 22 dX12_isWord_18 (by decide) ?_
      exact x_zreturn (by omega) dX12_isWord_22 rfl (by omega) (by omega) (hp _ (by omega))
theorem dX12_nameOf_0 : decode prog_14_method_36_code 0 = .ok (.aload_n 0, 1) := by decide +kernel
theorem dX12_nameOf_1 : decode prog_14_method_36_code 1 = .ok (.getfield 115, 3) := by decide +kernel
theorem dX12_nameOf_4 : decode prog_14_method_36_code 4 = .ok (.iconst 2, 1) := by decide +kernel
theorem dX12_nameOf_5 : decode prog_14_method_36_code 5 = .ok (.if_icmp .eq 5, 3) := by decide +kernel
theorem dX12_nameOf_8 : decode prog_14_method_36_code 8 = .ok (.iconst (-1), 1) := by decide +kernel
theorem dX12_nameOf_9 : decode prog_14_method_36_code 9 = .ok (.ireturn, 1) := by decide +kernel
theorem dX12_nameOf_10 : decode prog_14_method_36_code 10 = .ok (.aload_n 0, 1) := by decide +kernel
theorem dX12_nameOf_11 : decode prog_14_method_36_code 11 = .ok (.getfield 128, 3) := by decide +kernel
theorem dX12_nameOf_14 : decode prog_14_method_36_code 14 = .ok (.bipush 100, 2) := by decide +kernel
theorem dX12_nameOf_16 : decode prog_14_method_36_code 16 = .ok (.bipush 97, 2) := by decide +kernel
theorem dX12_nameOf_18 : decode prog_14_method_36_code 18 = .ok (.bipush 121, 2) := by decide +kernel
theorem dX12_nameOf_20 : decode prog_14_method_36_code 20 = .ok (.invokestatic 141, 3) := by decide +kernel
theorem dX12_nameOf_23 : decode prog_14_method_36_code 23 = .ok (.lcmp, 1) := by decide +kernel
theorem dX12_nameOf_24 : decode prog_14_method_36_code 24 = .ok (.ifCond .ne 5, 3) := by decide +kernel
theorem dX12_nameOf_27 : decode prog_14_method_36_code 27 = .ok (.iconst 0, 1) := by decide +kernel
theorem dX12_nameOf_28 : decode prog_14_method_36_code 28 = .ok (.ireturn, 1) := by decide +kernel
theorem dX12_nameOf_29 : decode prog_14_method_36_code 29 = .ok (.aload_n 0, 1) := by decide +kernel
theorem dX12_nameOf_30 : decode prog_14_method_36_code 30 = .ok (.getfield 128, 3) := by decide +kernel
theorem dX12_nameOf_33 : decode prog_14_method_36_code 33 = .ok (.bipush 114, 2) := by decide +kernel
theorem dX12_nameOf_35 : decode prog_14_method_36_code 35 = .ok (.bipush 97, 2) := by decide +kernel
theorem dX12_nameOf_37 : decode prog_14_method_36_code 37 = .ok (.bipush 105, 2) := by decide +kernel
theorem dX12_nameOf_39 : decode prog_14_method_36_code 39 = .ok (.bipush 110, 2) := by decide +kernel
theorem dX12_nameOf_41 : decode prog_14_method_36_code 41 = .ok (.invokestatic 145, 3) := by decide +kernel
theorem dX12_nameOf_44 : decode prog_14_method_36_code 44 = .ok (.lcmp, 1) := by decide +kernel
theorem dX12_nameOf_45 : decode prog_14_method_36_code 45 = .ok (.ifCond .ne 5, 3) := by decide +kernel
theorem dX12_nameOf_48 : decode prog_14_method_36_code 48 = .ok (.iconst 1, 1) := by decide +kernel
theorem dX12_nameOf_49 : decode prog_14_method_36_code 49 = .ok (.ireturn, 1) := by decide +kernel
theorem dX12_nameOf_50 : decode prog_14_method_36_code 50 = .ok (.aload_n 0, 1) := by decide +kernel
theorem dX12_nameOf_51 : decode prog_14_method_36_code 51 = .ok (.getfield 128, 3) := by decide +kernel
theorem dX12_nameOf_54 : decode prog_14_method_36_code 54 = .ok (.bipush 110, 2) := by decide +kernel
theorem dX12_nameOf_56 : decode prog_14_method_36_code 56 = .ok (.bipush 117, 2) := by decide +kernel
theorem dX12_nameOf_58 : decode prog_14_method_36_code 58 = .ok (.bipush 109, 2) := by decide +kernel
theorem dX12_nameOf_60 : decode prog_14_method_36_code 60 = .ok (.bipush 98, 2) := by decide +kernel
theorem dX12_nameOf_62 : decode prog_14_method_36_code 62 = .ok (.bipush 101, 2) := by decide +kernel
theorem dX12_nameOf_64 : decode prog_14_method_36_code 64 = .ok (.bipush 114, 2) := by decide +kernel
theorem dX12_nameOf_66 : decode prog_14_method_36_code 66 = .ok (.invokestatic 159, 3) := by decide +kernel
theorem dX12_nameOf_69 : decode prog_14_method_36_code 69 = .ok (.lcmp, 1) := by decide +kernel
theorem dX12_nameOf_70 : decode prog_14_method_36_code 70 = .ok (.ifCond .ne 5, 3) := by decide +kernel
theorem dX12_nameOf_73 : decode prog_14_method_36_code 73 = .ok (.iconst 2, 1) := by decide +kernel
theorem dX12_nameOf_74 : decode prog_14_method_36_code 74 = .ok (.ireturn, 1) := by decide +kernel
theorem dX12_nameOf_75 : decode prog_14_method_36_code 75 = .ok (.aload_n 0, 1) := by decide +kernel
theorem dX12_nameOf_76 : decode prog_14_method_36_code 76 = .ok (.getfield 128, 3) := by decide +kernel
theorem dX12_nameOf_79 : decode prog_14_method_36_code 79 = .ok (.bipush 119, 2) := by decide +kernel
theorem dX12_nameOf_81 : decode prog_14_method_36_code 81 = .ok (.bipush 111, 2) := by decide +kernel
theorem dX12_nameOf_83 : decode prog_14_method_36_code 83 = .ok (.bipush 114, 2) := by decide +kernel
theorem dX12_nameOf_85 : decode prog_14_method_36_code 85 = .ok (.bipush 116, 2) := by decide +kernel
theorem dX12_nameOf_87 : decode prog_14_method_36_code 87 = .ok (.bipush 104, 2) := by decide +kernel
theorem dX12_nameOf_89 : decode prog_14_method_36_code 89 = .ok (.invokestatic 149, 3) := by decide +kernel
theorem dX12_nameOf_92 : decode prog_14_method_36_code 92 = .ok (.lcmp, 1) := by decide +kernel
theorem dX12_nameOf_93 : decode prog_14_method_36_code 93 = .ok (.ifCond .ne 5, 3) := by decide +kernel
theorem dX12_nameOf_96 : decode prog_14_method_36_code 96 = .ok (.iconst 3, 1) := by decide +kernel
theorem dX12_nameOf_97 : decode prog_14_method_36_code 97 = .ok (.ireturn, 1) := by decide +kernel
theorem dX12_nameOf_98 : decode prog_14_method_36_code 98 = .ok (.aload_n 0, 1) := by decide +kernel
theorem dX12_nameOf_99 : decode prog_14_method_36_code 99 = .ok (.getfield 128, 3) := by decide +kernel
theorem dX12_nameOf_102 : decode prog_14_method_36_code 102 = .ok (.bipush 104, 2) := by decide +kernel
theorem dX12_nameOf_104 : decode prog_14_method_36_code 104 = .ok (.bipush 101, 2) := by decide +kernel
theorem dX12_nameOf_106 : decode prog_14_method_36_code 106 = .ok (.bipush 97, 2) := by decide +kernel
theorem dX12_nameOf_108 : decode prog_14_method_36_code 108 = .ok (.bipush 116, 2) := by decide +kernel
theorem dX12_nameOf_110 : decode prog_14_method_36_code 110 = .ok (.invokestatic 145, 3) := by decide +kernel
theorem dX12_nameOf_113 : decode prog_14_method_36_code 113 = .ok (.lcmp, 1) := by decide +kernel
theorem dX12_nameOf_114 : decode prog_14_method_36_code 114 = .ok (.ifCond .ne 5, 3) := by decide +kernel
theorem dX12_nameOf_117 : decode prog_14_method_36_code 117 = .ok (.iconst 4, 1) := by decide +kernel
theorem dX12_nameOf_118 : decode prog_14_method_36_code 118 = .ok (.ireturn, 1) := by decide +kernel
theorem dX12_nameOf_119 : decode prog_14_method_36_code 119 = .ok (.aload_n 0, 1) := by decide +kernel
theorem dX12_nameOf_120 : decode prog_14_method_36_code 120 = .ok (.getfield 128, 3) := by decide +kernel
theorem dX12_nameOf_123 : decode prog_14_method_36_code 123 = .ok (.bipush 104, 2) := by decide +kernel
theorem dX12_nameOf_125 : decode prog_14_method_36_code 125 = .ok (.bipush 101, 2) := by decide +kernel
theorem dX12_nameOf_127 : decode prog_14_method_36_code 127 = .ok (.bipush 108, 2) := by decide +kernel
theorem dX12_nameOf_129 : decode prog_14_method_36_code 129 = .ok (.bipush 100, 2) := by decide +kernel
theorem dX12_nameOf_131 : decode prog_14_method_36_code 131 = .ok (.invokestatic 145, 3) := by decide +kernel
theorem dX12_nameOf_134 : decode prog_14_method_36_code 134 = .ok (.lcmp, 1) := by decide +kernel
theorem dX12_nameOf_135 : decode prog_14_method_36_code 135 = .ok (.ifCond .ne 5, 3) := by decide +kernel
theorem dX12_nameOf_138 : decode prog_14_method_36_code 138 = .ok (.iconst 5, 1) := by decide +kernel
theorem dX12_nameOf_139 : decode prog_14_method_36_code 139 = .ok (.ireturn, 1) := by decide +kernel
theorem dX12_nameOf_140 : decode prog_14_method_36_code 140 = .ok (.aload_n 0, 1) := by decide +kernel
theorem dX12_nameOf_141 : decode prog_14_method_36_code 141 = .ok (.getfield 128, 3) := by decide +kernel
theorem dX12_nameOf_144 : decode prog_14_method_36_code 144 = .ok (.bipush 112, 2) := by decide +kernel
theorem dX12_nameOf_146 : decode prog_14_method_36_code 146 = .ok (.bipush 117, 2) := by decide +kernel
theorem dX12_nameOf_148 : decode prog_14_method_36_code 148 = .ok (.bipush 114, 2) := by decide +kernel
theorem dX12_nameOf_150 : decode prog_14_method_36_code 150 = .ok (.bipush 115, 2) := by decide +kernel
theorem dX12_nameOf_152 : decode prog_14_method_36_code 152 = .ok (.bipush 101, 2) := by decide +kernel
theorem dX12_nameOf_154 : decode prog_14_method_36_code 154 = .ok (.invokestatic 149, 3) := by decide +kernel
theorem dX12_nameOf_157 : decode prog_14_method_36_code 157 = .ok (.lcmp, 1) := by decide +kernel
theorem dX12_nameOf_158 : decode prog_14_method_36_code 158 = .ok (.ifCond .ne 8, 3) := by decide +kernel
theorem dX12_nameOf_161 : decode prog_14_method_36_code 161 = .ok (.bipush 6, 2) := by decide +kernel
theorem dX12_nameOf_163 : decode prog_14_method_36_code 163 = .ok (.goto 32, 3) := by decide +kernel
theorem dX12_nameOf_166 : decode prog_14_method_36_code 166 = .ok (.aload_n 0, 1) := by decide +kernel
theorem dX12_nameOf_167 : decode prog_14_method_36_code 167 = .ok (.getfield 128, 3) := by decide +kernel
theorem dX12_nameOf_170 : decode prog_14_method_36_code 170 = .ok (.bipush 112, 2) := by decide +kernel
theorem dX12_nameOf_172 : decode prog_14_method_36_code 172 = .ok (.bipush 97, 2) := by decide +kernel
theorem dX12_nameOf_174 : decode prog_14_method_36_code 174 = .ok (.bipush 119, 2) := by decide +kernel
theorem dX12_nameOf_176 : decode prog_14_method_36_code 176 = .ok (.bipush 110, 2) := by decide +kernel
theorem dX12_nameOf_178 : decode prog_14_method_36_code 178 = .ok (.bipush 101, 2) := by decide +kernel
theorem dX12_nameOf_180 : decode prog_14_method_36_code 180 = .ok (.bipush 100, 2) := by decide +kernel
theorem dX12_nameOf_182 : decode prog_14_method_36_code 182 = .ok (.invokestatic 159, 3) := by decide +kernel
theorem dX12_nameOf_185 : decode prog_14_method_36_code 185 = .ok (.lcmp, 1) := by decide +kernel
theorem dX12_nameOf_186 : decode prog_14_method_36_code 186 = .ok (.ifCond .ne 8, 3) := by decide +kernel
theorem dX12_nameOf_189 : decode prog_14_method_36_code 189 = .ok (.bipush 7, 2) := by decide +kernel
theorem dX12_nameOf_191 : decode prog_14_method_36_code 191 = .ok (.goto 4, 3) := by decide +kernel
theorem dX12_nameOf_194 : decode prog_14_method_36_code 194 = .ok (.iconst (-1), 1) := by decide +kernel
theorem dX12_nameOf_195 : decode prog_14_method_36_code 195 = .ok (.ireturn, 1) := by decide +kernel
theorem sp_X12_nameOf (cs : CS S R) (hn : 6 ≤ n) (hk : TkR I cu) (hb : 0 ≤ cu.2.2.1 ∧ cu.2.2.1 ≤ 151) (hp : ∀ r : Int, (r = cu.2.2.1 - 128 ∧ 128 ≤ cu.2.2.1 ∧ cu.2.2.1 < 136 ∨ r = -1 ∧ ¬ (128 ≤ cu.2.2.1 ∧ cu.2.2.1 < 136)) → Post (some (.int (iI r))) S I R) : Call n 0 0 mX12_nameOf [.ref (S.2.1 306)] S I R Post := by
  obtain ⟨⟨a1, a2, a3, a4⟩, a5, a6, a7, a8, a9, a10⟩ := hk
  have w0_ : (I 306 9 = 2 ∧ I 306 11 = 6578553) ↔ cu.2.2.1 = 128 := a10 (128, 6578553) (by decide)
  have w1_ : (I 306 9 = 2 ∧ I 306 11 = 1918986606) ↔ cu.2.2.1 = 129 := a10 (129, 1918986606) (by decide)
  have w2_ : (I 306 9 = 2 ∧ I 306 11 = 121450625394034) ↔ cu.2.2.1 = 130 := a10 (130, 121450625394034) (by decide)
  have w3_ : (I 306 9 = 2 ∧ I 306 11 = 512970880104) ↔ cu.2.2.1 = 131 := a10 (131, 512970880104) (by decide)
  have w4_ : (I 306 9 = 2 ∧ I 306 11 = 1751474548) ↔ cu.2.2.1 = 132 := a10 (132, 1751474548) (by decide)
  have w5_ : (I 306 9 = 2 ∧ I 306 11 = 1751477348) ↔ cu.2.2.1 = 133 := a10 (133, 1751477348) (by decide)
  have w6_ : (I 306 9 = 2 ∧ I 306 11 = 483006772069) ↔ cu.2.2.1 = 134 := a10 (134, 483006772069) (by decide)
  have w7_ : (I 306 9 = 2 ∧ I 306 11 = 123563917862244) ↔ cu.2.2.1 = 135 := a10 (135, 123563917862244) (by decide)
  refine Call.of (by decide +kernel) (Nat.le_of_ble_eq_true rfl) ?_
  show WP _ _ _ _ _ 0 [(0, _)] [] 0 0 _ _ _
  refine x_aload_n dX12_nameOf_0 rfl ?_
  refine x_getI dX12_nameOf_1 gf_RX12_115 (k_ob_306 cs) (fun _ _ => rfl) ?_
  refine x_iconst dX12_nameOf_4 ?_
  refine x_icmp_eq 10 dX12_nameOf_5 (by decide) ⟨(by omega), (by omega)⟩ (fun w5 => ?_) (fun w5 => ?_)
  · have a11 := a4 (by omega)
    refine x_aload_n dX12_nameOf_10 rfl ?_
    refine x_getL dX12_nameOf_11 gf_RX12_128 (k_ob_306 cs) (fun _ _ => rfl) ?_
    refine x_bipush dX12_nameOf_14 (by decide) ?_
    refine x_bipush dX12_nameOf_16 (by decide) ?_
    refine x_bipush dX12_nameOf_18 (by decide) ?_
    refine x_callS3 (mc1 := 0) (ms1 := 0) dX12_nameOf_20 cv_RX12_141 (Nat.le_of_ble_eq_true rfl) (n1 := n - 1) (by omega) (by omega) (by omega) ?_
    refine sp_X12_w3 (by omega) ?_ (by omega)
    refine x_lcif_ne 29 dX12_nameOf_23 dX12_nameOf_24 (by decide) (by omega) (fun w23 => ?_) (fun w23 => ?_)
    · refine x_aload_n dX12_nameOf_29 rfl ?_
      refine x_getL dX12_nameOf_30 gf_RX12_128 (k_ob_306 cs) (fun _ _ => rfl) ?_
      refine x_bipush dX12_nameOf_33 (by decide) ?_
      refine x_bipush dX12_nameOf_35 (by decide) ?_
      refine x_bipush dX12_nameOf_37 (by decide) ?_
      refine x_bipush dX12_nameOf_39 (by decide) ?_
      refine x_callS4 (mc1 := 0) (ms1 := 0) dX12_nameOf_41 cv_RX12_145 (Nat.le_of_ble_eq_true rfl) (n1 := n - 1) (by omega) (by omega) (by omega) ?_
      refine sp_X12_w4 (by omega) ?_ (by omega)
      refine x_lcif_ne 50 dX12_nameOf_44 dX12_nameOf_45 (by decide) (by omega) (fun w44 => ?_) (fun w44 => ?_)
      · refine x_aload_n dX12_nameOf_50 rfl ?_
        refine x_getL dX12_nameOf_51 gf_RX12_128 (k_ob_306 cs) (fun _ _ => rfl) ?_
        refine x_bipush dX12_nameOf_54 (by decide) ?_
        refine x_bipush dX12_nameOf_56 (by decide) ?_
        refine x_bipush dX12_nameOf_58 (by decide) ?_
        refine x_bipush dX12_nameOf_60 (by decide) ?_
        refine x_bipush dX12_nameOf_62 (by decide) ?_
        refine x_bipush dX12_nameOf_64 (by decide) ?_
        refine x_callS6 (mc1 := 0) (ms1 := 0) dX12_nameOf_66 cv_RX12_159 (Nat.le_of_ble_eq_true rfl) (n1 := n - 1) (by omega) (by omega) (by omega) ?_
        refine sp_X12_w6 (by omega) ?_ (by omega)
        refine x_lcif_ne 75 dX12_nameOf_69 dX12_nameOf_70 (by decide) (by omega) (fun w69 => ?_) (fun w69 => ?_)
        · refine x_aload_n dX12_nameOf_75 rfl ?_
          refine x_getL dX12_nameOf_76 gf_RX12_128 (k_ob_306 cs) (fun _ _ => rfl) ?_
          refine x_bipush dX12_nameOf_79 (by decide) ?_
          refine x_bipush dX12_nameOf_81 (by decide) ?_
          refine x_bipush dX12_nameOf_83 (by decide) ?_
          refine x_bipush dX12_nameOf_85 (by decide) ?_
          refine x_bipush dX12_nameOf_87 (by decide) ?_
          refine x_callS5 (mc1 := 0) (ms1 := 0) dX12_nameOf_89 cv_RX12_149 (Nat.le_of_ble_eq_true rfl) (n1 := n - 1) (by omega) (by omega) (by omega) ?_
          refine sp_X12_w5 (by omega) ?_ (by omega)
          refine x_lcif_ne 98 dX12_nameOf_92 dX12_nameOf_93 (by decide) (by omega) (fun w92 => ?_) (fun w92 => ?_)
          · refine x_aload_n dX12_nameOf_98 rfl ?_
            refine x_getL dX12_nameOf_99 gf_RX12_128 (k_ob_306 cs) (fun _ _ => rfl) ?_
            refine x_bipush dX12_nameOf_102 (by decide) ?_
            refine x_bipush dX12_nameOf_104 (by decide) ?_
            refine x_bipush dX12_nameOf_106 (by decide) ?_
            refine x_bipush dX12_nameOf_108 (by decide) ?_
            refine x_callS4 (mc1 := 0) (ms1 := 0) dX12_nameOf_110 cv_RX12_145 (Nat.le_of_ble_eq_true rfl) (n1 := n - 1) (by omega) (by omega) (by omega) ?_
            refine sp_X12_w4 (by omega) ?_ (by omega)
            refine x_lcif_ne 119 dX12_nameOf_113 dX12_nameOf_114 (by decide) (by omega) (fun w113 => ?_) (fun w113 => ?_)
            · refine x_aload_n dX12_nameOf_119 rfl ?_
              refine x_getL dX12_nameOf_120 gf_RX12_128 (k_ob_306 cs) (fun _ _ => rfl) ?_
              refine x_bipush dX12_nameOf_123 (by decide) ?_
              refine x_bipush dX12_nameOf_125 (by decide) ?_
              refine x_bipush dX12_nameOf_127 (by decide) ?_
              refine x_bipush dX12_nameOf_129 (by decide) ?_
              refine x_callS4 (mc1 := 0) (ms1 := 0) dX12_nameOf_131 cv_RX12_145 (Nat.le_of_ble_eq_true rfl) (n1 := n - 1) (by omega) (by omega) (by omega) ?_
              refine sp_X12_w4 (by omega) ?_ (by omega)
              refine x_lcif_ne 140 dX12_nameOf_134 dX12_nameOf_135 (by decide) (by omega) (fun w134 => ?_) (fun w134 => ?_)
              · refine x_aload_n dX12_nameOf_140 rfl ?_
                refine x_getL dX12_nameOf_141 gf_RX12_128 (k_ob_306 cs) (fun _ _ => rfl) ?_
                refine x_bipush dX12_nameOf_144 (by decide) ?_
                refine x_bipush dX12_nameOf_146 (by decide) ?_
                refine x_bipush dX12_nameOf_148 (by decide) ?_
                refine x_bipush dX12_nameOf_150 (by decide) ?_
                refine x_bipush dX12_nameOf_152 (by decide) ?_
                refine x_callS5 (mc1 := 0) (ms1 := 0) dX12_nameOf_154 cv_RX12_149 (Nat.le_of_ble_eq_true rfl) (n1 := n - 1) (by omega) (by omega) (by omega) ?_
                refine sp_X12_w5 (by omega) ?_ (by omega)
                refine x_lcif_ne 166 dX12_nameOf_157 dX12_nameOf_158 (by decide) (by omega) (fun w157 => ?_) (fun w157 => ?_)
                · refine x_aload_n dX12_nameOf_166 rfl ?_
                  refine x_getL dX12_nameOf_167 gf_RX12_128 (k_ob_306 cs) (fun _ _ => rfl) ?_
                  refine x_bipush dX12_nameOf_170 (by decide) ?_
                  refine x_bipush dX12_nameOf_172 (by decide) ?_
                  refine x_bipush dX12_nameOf_174 (by decide) ?_
                  refine x_bipush dX12_nameOf_176 (by decide) ?_
                  refine x_bipush dX12_nameOf_178 (by decide) ?_
                  refine x_bipush dX12_nameOf_180 (by decide) ?_
                  refine x_callS6 (mc1 := 0) (ms1 := 0) dX12_nameOf_182 cv_RX12_159 (Nat.le_of_ble_eq_true rfl) (n1 := n - 1) (by omega) (by omega) (by omega) ?_
                  refine sp_X12_w6 (by omega) ?_ (by omega)
                  refine x_lcif_ne 194 dX12_nameOf_185 dX12_nameOf_186 (by decide) (by omega) (fun w185 => ?_) (fun w185 => ?_)
                  · refine x_iconst dX12_nameOf_194 ?_
                    exact x_ireturn dX12_nameOf_195 rfl (by omega) (by omega) (hp _ (by omega))
                  · refine x_bipush dX12_nameOf_189 (by decide) ?_
                    refine x_goto 195 dX12_nameOf_191 (by decide) ?_
                    exact x_ireturn dX12_nameOf_195 rfl (by omega) (by omega) (hp _ (by omega))
                · refine x_bipush dX12_nameOf_161 (by decide) ?_
                  refine x_goto 195 dX12_nameOf_163 (by decide) ?_
                  exact x_ireturn dX12_nameOf_195 rfl (by omega) (by omega) (hp _ (by omega))
              · refine x_iconst dX12_nameOf_138 ?_
                exact x_ireturn dX12_nameOf_139 rfl (by omega) (by omega) (hp _ (by omega))
            · refine x_iconst dX12_nameOf_117 ?_
              exact x_ireturn dX12_nameOf_118 rfl (by omega) (by omega) (hp _ (by omega))
          · refine x_iconst dX12_nameOf_96 ?_
            exact x_ireturn dX12_nameOf_97 rfl (by omega) (by omega) (hp _ (by omega))
        · refine x_iconst dX12_nameOf_73 ?_
          exact x_ireturn dX12_nameOf_74 rfl (by omega) (by omega) (hp _ (by omega))
      · refine x_iconst dX12_nameOf_48 ?_
        exact x_ireturn dX12_nameOf_49 rfl (by omega) (by omega) (hp _ (by omega))
    · refine x_iconst dX12_nameOf_27 ?_
      exact x_ireturn dX12_nameOf_28 rfl (by omega) (by omega) (hp _ (by omega))
  · refine x_iconst dX12_nameOf_8 ?_
    exact x_ireturn dX12_nameOf_9 rfl (by omega) (by omega) (hp _ (by omega))
theorem dX12_isOf_0 : decode prog_14_method_37_code 0 = .ok (.iload_n 1, 1) := by decide +kernel
theorem dX12_isOf_1 : decode prog_14_method_37_code 1 = .ok (.bipush 6, 2) := by decide +kernel
theorem dX12_isOf_3 : decode prog_14_method_37_code 3 = .ok (.if_icmp .lt 27, 3) := by decide +kernel
theorem dX12_isOf_6 : decode prog_14_method_37_code 6 = .ok (.iload_n 1, 1) := by decide +kernel
theorem dX12_isOf_7 : decode prog_14_method_37_code 7 = .ok (.bipush 6, 2) := by decide +kernel
theorem dX12_isOf_9 : decode prog_14_method_37_code 9 = .ok (.if_icmp .ne 13, 3) := by decide +kernel
theorem dX12_isOf_12 : decode prog_14_method_37_code 12 = .ok (.aload_n 0, 1) := by decide +kernel
theorem dX12_isOf_13 : decode prog_14_method_37_code 13 = .ok (.getfield 163, 3) := by decide +kernel
theorem dX12_isOf_16 : decode prog_14_method_37_code 16 = .ok (.ifCond .ne 18, 3) := by decide +kernel
theorem dX12_isOf_19 : decode prog_14_method_37_code 19 = .ok (.goto 11, 3) := by decide +kernel
theorem dX12_isOf_22 : decode prog_14_method_37_code 22 = .ok (.aload_n 0, 1) := by decide +kernel
theorem dX12_isOf_23 : decode prog_14_method_37_code 23 = .ok (.getfield 163, 3) := by decide +kernel
theorem dX12_isOf_26 : decode prog_14_method_37_code 26 = .ok (.iconst 1, 1) := by decide +kernel
theorem dX12_isOf_27 : decode prog_14_method_37_code 27 = .ok (.if_icmp .ne 7, 3) := by decide +kernel
theorem dX12_isOf_30 : decode prog_14_method_37_code 30 = .ok (.iconst 1, 1) := by decide +kernel
theorem dX12_isOf_31 : decode prog_14_method_37_code 31 = .ok (.goto 4, 3) := by decide +kernel
theorem dX12_isOf_34 : decode prog_14_method_37_code 34 = .ok (.iconst 0, 1) := by decide +kernel
theorem dX12_isOf_35 : decode prog_14_method_37_code 35 = .ok (.ireturn, 1) := by decide +kernel
theorem sp_X12_isOf {x : Int} {sl : Bool} (cs : CS S R) (hx : 0 ≤ x ∧ x ≤ 7) (hs : (I 306 14 = 1 ∧ sl = true) ∨ (I 306 14 = 0 ∧ sl = false)) (hp : ∀ r : Int, (r = 1 ∧ ¬ ((x = 6 ∧ sl = true) ∨ (x = 7 ∧ sl = false)) ∨ r = 0 ∧ ((x = 6 ∧ sl = true) ∨ (x = 7 ∧ sl = false))) → Post (some (.int (iI r))) S I R) : Call n 0 0 mX12_isOf [.ref (S.2.1 306), .int (iI x)] S I R Post := by
  refine Call.of (by decide +kernel) (Nat.le_of_ble_eq_true rfl) ?_
  show WP _ _ _ _ _ 0 [(0, _), (1, _)] [] 0 0 _ _ _
  refine x_iload_n dX12_isOf_0 rfl ?_
  refine x_bipush dX12_isOf_1 (by decide) ?_
  refine x_icmp_lt 30 dX12_isOf_3 (by decide) ⟨(by omega), (by omega)⟩ (fun w3 => ?_) (fun w3 => ?_)
  · refine x_iconst dX12_isOf_30 ?_
    refine x_goto 35 dX12_isOf_31 (by decide) ?_
    exact x_zreturn (by omega) dX12_isOf_35 rfl (by omega) (by omega) (by
  rcases hs with ⟨s1, s2⟩ | ⟨s1, s2⟩ <;> subst s2 <;> first
  | (exfalso; omega)
  | exact hp 1 (Or.inl ⟨rfl, by simp; omega⟩)
  | exact hp 0 (Or.inr ⟨rfl, by simp; omega⟩))
  · refine x_iload_n dX12_isOf_6 rfl ?_
    refine x_bipush dX12_isOf_7 (by decide) ?_
    refine x_icmp_ne 22 dX12_isOf_9 (by decide) ⟨(by omega), (by omega)⟩ (fun w9 => ?_) (fun w9 => ?_)
    · refine x_aload_n dX12_isOf_22 rfl ?_
      refine x_getI dX12_isOf_23 gf_RX12_163 (k_ob_306 cs) (fun _ _ => rfl) ?_
      refine x_iconst dX12_isOf_26 ?_
      refine x_icmp_ne 34 dX12_isOf_27 (by decide) ⟨(by omega), (by omega)⟩ (fun w27 => ?_) (fun w27 => ?_)
      · refine x_iconst dX12_isOf_34 ?_
        exact x_zreturn (by omega) dX12_isOf_35 rfl (by omega) (by omega) (by
  rcases hs with ⟨s1, s2⟩ | ⟨s1, s2⟩ <;> subst s2 <;> first
  | (exfalso; omega)
  | exact hp 1 (Or.inl ⟨rfl, by simp; omega⟩)
  | exact hp 0 (Or.inr ⟨rfl, by simp; omega⟩))
      · refine x_iconst dX12_isOf_30 ?_
        refine x_goto 35 dX12_isOf_31 (by decide) ?_
        exact x_zreturn (by omega) dX12_isOf_35 rfl (by omega) (by omega) (by
  rcases hs with ⟨s1, s2⟩ | ⟨s1, s2⟩ <;> subst s2 <;> first
  | (exfalso; omega)
  | exact hp 1 (Or.inl ⟨rfl, by simp; omega⟩)
  | exact hp 0 (Or.inr ⟨rfl, by simp; omega⟩))
    · refine x_aload_n dX12_isOf_12 rfl ?_
      refine x_getI dX12_isOf_13 gf_RX12_163 (k_ob_306 cs) (fun _ _ => rfl) ?_
      refine x_if_ne 34 dX12_isOf_16 (by decide) (by omega) (fun w16 => ?_) (fun w16 => ?_)
      · refine x_iconst dX12_isOf_34 ?_
        exact x_zreturn (by omega) dX12_isOf_35 rfl (by omega) (by omega) (by
  rcases hs with ⟨s1, s2⟩ | ⟨s1, s2⟩ <;> subst s2 <;> first
  | (exfalso; omega)
  | exact hp 1 (Or.inl ⟨rfl, by simp; omega⟩)
  | exact hp 0 (Or.inr ⟨rfl, by simp; omega⟩))
      · refine x_goto 30 dX12_isOf_19 (by decide) ?_
        refine x_iconst dX12_isOf_30 ?_
        refine x_goto 35 dX12_isOf_31 (by decide) ?_
        exact x_zreturn (by omega) dX12_isOf_35 rfl (by omega) (by omega) (by
  rcases hs with ⟨s1, s2⟩ | ⟨s1, s2⟩ <;> subst s2 <;> first
  | (exfalso; omega)
  | exact hp 1 (Or.inl ⟨rfl, by simp; omega⟩)
  | exact hp 0 (Or.inr ⟨rfl, by simp; omega⟩))
theorem dX12_compareOf_0 : decode prog_14_method_47_code 0 = .ok (.aload_n 0, 1) := by decide +kernel
theorem dX12_compareOf_1 : decode prog_14_method_47_code 1 = .ok (.getfield 115, 3) := by decide +kernel
theorem dX12_compareOf_4 : decode prog_14_method_47_code 4 = .ok (.bipush 60, 2) := by decide +kernel
theorem dX12_compareOf_6 : decode prog_14_method_47_code 6 = .ok (.if_icmp .ne 8, 3) := by decide +kernel
theorem dX12_compareOf_9 : decode prog_14_method_47_code 9 = .ok (.bipush 10, 2) := by decide +kernel
theorem dX12_compareOf_11 : decode prog_14_method_47_code 11 = .ok (.goto 72, 3) := by decide +kernel
theorem dX12_compareOf_14 : decode prog_14_method_47_code 14 = .ok (.aload_n 0, 1) := by decide +kernel
theorem dX12_compareOf_15 : decode prog_14_method_47_code 15 = .ok (.getfield 115, 3) := by decide +kernel
theorem dX12_compareOf_18 : decode prog_14_method_47_code 18 = .ok (.iconst 4, 1) := by decide +kernel
theorem dX12_compareOf_19 : decode prog_14_method_47_code 19 = .ok (.if_icmp .ne 8, 3) := by decide +kernel
theorem dX12_compareOf_22 : decode prog_14_method_47_code 22 = .ok (.bipush 11, 2) := by decide +kernel
theorem dX12_compareOf_24 : decode prog_14_method_47_code 24 = .ok (.goto 59, 3) := by decide +kernel
theorem dX12_compareOf_27 : decode prog_14_method_47_code 27 = .ok (.aload_n 0, 1) := by decide +kernel
theorem dX12_compareOf_28 : decode prog_14_method_47_code 28 = .ok (.getfield 115, 3) := by decide +kernel
theorem dX12_compareOf_31 : decode prog_14_method_47_code 31 = .ok (.bipush 62, 2) := by decide +kernel
theorem dX12_compareOf_33 : decode prog_14_method_47_code 33 = .ok (.if_icmp .ne 8, 3) := by decide +kernel
theorem dX12_compareOf_36 : decode prog_14_method_47_code 36 = .ok (.bipush 12, 2) := by decide +kernel
theorem dX12_compareOf_38 : decode prog_14_method_47_code 38 = .ok (.goto 45, 3) := by decide +kernel
theorem dX12_compareOf_41 : decode prog_14_method_47_code 41 = .ok (.aload_n 0, 1) := by decide +kernel
theorem dX12_compareOf_42 : decode prog_14_method_47_code 42 = .ok (.getfield 115, 3) := by decide +kernel
theorem dX12_compareOf_45 : decode prog_14_method_47_code 45 = .ok (.iconst 5, 1) := by decide +kernel
theorem dX12_compareOf_46 : decode prog_14_method_47_code 46 = .ok (.if_icmp .ne 8, 3) := by decide +kernel
theorem dX12_compareOf_49 : decode prog_14_method_47_code 49 = .ok (.bipush 13, 2) := by decide +kernel
theorem dX12_compareOf_51 : decode prog_14_method_47_code 51 = .ok (.goto 32, 3) := by decide +kernel
theorem dX12_compareOf_54 : decode prog_14_method_47_code 54 = .ok (.aload_n 0, 1) := by decide +kernel
theorem dX12_compareOf_55 : decode prog_14_method_47_code 55 = .ok (.getfield 115, 3) := by decide +kernel
theorem dX12_compareOf_58 : decode prog_14_method_47_code 58 = .ok (.bipush 61, 2) := by decide +kernel
theorem dX12_compareOf_60 : decode prog_14_method_47_code 60 = .ok (.if_icmp .ne 8, 3) := by decide +kernel
theorem dX12_compareOf_63 : decode prog_14_method_47_code 63 = .ok (.bipush 14, 2) := by decide +kernel
theorem dX12_compareOf_65 : decode prog_14_method_47_code 65 = .ok (.goto 18, 3) := by decide +kernel
theorem dX12_compareOf_68 : decode prog_14_method_47_code 68 = .ok (.aload_n 0, 1) := by decide +kernel
theorem dX12_compareOf_69 : decode prog_14_method_47_code 69 = .ok (.getfield 115, 3) := by decide +kernel
theorem dX12_compareOf_72 : decode prog_14_method_47_code 72 = .ok (.bipush 35, 2) := by decide +kernel
theorem dX12_compareOf_74 : decode prog_14_method_47_code 74 = .ok (.if_icmp .ne 8, 3) := by decide +kernel
theorem dX12_compareOf_77 : decode prog_14_method_47_code 77 = .ok (.bipush 15, 2) := by decide +kernel
theorem dX12_compareOf_79 : decode prog_14_method_47_code 79 = .ok (.goto 4, 3) := by decide +kernel
theorem dX12_compareOf_82 : decode prog_14_method_47_code 82 = .ok (.iconst (-1), 1) := by decide +kernel
theorem dX12_compareOf_83 : decode prog_14_method_47_code 83 = .ok (.ireturn, 1) := by decide +kernel
theorem sp_X12_compareOf (cs : CS S R) (hk : TkR I cu) (hp : Post (some (.int (iI (cmpO cu.2.2.1)))) S I R) : Call n 0 0 mX12_compareOf [.ref (S.2.1 306)] S I R Post := by
  obtain ⟨⟨a1, a2, a3, a4⟩, a5, a6, a7, a8, a9, a10⟩ := hk
  have b1 := a7 60 (by omega)
  have b2 := a7 62 (by omega)
  have b3 := a7 61 (by omega)
  have b4 := a7 35 (by omega)
  have e : ∀ z : Int, cmpO cu.2.2.1 = z → Post (some (.int (iI z))) S I R := fun z hz => by rw [← hz]; exact hp
  refine Call.of (by decide +kernel) (Nat.le_of_ble_eq_true rfl) ?_
  show WP _ _ _ _ _ 0 [(0, _)] [] 0 0 _ _ _
  refine x_aload_n dX12_compareOf_0 rfl ?_
  refine x_getI dX12_compareOf_1 gf_RX12_115 (k_ob_306 cs) (fun _ _ => rfl) ?_
  refine x_bipush dX12_compareOf_4 (by decide) ?_
  refine x_icmp_ne 14 dX12_compareOf_6 (by decide) ⟨(by omega), (by omega)⟩ (fun w6 => ?_) (fun w6 => ?_)
  · refine x_aload_n dX12_compareOf_14 rfl ?_
    refine x_getI dX12_compareOf_15 gf_RX12_115 (k_ob_306 cs) (fun _ _ => rfl) ?_
    refine x_iconst dX12_compareOf_18 ?_
    refine x_icmp_ne 27 dX12_compareOf_19 (by decide) ⟨(by omega), (by omega)⟩ (fun w19 => ?_) (fun w19 => ?_)
    · refine x_aload_n dX12_compareOf_27 rfl ?_
      refine x_getI dX12_compareOf_28 gf_RX12_115 (k_ob_306 cs) (fun _ _ => rfl) ?_
      refine x_bipush dX12_compareOf_31 (by decide) ?_
      refine x_icmp_ne 41 dX12_compareOf_33 (by decide) ⟨(by omega), (by omega)⟩ (fun w33 => ?_) (fun w33 => ?_)
      · refine x_aload_n dX12_compareOf_41 rfl ?_
        refine x_getI dX12_compareOf_42 gf_RX12_115 (k_ob_306 cs) (fun _ _ => rfl) ?_
        refine x_iconst dX12_compareOf_45 ?_
        refine x_icmp_ne 54 dX12_compareOf_46 (by decide) ⟨(by omega), (by omega)⟩ (fun w46 => ?_) (fun w46 => ?_)
        · refine x_aload_n dX12_compareOf_54 rfl ?_
          refine x_getI dX12_compareOf_55 gf_RX12_115 (k_ob_306 cs) (fun _ _ => rfl) ?_
          refine x_bipush dX12_compareOf_58 (by decide) ?_
          refine x_icmp_ne 68 dX12_compareOf_60 (by decide) ⟨(by omega), (by omega)⟩ (fun w60 => ?_) (fun w60 => ?_)
          · refine x_aload_n dX12_compareOf_68 rfl ?_
            refine x_getI dX12_compareOf_69 gf_RX12_115 (k_ob_306 cs) (fun _ _ => rfl) ?_
            refine x_bipush dX12_compareOf_72 (by decide) ?_
            refine x_icmp_ne 82 dX12_compareOf_74 (by decide) ⟨(by omega), (by omega)⟩ (fun w74 => ?_) (fun w74 => ?_)
            · refine x_iconst dX12_compareOf_82 ?_
              exact x_ireturn dX12_compareOf_83 rfl (by omega) (by omega) (by
  refine e _ ?_
  unfold cmpO
  first
  | rw [if_pos (by omega)]
  | rw [if_neg (by omega), if_pos (by omega)]
  | rw [if_neg (by omega), if_neg (by omega), if_pos (by omega)]
  | rw [if_neg (by omega), if_neg (by omega), if_neg (by omega), if_pos (by omega)]
  | rw [if_neg (by omega), if_neg (by omega), if_neg (by omega), if_neg (by omega), if_pos (by omega)]
  | rw [if_neg (by omega), if_neg (by omega), if_neg (by omega), if_neg (by omega), if_neg (by omega), if_pos (by omega)]
  | rw [if_neg (by omega), if_neg (by omega), if_neg (by omega), if_neg (by omega), if_neg (by omega), if_neg (by omega)])
            · refine x_bipush dX12_compareOf_77 (by decide) ?_
              refine x_goto 83 dX12_compareOf_79 (by decide) ?_
              exact x_ireturn dX12_compareOf_83 rfl (by omega) (by omega) (by
  refine e _ ?_
  unfold cmpO
  first
  | rw [if_pos (by omega)]
  | rw [if_neg (by omega), if_pos (by omega)]
  | rw [if_neg (by omega), if_neg (by omega), if_pos (by omega)]
  | rw [if_neg (by omega), if_neg (by omega), if_neg (by omega), if_pos (by omega)]
  | rw [if_neg (by omega), if_neg (by omega), if_neg (by omega), if_neg (by omega), if_pos (by omega)]
  | rw [if_neg (by omega), if_neg (by omega), if_neg (by omega), if_neg (by omega), if_neg (by omega), if_pos (by omega)]
  | rw [if_neg (by omega), if_neg (by omega), if_neg (by omega), if_neg (by omega), if_neg (by omega), if_neg (by omega)])
          · refine x_bipush dX12_compareOf_63 (by decide) ?_
            refine x_goto 83 dX12_compareOf_65 (by decide) ?_
            exact x_ireturn dX12_compareOf_83 rfl (by omega) (by omega) (by
  refine e _ ?_
  unfold cmpO
  first
  | rw [if_pos (by omega)]
  | rw [if_neg (by omega), if_pos (by omega)]
  | rw [if_neg (by omega), if_neg (by omega), if_pos (by omega)]
  | rw [if_neg (by omega), if_neg (by omega), if_neg (by omega), if_pos (by omega)]
  | rw [if_neg (by omega), if_neg (by omega), if_neg (by omega), if_neg (by omega), if_pos (by omega)]
  | rw [if_neg (by omega), if_neg (by omega), if_neg (by omega), if_neg (by omega), if_neg (by omega), if_pos (by omega)]
  | rw [if_neg (by omega), if_neg (by omega), if_neg (by omega), if_neg (by omega), if_neg (by omega), if_neg (by omega)])
        · refine x_bipush dX12_compareOf_49 (by decide) ?_
          refine x_goto 83 dX12_compareOf_51 (by decide) ?_
          exact x_ireturn dX12_compareOf_83 rfl (by omega) (by omega) (by
  refine e _ ?_
  unfold cmpO
  first
  | rw [if_pos (by omega)]
  | rw [if_neg (by omega), if_pos (by omega)]
  | rw [if_neg (by omega), if_neg (by omega), if_pos (by omega)]
  | rw [if_neg (by omega), if_neg (by omega), if_neg (by omega), if_pos (by omega)]
  | rw [if_neg (by omega), if_neg (by omega), if_neg (by omega), if_neg (by omega), if_pos (by omega)]
  | rw [if_neg (by omega), if_neg (by omega), if_neg (by omega), if_neg (by omega), if_neg (by omega), if_pos (by omega)]
  | rw [if_neg (by omega), if_neg (by omega), if_neg (by omega), if_neg (by omega), if_neg (by omega), if_neg (by omega)])
      · refine x_bipush dX12_compareOf_36 (by decide) ?_
        refine x_goto 83 dX12_compareOf_38 (by decide) ?_
        exact x_ireturn dX12_compareOf_83 rfl (by omega) (by omega) (by
  refine e _ ?_
  unfold cmpO
  first
  | rw [if_pos (by omega)]
  | rw [if_neg (by omega), if_pos (by omega)]
  | rw [if_neg (by omega), if_neg (by omega), if_pos (by omega)]
  | rw [if_neg (by omega), if_neg (by omega), if_neg (by omega), if_pos (by omega)]
  | rw [if_neg (by omega), if_neg (by omega), if_neg (by omega), if_neg (by omega), if_pos (by omega)]
  | rw [if_neg (by omega), if_neg (by omega), if_neg (by omega), if_neg (by omega), if_neg (by omega), if_pos (by omega)]
  | rw [if_neg (by omega), if_neg (by omega), if_neg (by omega), if_neg (by omega), if_neg (by omega), if_neg (by omega)])
    · refine x_bipush dX12_compareOf_22 (by decide) ?_
      refine x_goto 83 dX12_compareOf_24 (by decide) ?_
      exact x_ireturn dX12_compareOf_83 rfl (by omega) (by omega) (by
  refine e _ ?_
  unfold cmpO
  first
  | rw [if_pos (by omega)]
  | rw [if_neg (by omega), if_pos (by omega)]
  | rw [if_neg (by omega), if_neg (by omega), if_pos (by omega)]
  | rw [if_neg (by omega), if_neg (by omega), if_neg (by omega), if_pos (by omega)]
  | rw [if_neg (by omega), if_neg (by omega), if_neg (by omega), if_neg (by omega), if_pos (by omega)]
  | rw [if_neg (by omega), if_neg (by omega), if_neg (by omega), if_neg (by omega), if_neg (by omega), if_pos (by omega)]
  | rw [if_neg (by omega), if_neg (by omega), if_neg (by omega), if_neg (by omega), if_neg (by omega), if_neg (by omega)])
  · refine x_bipush dX12_compareOf_9 (by decide) ?_
    refine x_goto 83 dX12_compareOf_11 (by decide) ?_
    exact x_ireturn dX12_compareOf_83 rfl (by omega) (by omega) (by
  refine e _ ?_
  unfold cmpO
  first
  | rw [if_pos (by omega)]
  | rw [if_neg (by omega), if_pos (by omega)]
  | rw [if_neg (by omega), if_neg (by omega), if_pos (by omega)]
  | rw [if_neg (by omega), if_neg (by omega), if_neg (by omega), if_pos (by omega)]
  | rw [if_neg (by omega), if_neg (by omega), if_neg (by omega), if_neg (by omega), if_pos (by omega)]
  | rw [if_neg (by omega), if_neg (by omega), if_neg (by omega), if_neg (by omega), if_neg (by omega), if_pos (by omega)]
  | rw [if_neg (by omega), if_neg (by omega), if_neg (by omega), if_neg (by omega), if_neg (by omega), if_neg (by omega)])
end Rm2s
