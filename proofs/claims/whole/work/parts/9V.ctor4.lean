section Ctor4
variable {n mc ms : Nat} {M : Md} {pc : Nat} {lv : List (Nat × Value)} {st : List Value} {k j : Nat} {Post : PT} {S : Sh} {I : CI} {R : CR} {A : Nat → Int} {tx : Nat → Nat → Int}
def CSc (S : Sh) (R : CR) : Prop := WS S R 1 ∧ WS S R 140
theorem kc_ob_1 (h : CSc S R) : OB S 1 10 := h.1.1
theorem kc_r_1_0 (h : CSc S R) : R 1 0 = some 2 := h.1.2.1.1
theorem kc_r_1_1 (h : CSc S R) : R 1 1 = some 3 := h.1.2.1.2.1
theorem kc_r_1_2 (h : CSc S R) : R 1 2 = some 4 := h.1.2.1.2.2.1
theorem kc_r_1_3 (h : CSc S R) : R 1 3 = some 5 := h.1.2.1.2.2.2.1
theorem kc_r_1_4 (h : CSc S R) : R 1 4 = some 6 := h.1.2.1.2.2.2.2.1
theorem kc_r_1_5 (h : CSc S R) : R 1 5 = some 10 := h.1.2.1.2.2.2.2.2.1
theorem kc_r_1_6 (h : CSc S R) : R 1 6 = some 11 := h.1.2.1.2.2.2.2.2.2.1
theorem kc_r_1_7 (h : CSc S R) : R 1 7 = some 12 := h.1.2.1.2.2.2.2.2.2.2.1
theorem kc_r_1_8 (h : CSc S R) : R 1 8 = some 13 := h.1.2.1.2.2.2.2.2.2.2.2
theorem kc_ar_2 (h : CSc S R) : AR S 2 13 8 := h.1.2.2.1.1
theorem kc_ar_3 (h : CSc S R) : AR S 3 13 8 := h.1.2.2.1.2.1
theorem kc_ar_4 (h : CSc S R) : AR S 4 13 8 := h.1.2.2.1.2.2.1
theorem kc_ar_5 (h : CSc S R) : AR S 5 13 8 := h.1.2.2.1.2.2.2.1
theorem kc_st_6 (h : CSc S R) : ST S R 6 := h.1.2.2.1.2.2.2.2.1
theorem kc_ob_6 (h : CSc S R) : OB S 6 6 := h.1.2.2.1.2.2.2.2.1.1
theorem kc_ar_10 (h : CSc S R) : AR S 10 16 30 := h.1.2.2.1.2.2.2.2.2.1
theorem kc_ar_11 (h : CSc S R) : AR S 11 13 120 := h.1.2.2.1.2.2.2.2.2.2.1
theorem kc_ar_12 (h : CSc S R) : AR S 12 17 4 := h.1.2.2.1.2.2.2.2.2.2.2.1
theorem kc_ob_13 (h : CSc S R) : OB S 13 9 := h.1.2.2.1.2.2.2.2.2.2.2.2.1
theorem kc_r_13_0 (h : CSc S R) : R 13 0 = some 14 := h.1.2.2.1.2.2.2.2.2.2.2.2.2.1.1
theorem kc_ar_14 (h : CSc S R) : AR S 14 13 4 := h.1.2.2.1.2.2.2.2.2.2.2.2.2.2.1
theorem kc_r_13_1 (h : CSc S R) : R 13 1 = some 15 := h.1.2.2.1.2.2.2.2.2.2.2.2.2.1.2.1
theorem kc_ar_15 (h : CSc S R) : AR S 15 13 6 := h.1.2.2.1.2.2.2.2.2.2.2.2.2.2.2.1
theorem kc_r_13_2 (h : CSc S R) : R 13 2 = some 16 := h.1.2.2.1.2.2.2.2.2.2.2.2.2.1.2.2.1
theorem kc_ar_16 (h : CSc S R) : AR S 16 13 10 := h.1.2.2.1.2.2.2.2.2.2.2.2.2.2.2.2.1
theorem kc_r_13_3 (h : CSc S R) : R 13 3 = some 17 := h.1.2.2.1.2.2.2.2.2.2.2.2.2.1.2.2.2.1
theorem kc_ar_17 (h : CSc S R) : AR S 17 13 10 := h.1.2.2.1.2.2.2.2.2.2.2.2.2.2.2.2.2.1
theorem kc_r_13_4 (h : CSc S R) : R 13 4 = some 18 := h.1.2.2.1.2.2.2.2.2.2.2.2.2.1.2.2.2.2.1
theorem kc_ar_18 (h : CSc S R) : AR S 18 13 8 := h.1.2.2.1.2.2.2.2.2.2.2.2.2.2.2.2.2.2.1
theorem kc_r_13_5 (h : CSc S R) : R 13 5 = some 19 := h.1.2.2.1.2.2.2.2.2.2.2.2.2.1.2.2.2.2.2
theorem kc_ar_19 (h : CSc S R) : AR S 19 13 8 := h.1.2.2.1.2.2.2.2.2.2.2.2.2.2.2.2.2.2.2
theorem kc_ob_140 (h : CSc S R) : OB S 140 10 := h.2.1
theorem kc_r_140_0 (h : CSc S R) : R 140 0 = some 141 := h.2.2.1.1
theorem kc_r_140_1 (h : CSc S R) : R 140 1 = some 142 := h.2.2.1.2.1
theorem kc_r_140_2 (h : CSc S R) : R 140 2 = some 143 := h.2.2.1.2.2.1
theorem kc_r_140_3 (h : CSc S R) : R 140 3 = some 144 := h.2.2.1.2.2.2.1
theorem kc_r_140_4 (h : CSc S R) : R 140 4 = some 145 := h.2.2.1.2.2.2.2.1
theorem kc_r_140_5 (h : CSc S R) : R 140 5 = some 149 := h.2.2.1.2.2.2.2.2.1
theorem kc_r_140_6 (h : CSc S R) : R 140 6 = some 150 := h.2.2.1.2.2.2.2.2.2.1
theorem kc_r_140_7 (h : CSc S R) : R 140 7 = some 151 := h.2.2.1.2.2.2.2.2.2.2.1
theorem kc_r_140_8 (h : CSc S R) : R 140 8 = some 152 := h.2.2.1.2.2.2.2.2.2.2.2
theorem kc_ar_141 (h : CSc S R) : AR S 141 13 8 := h.2.2.2.1.1
theorem kc_ar_142 (h : CSc S R) : AR S 142 13 8 := h.2.2.2.1.2.1
theorem kc_ar_143 (h : CSc S R) : AR S 143 13 8 := h.2.2.2.1.2.2.1
theorem kc_ar_144 (h : CSc S R) : AR S 144 13 8 := h.2.2.2.1.2.2.2.1
theorem kc_st_145 (h : CSc S R) : ST S R 145 := h.2.2.2.1.2.2.2.2.1
theorem kc_ob_145 (h : CSc S R) : OB S 145 6 := h.2.2.2.1.2.2.2.2.1.1
theorem kc_ar_149 (h : CSc S R) : AR S 149 16 30 := h.2.2.2.1.2.2.2.2.2.1
theorem kc_ar_150 (h : CSc S R) : AR S 150 13 120 := h.2.2.2.1.2.2.2.2.2.2.1
theorem kc_ar_151 (h : CSc S R) : AR S 151 17 4 := h.2.2.2.1.2.2.2.2.2.2.2.1
theorem kc_ob_152 (h : CSc S R) : OB S 152 9 := h.2.2.2.1.2.2.2.2.2.2.2.2.1
theorem kc_r_152_0 (h : CSc S R) : R 152 0 = some 153 := h.2.2.2.1.2.2.2.2.2.2.2.2.2.1.1
theorem kc_ar_153 (h : CSc S R) : AR S 153 13 4 := h.2.2.2.1.2.2.2.2.2.2.2.2.2.2.1
theorem kc_r_152_1 (h : CSc S R) : R 152 1 = some 154 := h.2.2.2.1.2.2.2.2.2.2.2.2.2.1.2.1
theorem kc_ar_154 (h : CSc S R) : AR S 154 13 6 := h.2.2.2.1.2.2.2.2.2.2.2.2.2.2.2.1
theorem kc_r_152_2 (h : CSc S R) : R 152 2 = some 155 := h.2.2.2.1.2.2.2.2.2.2.2.2.2.1.2.2.1
theorem kc_ar_155 (h : CSc S R) : AR S 155 13 10 := h.2.2.2.1.2.2.2.2.2.2.2.2.2.2.2.2.1
theorem kc_r_152_3 (h : CSc S R) : R 152 3 = some 156 := h.2.2.2.1.2.2.2.2.2.2.2.2.2.1.2.2.2.1
theorem kc_ar_156 (h : CSc S R) : AR S 156 13 10 := h.2.2.2.1.2.2.2.2.2.2.2.2.2.2.2.2.2.1
theorem kc_r_152_4 (h : CSc S R) : R 152 4 = some 157 := h.2.2.2.1.2.2.2.2.2.2.2.2.2.1.2.2.2.2.1
theorem kc_ar_157 (h : CSc S R) : AR S 157 13 8 := h.2.2.2.1.2.2.2.2.2.2.2.2.2.2.2.2.2.2.1
theorem kc_r_152_5 (h : CSc S R) : R 152 5 = some 158 := h.2.2.2.1.2.2.2.2.2.2.2.2.2.1.2.2.2.2.2
theorem kc_ar_158 (h : CSc S R) : AR S 158 13 8 := h.2.2.2.1.2.2.2.2.2.2.2.2.2.2.2.2.2.2.2
theorem kc_sp (h : CSc S R) {i : Nat} (hi : i < 30) : R 10 i = some (20 + 4 * i) ∧ ST S R (20 + 4 * i) := h.1.2.2.2 i hi
theorem kc_sk (h : CSc S R) {i : Nat} (hi : i < 30) : R 149 i = some (159 + 4 * i) ∧ ST S R (159 + 4 * i) := h.2.2.2.2 i hi
theorem WS.rr {b : Nat} {R2 : CR} (hr : ∀ x q, b ≤ x → x < b + 139 → x ≠ b + 11 → R2 x q = R x q) (h : WS S R b) : WS S R2 b := by
  obtain ⟨h1, ⟨r0, r1, r2, r3, r4, r5, r6, r7, r8⟩, ⟨a1, a2, a3, a4, s5, a6, a7, a8, t9⟩, st⟩ := h
  have hs : ∀ a, b ≤ a → a < b + 139 → a ≠ b + 11 → ST S R a → ST S R2 a := fun a u1 u2 u3 hs => by
    obtain ⟨s1, s2, s3, s4, z5, z6, z7⟩ := hs
    exact ⟨s1, by rw [hr _ _ u1 u2 u3]; exact s2, by rw [hr _ _ u1 u2 u3]; exact s3, by rw [hr _ _ u1 u2 u3]; exact s4, z5, z6, z7⟩
  refine ⟨h1, ⟨by rw [hr _ _ (by omega) (by omega) (by omega)]; exact r0, by rw [hr _ _ (by omega) (by omega) (by omega)]; exact r1, by rw [hr _ _ (by omega) (by omega) (by omega)]; exact r2, by rw [hr _ _ (by omega) (by omega) (by omega)]; exact r3, by rw [hr _ _ (by omega) (by omega) (by omega)]; exact r4, by rw [hr _ _ (by omega) (by omega) (by omega)]; exact r5, by rw [hr _ _ (by omega) (by omega) (by omega)]; exact r6, by rw [hr _ _ (by omega) (by omega) (by omega)]; exact r7, by rw [hr _ _ (by omega) (by omega) (by omega)]; exact r8⟩, ⟨a1, a2, a3, a4, hs _ (by omega) (by omega) (by omega) s5, a6, a7, a8, ?_⟩, fun i hi => ⟨by rw [hr _ _ (by omega) (by omega) (by omega)]; exact (st i hi).1, hs _ (by omega) (by omega) (by omega) (st i hi).2⟩⟩
  obtain ⟨t1, ⟨q0, q1, q2, q3, q4, q5⟩, t3⟩ := t9
  exact ⟨t1, ⟨by rw [hr _ _ (by omega) (by omega) (by omega)]; exact q0, by rw [hr _ _ (by omega) (by omega) (by omega)]; exact q1, by rw [hr _ _ (by omega) (by omega) (by omega)]; exact q2, by rw [hr _ _ (by omega) (by omega) (by omega)]; exact q3, by rw [hr _ _ (by omega) (by omega) (by omega)]; exact q4, by rw [hr _ _ (by omega) (by omega) (by omega)]; exact q5⟩, t3⟩
theorem WS.gr {b : Nat} {S2 : Sh} {R2 : CR} (g : Gr S S2) (hr : ∀ x, b ≤ x → x < b + 139 → R2 x = R x) (h : WS S R b) : WS S2 R2 b := by
  obtain ⟨h1, ⟨r0, r1, r2, r3, r4, r5, r6, r7, r8⟩, ⟨a1, a2, a3, a4, s5, a6, a7, a8, t9⟩, st⟩ := h
  refine ⟨g.ob h1, ⟨by rw [hr _ (by omega) (by omega)]; exact r0, by rw [hr _ (by omega) (by omega)]; exact r1, by rw [hr _ (by omega) (by omega)]; exact r2, by rw [hr _ (by omega) (by omega)]; exact r3, by rw [hr _ (by omega) (by omega)]; exact r4, by rw [hr _ (by omega) (by omega)]; exact r5, by rw [hr _ (by omega) (by omega)]; exact r6, by rw [hr _ (by omega) (by omega)]; exact r7, by rw [hr _ (by omega) (by omega)]; exact r8⟩, ⟨g.ar a1, g.ar a2, g.ar a3, g.ar a4, ST.gr g (hr _ (by omega) (by omega)) s5, g.ar a6, g.ar a7, g.ar a8, TS.gr g (hr _ (by omega) (by omega)) t9⟩, fun i hi => ⟨by rw [hr _ (by omega) (by omega)]; exact (st i hi).1, ST.gr g (hr _ (by omega) (by omega)) (st i hi).2⟩⟩
theorem CSc_R {R' : CR} (h : ∀ c i, c ≠ 12 → c ≠ 151 → R' c i = R c i) (cs : CSc S R) : CSc S R' := ⟨WS.rr (fun x q h1 h2 h3 => h x q (by omega) (by omega)) cs.1, WS.rr (fun x q h1 h2 h3 => h x q (by omega) (by omega)) cs.2⟩
theorem sp_X9_take_c (cs : CSc S R) (hn : 1 ≤ n) (hp : ∀ J, ((∀ i, 6 ≤ i → i ≤ 9 → J 152 i = I 13 i) ∧ (∀ i, i < 4 → J 153 i = I 14 i) ∧ (∀ i, i < 6 → J 154 i = I 15 i) ∧ (∀ i, i < 10 → J 155 i = I 16 i ∧ J 156 i = I 17 i) ∧ (∀ i, i < 8 → J 157 i = I 18 i ∧ J 158 i = I 19 i)) → (∀ c, (c < 152 ∨ 158 < c) → J c = I c) → Post none S J R) : Call n 0 0 mX9_take [.ref (S.2.1 152), .ref (S.2.1 13)] S I R Post := by
  refine Call.of (by decide +kernel) (Nat.le_of_ble_eq_true rfl) ?_
  show WP _ _ _ _ _ 0 [(0, _), (1, _)] [] 0 0 _ _ _
  refine x_aload_n dX9_take_0 rfl ?_
  refine x_getR (b := 14) dX9_take_1 gf_RX9_9 (kc_ob_13 cs) (fun _ _ => rfl) (kc_r_13_0 cs) ?_
  refine x_iconst dX9_take_4 ?_
  refine x_aload_n dX9_take_5 rfl ?_
  refine x_getR (b := 153) dX9_take_6 gf_RX9_9 (kc_ob_152 cs) (fun _ _ => rfl) (kc_r_152_0 cs) ?_
  refine x_iconst dX9_take_9 ?_
  refine x_iconst dX9_take_10 ?_
  refine x_copyi (a := 14) (b := 153) dX9_take_11 cw_X9_30 (by omega) (Nat.le_of_ble_eq_true rfl) (N0 := 4) (N1 := 4) (kc_ar_14 cs) (kc_ar_153 cs) (by omega) (by omega) (by omega) ?_
  refine x_aload_n dX9_take_14 rfl ?_
  refine x_getR (b := 15) dX9_take_15 gf_RX9_15 (kc_ob_13 cs) (fun _ _ => rfl) (kc_r_13_1 cs) ?_
  refine x_iconst dX9_take_18 ?_
  refine x_aload_n dX9_take_19 rfl ?_
  refine x_getR (b := 154) dX9_take_20 gf_RX9_15 (kc_ob_152 cs) (fun _ _ => rfl) (kc_r_152_1 cs) ?_
  refine x_iconst dX9_take_23 ?_
  refine x_bipush dX9_take_24 (by decide) ?_
  refine x_copyi (a := 15) (b := 154) dX9_take_26 cw_X9_30 (by omega) (Nat.le_of_ble_eq_true rfl) (N0 := 6) (N1 := 6) (kc_ar_15 cs) (kc_ar_154 cs) (by omega) (by omega) (by omega) ?_
  refine x_aload_n dX9_take_29 rfl ?_
  refine x_getR (b := 16) dX9_take_30 gf_RX9_18 (kc_ob_13 cs) (fun _ _ => rfl) (kc_r_13_2 cs) ?_
  refine x_iconst dX9_take_33 ?_
  refine x_aload_n dX9_take_34 rfl ?_
  refine x_getR (b := 155) dX9_take_35 gf_RX9_18 (kc_ob_152 cs) (fun _ _ => rfl) (kc_r_152_2 cs) ?_
  refine x_iconst dX9_take_38 ?_
  refine x_bipush dX9_take_39 (by decide) ?_
  refine x_copyi (a := 16) (b := 155) dX9_take_41 cw_X9_30 (by omega) (Nat.le_of_ble_eq_true rfl) (N0 := 10) (N1 := 10) (kc_ar_16 cs) (kc_ar_155 cs) (by omega) (by omega) (by omega) ?_
  refine x_aload_n dX9_take_44 rfl ?_
  refine x_getR (b := 17) dX9_take_45 gf_RX9_21 (kc_ob_13 cs) (fun _ _ => rfl) (kc_r_13_3 cs) ?_
  refine x_iconst dX9_take_48 ?_
  refine x_aload_n dX9_take_49 rfl ?_
  refine x_getR (b := 156) dX9_take_50 gf_RX9_21 (kc_ob_152 cs) (fun _ _ => rfl) (kc_r_152_3 cs) ?_
  refine x_iconst dX9_take_53 ?_
  refine x_bipush dX9_take_54 (by decide) ?_
  refine x_copyi (a := 17) (b := 156) dX9_take_56 cw_X9_30 (by omega) (Nat.le_of_ble_eq_true rfl) (N0 := 10) (N1 := 10) (kc_ar_17 cs) (kc_ar_156 cs) (by omega) (by omega) (by omega) ?_
  refine x_aload_n dX9_take_59 rfl ?_
  refine x_getR (b := 18) dX9_take_60 gf_RX9_24 (kc_ob_13 cs) (fun _ _ => rfl) (kc_r_13_4 cs) ?_
  refine x_iconst dX9_take_63 ?_
  refine x_aload_n dX9_take_64 rfl ?_
  refine x_getR (b := 157) dX9_take_65 gf_RX9_24 (kc_ob_152 cs) (fun _ _ => rfl) (kc_r_152_4 cs) ?_
  refine x_iconst dX9_take_68 ?_
  refine x_bipush dX9_take_69 (by decide) ?_
  refine x_copyi (a := 18) (b := 157) dX9_take_71 cw_X9_30 (by omega) (Nat.le_of_ble_eq_true rfl) (N0 := 8) (N1 := 8) (kc_ar_18 cs) (kc_ar_157 cs) (by omega) (by omega) (by omega) ?_
  refine x_aload_n dX9_take_74 rfl ?_
  refine x_getR (b := 19) dX9_take_75 gf_RX9_27 (kc_ob_13 cs) (fun _ _ => rfl) (kc_r_13_5 cs) ?_
  refine x_iconst dX9_take_78 ?_
  refine x_aload_n dX9_take_79 rfl ?_
  refine x_getR (b := 158) dX9_take_80 gf_RX9_27 (kc_ob_152 cs) (fun _ _ => rfl) (kc_r_152_5 cs) ?_
  refine x_iconst dX9_take_83 ?_
  refine x_bipush dX9_take_84 (by decide) ?_
  refine x_copyi (a := 19) (b := 158) dX9_take_86 cw_X9_30 (by omega) (Nat.le_of_ble_eq_true rfl) (N0 := 8) (N1 := 8) (kc_ar_19 cs) (kc_ar_158 cs) (by omega) (by omega) (by omega) ?_
  refine x_aload_n dX9_take_89 rfl ?_
  refine x_aload_n dX9_take_90 rfl ?_
  refine x_getIv (z := I 13 6) dX9_take_91 gf_RX9_36 (kc_ob_13 cs) (fun _ _ => rfl) (by (repeat first | rw [uI_o (by omega)] | rw [cpI_o (by omega)])) ?_
  refine x_putI dX9_take_94 gf_RX9_36 (kc_ob_152 cs) rfl ?_
  refine x_aload_n dX9_take_97 rfl ?_
  refine x_aload_n dX9_take_98 rfl ?_
  refine x_getIv (z := I 13 7) dX9_take_99 gf_RX9_40 (kc_ob_13 cs) (fun _ _ => rfl) (by (repeat first | rw [uI_o (by omega)] | rw [cpI_o (by omega)])) ?_
  refine x_putI dX9_take_102 gf_RX9_40 (kc_ob_152 cs) rfl ?_
  refine x_aload_n dX9_take_105 rfl ?_
  refine x_aload_n dX9_take_106 rfl ?_
  refine x_getIv (z := I 13 8) dX9_take_107 gf_RX9_43 (kc_ob_13 cs) (fun _ _ => rfl) (by (repeat first | rw [uI_o (by omega)] | rw [cpI_o (by omega)])) ?_
  refine x_putI dX9_take_110 gf_RX9_43 (kc_ob_152 cs) rfl ?_
  refine x_aload_n dX9_take_113 rfl ?_
  refine x_aload_n dX9_take_114 rfl ?_
  refine x_getIv (z := I 13 9) dX9_take_115 gf_RX9_46 (kc_ob_13 cs) (fun _ _ => rfl) (by (repeat first | rw [uI_o (by omega)] | rw [cpI_o (by omega)])) ?_
  refine x_putI dX9_take_118 gf_RX9_46 (kc_ob_152 cs) rfl ?_
  exact x_return dX9_take_121 rfl (by omega) (by omega) (hp _ ⟨fun i h1 h2 => by
    rcases (show i = 6 ∨ i = 7 ∨ i = 8 ∨ i = 9 by omega) with rfl | rfl | rfl | rfl <;> (repeat first | rw [uI_s] | rw [uI_o (by omega)]), fun i hi => (by (repeat rw [uI_o (by omega)]); (repeat rw [cpI_o (by omega)]); rw [cpI_s (by omega)]; (repeat rw [cpI_o (by omega)]); rw [show Int.toNat 0 + (i - Int.toNat 0) = i by show 0 + (i - 0) = i; omega]), fun i hi => (by (repeat rw [uI_o (by omega)]); (repeat rw [cpI_o (by omega)]); rw [cpI_s (by omega)]; (repeat rw [cpI_o (by omega)]); rw [show Int.toNat 0 + (i - Int.toNat 0) = i by show 0 + (i - 0) = i; omega]), fun i hi => ⟨(by (repeat rw [uI_o (by omega)]); (repeat rw [cpI_o (by omega)]); rw [cpI_s (by omega)]; (repeat rw [cpI_o (by omega)]); rw [show Int.toNat 0 + (i - Int.toNat 0) = i by show 0 + (i - 0) = i; omega]), (by (repeat rw [uI_o (by omega)]); (repeat rw [cpI_o (by omega)]); rw [cpI_s (by omega)]; (repeat rw [cpI_o (by omega)]); rw [show Int.toNat 0 + (i - Int.toNat 0) = i by show 0 + (i - 0) = i; omega])⟩, fun i hi => ⟨(by (repeat rw [uI_o (by omega)]); (repeat rw [cpI_o (by omega)]); rw [cpI_s (by omega)]; (repeat rw [cpI_o (by omega)]); rw [show Int.toNat 0 + (i - Int.toNat 0) = i by show 0 + (i - 0) = i; omega]), (by (repeat rw [uI_o (by omega)]); (repeat rw [cpI_o (by omega)]); rw [cpI_s (by omega)]; (repeat rw [cpI_o (by omega)]); rw [show Int.toNat 0 + (i - Int.toNat 0) = i by show 0 + (i - 0) = i; omega])⟩⟩ (fun c hc => by
    funext q
    (repeat rw [uI_o (by omega)]); (repeat rw [cpI_o (by omega)])))
theorem lp1_take_c {R0 : CR} (cs : CSc S R0) (hTO : TO S R0 12) (hK : ∀ R1 : CR, (∀ i, i < 4 → R1 151 i = R0 12 i) → (∀ c i, (c ≠ 151 ∨ 4 ≤ i) → R1 c i = R0 c i) → WP n 0 0 mX10_take Post 100 [(0, .ref (S.2.1 140)), (1, .ref (S.2.1 1))] [] 0 0 S I R1) : ∀ (dd i : Nat) (R1 : CR), i ≤ 4 → 4 - i = dd → (∀ t, t < i → R1 151 t = R0 12 t) → (∀ c t, (c ≠ 151 ∨ 4 ≤ t) → R1 c t = R0 c t) → WP n 0 0 mX10_take Post 77 [(0, .ref (S.2.1 140)), (1, .ref (S.2.1 1)), (2, .int (iI (i : Int)))] [] 0 0 S I R1 := by
  intro dd
  induction dd using Nat.strongRecOn with
  | ind dd ih =>
    intro i R1 i1 i2 hR hO
    have cs1 : CSc S R1 := CSc_R (fun c t h1 h2 => hO c t (by omega)) cs
    have hsrc : i < 4 → R1 12 i = R0 12 i := fun h => hO 12 i (by omega)
    refine x_iload_n dX10_take_77 rfl ?_
    refine x_iconst dX10_take_78 ?_
    refine x_icmp_ge 100 dX10_take_79 (by decide) ⟨(by omega), (by omega)⟩ (fun w79 => ?_) (fun w79 => ?_)
    · refine x_sub [0, 1] rfl ?_
      obtain rfl : i = 4 := by omega
      exact hK R1 hR hO
    · refine x_aload_n dX10_take_82 rfl ?_
      refine x_getR (b := 151) dX10_take_83 gf_RX10_40 (kc_ob_140 cs1) (fun _ _ => rfl) (kc_r_140_7 cs1) ?_
      refine x_iload_n dX10_take_86 rfl ?_
      refine x_aload_n dX10_take_87 rfl ?_
      refine x_getR (b := 12) dX10_take_88 gf_RX10_40 (kc_ob_1 cs1) (fun _ _ => rfl) (kc_r_1_7 cs1) ?_
      refine x_iload_n dX10_take_91 rfl ?_
      refine x_aaload_t dX10_take_92 (kc_ar_12 cs1) (by omega) (v := va_rf ((R0 12 i).map S.2.1)) (by rw [tN, hsrc (by omega)]) (by omega) ?_
      rcases hTO i (by omega) with hnn | ⟨id, hid, hob⟩
      · rw [hnn]
        refine x_aastore_tN dX10_take_93 (kc_ar_151 cs1) (by omega) (by omega) ?_
        refine x_iinc (lv2 := [(2, _), (0, _), (1, _)]) dX10_take_94 rfl (by decide) rfl ?_
        refine x_goto 77 dX10_take_97 (by decide) ?_
        refine x_sub [1, 2, 0] rfl ?_
        rw [tN]
        refine ih _ (by omega) (i + 1) _ (by omega) rfl (fun t ht => ?_) (fun c t hc => ?_)
        · by_cases e : t = i
          · rw [e, uR_s, hnn]
          · rw [uR_o (Or.inr e)]; exact hR t (by omega)
        · rw [uR_o (by omega)]; exact hO c t hc
      · rw [hid]
        refine x_aastore_t dX10_take_93 (kc_ar_151 cs1) hob (by omega) (by omega) ?_
        refine x_iinc (lv2 := [(2, _), (0, _), (1, _)]) dX10_take_94 rfl (by decide) rfl ?_
        refine x_goto 77 dX10_take_97 (by decide) ?_
        refine x_sub [1, 2, 0] rfl ?_
        rw [tN]
        refine ih _ (by omega) (i + 1) _ (by omega) rfl (fun t ht => ?_) (fun c t hc => ?_)
        · by_cases e : t = i
          · rw [e, uR_s, hid]
          · rw [uR_o (Or.inr e)]; exact hR t (by omega)
        · rw [uR_o (by omega)]; exact hO c t hc
theorem lp2_take_c (cs : CSc S R) (hn : 2 ≤ n) (hK : ∀ J, (∀ t, t < 30 → (∀ i, 3 ≤ i → i ≤ 8 → J (159 + 4 * t) i = I (20 + 4 * t) i) ∧ ∀ o i, 1 ≤ o → o ≤ 3 → i < 8 → J (159 + 4 * t + o) i = I (20 + 4 * t + o) i) → (∀ c, (c < 159 ∨ 278 < c) → J c = I c) → WP n 0 0 mX10_take Post 129 [(0, .ref (S.2.1 140)), (1, .ref (S.2.1 1))] [] 0 0 S J R) : ∀ (dd t : Nat) (J : CI), t ≤ 30 → 30 - t = dd → (∀ u, u < t → (∀ i, 3 ≤ i → i ≤ 8 → J (159 + 4 * u) i = I (20 + 4 * u) i) ∧ ∀ o i, 1 ≤ o → o ≤ 3 → i < 8 → J (159 + 4 * u + o) i = I (20 + 4 * u + o) i) → (∀ c, (c < 159 ∨ 278 < c) → J c = I c) → WP n 0 0 mX10_take Post 102 [(0, .ref (S.2.1 140)), (1, .ref (S.2.1 1)), (2, .int (iI (t : Int)))] [] 0 0 S J R := by
  intro dd
  induction dd using Nat.strongRecOn with
  | ind dd ih =>
    intro t J t1 t2 hS hO
    have kd : t < 30 → _ := fun h => kc_sk cs h
    have ks : t < 30 → _ := fun h => kc_sp cs h
    refine x_iload_n dX10_take_102 rfl ?_
    refine x_bipush dX10_take_103 (by decide) ?_
    refine x_icmp_ge 129 dX10_take_105 (by decide) ⟨(by omega), (by omega)⟩ (fun w105 => ?_) (fun w105 => ?_)
    · refine x_sub [0, 1] rfl ?_
      obtain rfl : t = 30 := by omega
      exact hK J hS hO
    · have hkd := kd (by omega)
      have hks := ks (by omega)
      refine x_aload_n dX10_take_108 rfl ?_
      refine x_getR (b := 149) dX10_take_109 gf_RX10_31 (kc_ob_140 cs) (fun _ _ => rfl) (kc_r_140_5 cs) ?_
      refine x_iload_n dX10_take_112 rfl ?_
      refine x_aaload_s dX10_take_113 (kc_ar_149 cs) (by omega) (v := .ref (S.2.1 (159 + 4 * t))) (by rw [tN, hkd.1]; rfl) (by omega) ?_
      refine x_aload_n dX10_take_114 rfl ?_
      refine x_getR (b := 10) dX10_take_115 gf_RX10_31 (kc_ob_1 cs) (fun _ _ => rfl) (kc_r_1_5 cs) ?_
      refine x_iload_n dX10_take_118 rfl ?_
      refine x_aaload_s dX10_take_119 (kc_ar_10 cs) (by omega) (v := .ref (S.2.1 (20 + 4 * t))) (by rw [tN, hks.1]; rfl) (by omega) ?_
      refine x_callV1 (mc1 := 0) (ms1 := 0) dX10_take_120 cv_RX10_61 (ci := 6) hkd.2.1 rfl (Nat.le_of_ble_eq_true rfl) (n1 := n - 1) (by omega) (by omega) (by omega) ?_
      refine sp_X6_take hkd.2 hks.2 (by omega) (by omega) ?_
      refine x_iinc (lv2 := [(2, _), (0, _), (1, _)]) dX10_take_123 rfl (by decide) rfl ?_
      refine x_goto 102 dX10_take_126 (by decide) ?_
      refine x_sub [1, 2, 0] rfl ?_
      refine ih _ (by omega) (t + 1) _ (by omega) rfl (fun u hu => ?_) (fun c hc => by funext q; rw [tkc_o (by omega), hO c hc])
      by_cases e : u = t
      · subst e
        exact ⟨fun i h1 h2 => by rw [tkc_s ⟨h1, h2⟩, hO _ (by omega)], fun o i h1 h2 h3 => by rw [tkc_r ⟨h1, h2⟩ h3, hO _ (by omega)]⟩
      · obtain ⟨v1, v2⟩ := hS u (by omega)
        exact ⟨fun i h1 h2 => by rw [tkc_o (by omega)]; exact v1 i h1 h2, fun o i h1 h2 h3 => by rw [tkc_o (by omega)]; exact v2 o i h1 h2 h3⟩
theorem lp3_take_c (cs : CSc S R) (hn : 2 ≤ n) (hp : ∀ J, ((∀ i, 9 ≤ i → i ≤ 12 → J 140 i = I 1 i) ∧ ((∀ i, 3 ≤ i → i ≤ 8 → J 145 i = I 6 i) ∧ ∀ o i, 1 ≤ o → o ≤ 3 → i < 8 → J (145 + o) i = I (6 + o) i) ∧ ((∀ i, 6 ≤ i → i ≤ 9 → J 152 i = I 13 i) ∧ (∀ i, i < 4 → J 153 i = I 14 i) ∧ (∀ i, i < 6 → J 154 i = I 15 i) ∧ (∀ i, i < 10 → J 155 i = I 16 i ∧ J 156 i = I 17 i) ∧ (∀ i, i < 8 → J 157 i = I 18 i ∧ J 158 i = I 19 i))) → (∀ c, c ≠ 140 → (c < 145 ∨ 148 < c) → (c < 152 ∨ 158 < c) → J c = I c) → Post none S J R) : WP n 0 0 mX10_take Post 129 [(0, .ref (S.2.1 140)), (1, .ref (S.2.1 1))] [] 0 0 S I R := by
  refine x_aload_n dX10_take_129 rfl ?_
  refine x_getR (b := 145) dX10_take_130 gf_RX10_27 (kc_ob_140 cs) (fun _ _ => rfl) (kc_r_140_4 cs) ?_
  refine x_aload_n dX10_take_133 rfl ?_
  refine x_getR (b := 6) dX10_take_134 gf_RX10_27 (kc_ob_1 cs) (fun _ _ => rfl) (kc_r_1_4 cs) ?_
  refine x_callV1 (mc1 := 0) (ms1 := 0) dX10_take_137 cv_RX10_61 (ci := 6) (kc_ob_145 cs) rfl (Nat.le_of_ble_eq_true rfl) (n1 := n - 1) (by omega) (by omega) (by omega) ?_
  refine sp_X6_take (kc_st_145 cs) (kc_st_6 cs) (by omega) (by omega) ?_
  refine x_aload_n dX10_take_140 rfl ?_
  refine x_getR (b := 152) dX10_take_141 gf_RX10_47 (kc_ob_140 cs) (fun _ _ => rfl) (kc_r_140_8 cs) ?_
  refine x_aload_n dX10_take_144 rfl ?_
  refine x_getR (b := 13) dX10_take_145 gf_RX10_47 (kc_ob_1 cs) (fun _ _ => rfl) (kc_r_1_8 cs) ?_
  refine x_callV1 (mc1 := 0) (ms1 := 0) dX10_take_148 cv_RX10_65 (ci := 9) (kc_ob_152 cs) rfl (Nat.le_of_ble_eq_true rfl) (n1 := n - 1) (by omega) (by omega) (by omega) ?_
  refine sp_X9_take_c cs (by omega) (fun J148 h148 f148 => ?_)
  refine x_aload_n dX10_take_151 rfl ?_
  refine x_aload_n dX10_take_152 rfl ?_
  refine x_getIv (z := I 1 9) dX10_take_153 gf_RX10_68 (kc_ob_1 cs) (fun _ _ => rfl) (by (repeat rw [uI_o (by omega)]); first | rw [f148 1 (by omega), tkc_o (by omega)] | rfl) ?_
  refine x_putI dX10_take_156 gf_RX10_68 (kc_ob_140 cs) rfl ?_
  refine x_aload_n dX10_take_159 rfl ?_
  refine x_aload_n dX10_take_160 rfl ?_
  refine x_getIv (z := I 1 10) dX10_take_161 gf_RX10_71 (kc_ob_1 cs) (fun _ _ => rfl) (by (repeat rw [uI_o (by omega)]); first | rw [f148 1 (by omega), tkc_o (by omega)] | rfl) ?_
  refine x_putI dX10_take_164 gf_RX10_71 (kc_ob_140 cs) rfl ?_
  refine x_aload_n dX10_take_167 rfl ?_
  refine x_aload_n dX10_take_168 rfl ?_
  refine x_getIv (z := I 1 11) dX10_take_169 gf_RX10_74 (kc_ob_1 cs) (fun _ _ => rfl) (by (repeat rw [uI_o (by omega)]); first | rw [f148 1 (by omega), tkc_o (by omega)] | rfl) ?_
  refine x_putI dX10_take_172 gf_RX10_74 (kc_ob_140 cs) rfl ?_
  refine x_aload_n dX10_take_175 rfl ?_
  refine x_aload_n dX10_take_176 rfl ?_
  refine x_getIv (z := I 1 12) dX10_take_177 gf_RX10_51 (kc_ob_1 cs) (fun _ _ => rfl) (by (repeat rw [uI_o (by omega)]); first | rw [f148 1 (by omega), tkc_o (by omega)] | rfl) ?_
  refine x_putI dX10_take_180 gf_RX10_51 (kc_ob_140 cs) rfl ?_
  exact x_return dX10_take_183 rfl (by omega) (by omega) (hp _ ⟨fun i h1 h2 => by
    rcases (show i = 9 ∨ i = 10 ∨ i = 11 ∨ i = 12 by omega) with rfl | rfl | rfl | rfl <;> (repeat first | rw [uI_s] | rw [uI_o (by omega)]), ⟨fun i h1 h2 => by (repeat rw [uI_o (by omega)]); rw [f148 145 (by omega), tkc_s ⟨h1, h2⟩], fun o i h1 h2 h3 => by (repeat rw [uI_o (by omega)]); rw [f148 _ (by omega), tkc_r ⟨h1, h2⟩ h3]⟩, by
    have e : ∀ c i, 13 ≤ c → c ≤ 19 → stCp I 145 6 c i = I c i := fun c i h1 h2 => tkc_o (by omega)
    obtain ⟨g1, g2, g3, g4, g5⟩ := h148
    exact ⟨fun i h1 h2 => by (repeat rw [uI_o (by omega)]); rw [g1 i h1 h2, e _ _ (by omega) (by omega)], fun i hi => by (repeat rw [uI_o (by omega)]); rw [g2 i hi, e _ _ (by omega) (by omega)], fun i hi => by (repeat rw [uI_o (by omega)]); rw [g3 i hi, e _ _ (by omega) (by omega)], fun i hi => ⟨by (repeat rw [uI_o (by omega)]); rw [(g4 i hi).1, e _ _ (by omega) (by omega)], by (repeat rw [uI_o (by omega)]); rw [(g4 i hi).2, e _ _ (by omega) (by omega)]⟩, fun i hi => ⟨by (repeat rw [uI_o (by omega)]); rw [(g5 i hi).1, e _ _ (by omega) (by omega)], by (repeat rw [uI_o (by omega)]); rw [(g5 i hi).2, e _ _ (by omega) (by omega)]⟩⟩⟩ (fun c h1 h2 h3 => by
    funext q
    (repeat rw [uI_o (Or.inl h1)])
    rw [f148 c (by omega), tkc_o (by omega)]))
theorem sp_X10_take_c (cs : CSc S R) (hTO : TO S R 12) (hn : 3 ≤ n) (hp : ∀ J R1, WCp I J 1 140 → (∀ c, (c < 140 ∨ 278 < c) → J c = I c) → (∀ i, i < 4 → R1 151 i = R 12 i) → (∀ c i, (c ≠ 151 ∨ 4 ≤ i) → R1 c i = R c i) → Post none S J R1) : Call n 0 0 mX10_take [.ref (S.2.1 140), .ref (S.2.1 1)] S I R Post := by
  refine Call.of (by decide +kernel) (Nat.le_of_ble_eq_true rfl) ?_
  show WP _ _ _ _ _ 0 [(0, _), (1, _)] [] 0 0 _ _ _
  refine x_aload_n dX10_take_0 rfl ?_
  refine x_getR (b := 2) dX10_take_1 gf_RX10_9 (kc_ob_1 cs) (fun _ _ => rfl) (kc_r_1_0 cs) ?_
  refine x_iconst dX10_take_4 ?_
  refine x_aload_n dX10_take_5 rfl ?_
  refine x_getR (b := 141) dX10_take_6 gf_RX10_9 (kc_ob_140 cs) (fun _ _ => rfl) (kc_r_140_0 cs) ?_
  refine x_iconst dX10_take_9 ?_
  refine x_bipush dX10_take_10 (by decide) ?_
  refine x_copyi (a := 2) (b := 141) dX10_take_12 cw_X10_55 (by omega) (Nat.le_of_ble_eq_true rfl) (N0 := 8) (N1 := 8) (kc_ar_2 cs) (kc_ar_141 cs) (by omega) (by omega) (by omega) ?_
  refine x_aload_n dX10_take_15 rfl ?_
  refine x_getR (b := 3) dX10_take_16 gf_RX10_15 (kc_ob_1 cs) (fun _ _ => rfl) (kc_r_1_1 cs) ?_
  refine x_iconst dX10_take_19 ?_
  refine x_aload_n dX10_take_20 rfl ?_
  refine x_getR (b := 142) dX10_take_21 gf_RX10_15 (kc_ob_140 cs) (fun _ _ => rfl) (kc_r_140_1 cs) ?_
  refine x_iconst dX10_take_24 ?_
  refine x_bipush dX10_take_25 (by decide) ?_
  refine x_copyi (a := 3) (b := 142) dX10_take_27 cw_X10_55 (by omega) (Nat.le_of_ble_eq_true rfl) (N0 := 8) (N1 := 8) (kc_ar_3 cs) (kc_ar_142 cs) (by omega) (by omega) (by omega) ?_
  refine x_aload_n dX10_take_30 rfl ?_
  refine x_getR (b := 4) dX10_take_31 gf_RX10_18 (kc_ob_1 cs) (fun _ _ => rfl) (kc_r_1_2 cs) ?_
  refine x_iconst dX10_take_34 ?_
  refine x_aload_n dX10_take_35 rfl ?_
  refine x_getR (b := 143) dX10_take_36 gf_RX10_18 (kc_ob_140 cs) (fun _ _ => rfl) (kc_r_140_2 cs) ?_
  refine x_iconst dX10_take_39 ?_
  refine x_bipush dX10_take_40 (by decide) ?_
  refine x_copyi (a := 4) (b := 143) dX10_take_42 cw_X10_55 (by omega) (Nat.le_of_ble_eq_true rfl) (N0 := 8) (N1 := 8) (kc_ar_4 cs) (kc_ar_143 cs) (by omega) (by omega) (by omega) ?_
  refine x_aload_n dX10_take_45 rfl ?_
  refine x_getR (b := 5) dX10_take_46 gf_RX10_21 (kc_ob_1 cs) (fun _ _ => rfl) (kc_r_1_3 cs) ?_
  refine x_iconst dX10_take_49 ?_
  refine x_aload_n dX10_take_50 rfl ?_
  refine x_getR (b := 144) dX10_take_51 gf_RX10_21 (kc_ob_140 cs) (fun _ _ => rfl) (kc_r_140_3 cs) ?_
  refine x_iconst dX10_take_54 ?_
  refine x_bipush dX10_take_55 (by decide) ?_
  refine x_copyi (a := 5) (b := 144) dX10_take_57 cw_X10_55 (by omega) (Nat.le_of_ble_eq_true rfl) (N0 := 8) (N1 := 8) (kc_ar_5 cs) (kc_ar_144 cs) (by omega) (by omega) (by omega) ?_
  refine x_aload_n dX10_take_60 rfl ?_
  refine x_getR (b := 11) dX10_take_61 gf_RX10_35 (kc_ob_1 cs) (fun _ _ => rfl) (kc_r_1_6 cs) ?_
  refine x_iconst dX10_take_64 ?_
  refine x_aload_n dX10_take_65 rfl ?_
  refine x_getR (b := 150) dX10_take_66 gf_RX10_35 (kc_ob_140 cs) (fun _ _ => rfl) (kc_r_140_6 cs) ?_
  refine x_iconst dX10_take_69 ?_
  refine x_bipush dX10_take_70 (by decide) ?_
  refine x_copyi (a := 11) (b := 150) dX10_take_72 cw_X10_55 (by omega) (Nat.le_of_ble_eq_true rfl) (N0 := 120) (N1 := 120) (kc_ar_11 cs) (kc_ar_150 cs) (by omega) (by omega) (by omega) ?_
  refine x_iconst dX10_take_75 ?_
  refine x_istore_n (lv2 := [(2, _), (0, _), (1, _)]) dX10_take_76 (by decide) rfl ?_
  refine x_sub [1, 2, 0] rfl ?_
  refine lp1_take_c cs hTO (fun R1 hR1 hR2 => ?_) _ 0 R (by omega) rfl (fun t ht => by omega) (fun c t _ => rfl)
  have cs1 : CSc S R1 := CSc_R (fun c t h1 h2 => hR2 c t (by omega)) cs
  refine x_iconst dX10_take_100 ?_
  refine x_istore_n (lv2 := [(2, _), (0, _), (1, _)]) dX10_take_101 (by decide) rfl ?_
  refine x_sub [1, 2, 0] rfl ?_
  refine lp2_take_c cs1 (by omega) (fun J2 g2 f2 => ?_) _ 0 _ (by omega) rfl (fun u hu => by omega) (fun c _ => rfl)
  refine lp3_take_c cs1 (by omega) (fun J3 g3 f3 => ?_)
  obtain ⟨a1, ⟨a2, a3⟩, a4⟩ := g3
  obtain ⟨J1, hJ1⟩ : ∃ J1, J1 = cpI (cpI (cpI (cpI (cpI I 2 141 (Int.toNat 0) (Int.toNat 0) (Int.toNat 8)) 3 142 (Int.toNat 0) (Int.toNat 0) (Int.toNat 8)) 4 143 (Int.toNat 0) (Int.toNat 0) (Int.toNat 8)) 5 144 (Int.toNat 0) (Int.toNat 0) (Int.toNat 8)) 11 150 (Int.toNat 0) (Int.toNat 0) (Int.toNat 120) := ⟨_, rfl⟩
  have b1 : ∀ i, i < 8 → J1 141 i = I 2 i := fun i hi => by rw [hJ1]; exact (by (repeat rw [cpI_o (by omega)]); rw [cpI_s (by omega)]; (repeat rw [cpI_o (by omega)]); rw [show Int.toNat 0 + (i - Int.toNat 0) = i by show 0 + (i - 0) = i; omega])
  have b2 : ∀ i, i < 8 → J1 142 i = I 3 i := fun i hi => by rw [hJ1]; exact (by (repeat rw [cpI_o (by omega)]); rw [cpI_s (by omega)]; (repeat rw [cpI_o (by omega)]); rw [show Int.toNat 0 + (i - Int.toNat 0) = i by show 0 + (i - 0) = i; omega])
  have b3 : ∀ i, i < 8 → J1 143 i = I 4 i := fun i hi => by rw [hJ1]; exact (by (repeat rw [cpI_o (by omega)]); rw [cpI_s (by omega)]; (repeat rw [cpI_o (by omega)]); rw [show Int.toNat 0 + (i - Int.toNat 0) = i by show 0 + (i - 0) = i; omega])
  have b4 : ∀ i, i < 8 → J1 144 i = I 5 i := fun i hi => by rw [hJ1]; exact (by (repeat rw [cpI_o (by omega)]); rw [cpI_s (by omega)]; (repeat rw [cpI_o (by omega)]); rw [show Int.toNat 0 + (i - Int.toNat 0) = i by show 0 + (i - 0) = i; omega])
  have b5 : ∀ i, i < 120 → J1 150 i = I 11 i := fun i hi => by rw [hJ1]; exact (by (repeat rw [cpI_o (by omega)]); rw [cpI_s (by omega)]; (repeat rw [cpI_o (by omega)]); rw [show Int.toNat 0 + (i - Int.toNat 0) = i by show 0 + (i - 0) = i; omega])
  have b6 : ∀ c i, c ≠ 141 → c ≠ 142 → c ≠ 143 → c ≠ 144 → c ≠ 150 → J1 c i = I c i := fun c i h1 h2 h3 h4 h5 => by rw [hJ1, cpI_o h5, cpI_o h4, cpI_o h3, cpI_o h2, cpI_o h1]
  rw [← hJ1] at g2 f2
  obtain ⟨a5, a6, a7, a8, a9⟩ := a4
  refine hp J3 R1 ⟨fun i h1 h2 => ?_, fun o i h1 h2 h3 => ?_, ⟨fun i h1 h2 => ?_, fun o i h1 h2 h3 => ?_⟩, fun i hi => ?_, ⟨fun i h1 h2 => ?_, fun i hi => ?_, fun i hi => ?_, fun i hi => ⟨?_, ?_⟩, fun i hi => ⟨?_, ?_⟩⟩, fun t ht => ⟨fun i h1 h2 => ?_, fun o i h1 h2 h3 => ?_⟩⟩ (fun c hc => ?_) hR1 hR2
  · rw [a1 i h1 h2, f2 1 (by omega), b6 _ _ (by omega) (by omega) (by omega) (by omega) (by omega)]
  · rw [f3 _ (by omega) (by omega) (by omega), f2 _ (by omega)]
    rcases (show o = 1 ∨ o = 2 ∨ o = 3 ∨ o = 4 by omega) with rfl | rfl | rfl | rfl
    · exact b1 i h3
    · exact b2 i h3
    · exact b3 i h3
    · exact b4 i h3
  · rw [a2 i h1 h2, f2 _ (by omega), b6 _ _ (by omega) (by omega) (by omega) (by omega) (by omega)]
  · have h4 := a3 (o - 5) i (by omega) (by omega) h3
    rw [show 140 + 5 + (o - 5) = 140 + o by omega, show 1 + 5 + (o - 5) = 1 + o by omega] at h4
    rw [h4, f2 _ (by omega), b6 _ _ (by omega) (by omega) (by omega) (by omega) (by omega)]
  · rw [f3 _ (by omega) (by omega) (by omega), f2 _ (by omega)]; exact b5 i hi
  · rw [a5 i h1 h2, f2 _ (by omega), b6 _ _ (by omega) (by omega) (by omega) (by omega) (by omega)]
  · rw [a6 i hi, f2 _ (by omega), b6 _ _ (by omega) (by omega) (by omega) (by omega) (by omega)]
  · rw [a7 i hi, f2 _ (by omega), b6 _ _ (by omega) (by omega) (by omega) (by omega) (by omega)]
  · rw [(a8 i hi).1, f2 _ (by omega), b6 _ _ (by omega) (by omega) (by omega) (by omega) (by omega)]
  · rw [(a8 i hi).2, f2 _ (by omega), b6 _ _ (by omega) (by omega) (by omega) (by omega) (by omega)]
  · rw [(a9 i hi).1, f2 _ (by omega), b6 _ _ (by omega) (by omega) (by omega) (by omega) (by omega)]
  · rw [(a9 i hi).2, f2 _ (by omega), b6 _ _ (by omega) (by omega) (by omega) (by omega) (by omega)]
  · rw [f3 _ (by omega) (by omega) (by omega)]
    have h4 := (g2 t ht).1 i h1 h2
    rw [show 140 + 19 + 4 * t = 159 + 4 * t by omega, show 1 + 19 + 4 * t = 20 + 4 * t by omega, h4, b6 _ _ (by omega) (by omega) (by omega) (by omega) (by omega)]
  · rw [f3 _ (by omega) (by omega) (by omega)]
    have h4 := (g2 t ht).2 o i h1 h2 h3
    rw [show 140 + 19 + 4 * t + o = 159 + 4 * t + o by omega, show 1 + 19 + 4 * t + o = 20 + 4 * t + o by omega, h4, b6 _ _ (by omega) (by omega) (by omega) (by omega) (by omega)]
  · rw [f3 _ (by omega) (by omega) (by omega), f2 _ (by omega)]
    funext q
    exact b6 _ _ (by omega) (by omega) (by omega) (by omega) (by omega)
/-- the numbers of a new port -/
def A0 : Nat → Int := fun i => if i = 8 then 373 else if i = 2 ∨ (110 ≤ i ∧ i ≤ 113) then -1 else 0
theorem A0_z {i : Nat} (h : i ≠ 8 ∧ i ≠ 2 ∧ (i < 110 ∨ 113 < i)) : A0 i = 0 := by
  unfold A0
  rw [if_neg h.1, if_neg (by omega)]
theorem A0_d {i : Nat} (h : i < 4) : A0 (110 + i) = -1 := by
  unfold A0
  rw [if_neg (by omega), if_pos (by omega)]
theorem ClW_0 {J : CI} {b : Nat} (h : WZ J b) : ClW J b A0 := by
  obtain ⟨⟨w1, w2, w3, w4⟩, ⟨x1, x2, x3, x4⟩, ⟨⟨s1, s2, s3, s4, s5, s6⟩, s7, s8, s9⟩, ⟨t1, t2, t3, t4⟩, t5, t6, t7, t8, t9, t10⟩ := h
  refine ⟨⟨⟨?_, ?_, ?_, ?_, ?_, ?_⟩, fun q hq => ⟨?_, ?_, ?_⟩⟩, ⟨⟨?_, ?_, ?_, ?_, ?_, ?_, ?_, ?_, ?_⟩, fun q hq => ⟨?_, ?_, ?_, ?_⟩, fun i hi => ?_, fun i hi => ⟨?_, ?_⟩, fun i hi => ⟨?_, ?_⟩, fun i hi => ?_⟩, fun i hi => ?_, fun i hi => ?_⟩
  · rw [s1]; rfl
  · rw [s4]; rfl
  · rw [s5]; rfl
  · rw [s2]; rfl
  · rw [s3]; rfl
  · rw [s6]; rfl
  · rw [A0_z (by omega)]; exact (s7 q).symm
  · rw [A0_z (by omega)]; exact (s8 q).symm
  · rw [A0_z (by omega)]; exact (s9 q).symm
  · rw [w3]; rfl
  · rw [w4]; rfl
  · rw [w1]; rfl
  · rw [t2]; rfl
  · rw [t3]; rfl
  · rw [t4]; rfl
  · rw [t1]; rfl
  · rw [w2]; decide
  · rw [w2]; decide
  · rw [A0_z (by omega)]; exact (x1 q).symm
  · rw [A0_z (by omega)]; exact (x2 q).symm
  · rw [A0_z (by omega)]; exact (x3 q).symm
  · rw [A0_z (by omega)]; exact (x4 q).symm
  · rw [A0_z (by omega)]; exact (t6 i).symm
  · rw [A0_z (by omega)]; exact (t7 i).symm
  · rw [A0_z (by omega)]; exact (t8 i).symm
  · rw [A0_z (by omega)]; exact (t9 i).symm
  · rw [A0_z (by omega)]; exact (t10 i).symm
  · rw [A0_d hi]; exact (t5 i hi).symm
  · exfalso
    have h9 : (i : Int) < 0 := hi
    omega
  · exfalso
    have h9 : (i : Int) < 0 := hi
    omega
theorem BA_0 : BA A0 := by
  refine ⟨⟨by decide, by decide, by decide, by decide, by decide, fun q hq => ?_, ?_⟩, ⟨by decide, by decide, by decide, by decide, by decide, by decide, by decide⟩, fun q hq => ?_, fun i hi => ?_, fun i hi => ?_, fun i hi => ?_, fun i hi => ?_, fun z hz => ?_⟩
  · rw [A0_z (by omega), A0_z (by omega), A0_z (by omega), A0_z (by omega)]
    exact ⟨by decide, by decide, by decide⟩
  · rfl
  · rw [A0_z (by omega), A0_z (by omega), A0_z (by omega), A0_z (by omega)]
    refine ⟨by decide, by decide, by decide, by decide, fun h9 => ?_⟩
    exfalso
    have h8 : (q : Int) < 0 := h9
    omega
  · rw [A0_z (by omega)]; decide
  · rw [A0_z (by omega), A0_z (by omega)]
    exact ⟨by decide, by decide⟩
  · exfalso
    have h8 : (i : Int) < 0 := hi
    omega
  · rw [A0_d hi]; decide
  · exfalso
    have h8 : (z : Int) < 0 := hz
    omega
end Ctor4
