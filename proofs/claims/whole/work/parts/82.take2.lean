section Take2
variable {n mc ms : Nat} {M : Md} {pc : Nat} {lv : List (Nat × Value)} {st : List Value} {k j : Nat} {Post : PT} {S : Sh} {I : CI} {R : CR} {A : Nat → Int} {tx : Nat → Nat → Int}
theorem tkc_o {I : CI} {a b c i : Nat} (h : c < a ∨ a + 3 < c) : stCp I a b c i = I c i := by unfold stCp; rw [if_neg (by omega), if_neg (by omega)]
theorem tkc_s {I : CI} {a b i : Nat} (h : 3 ≤ i ∧ i ≤ 8) : stCp I a b a i = I b i := by unfold stCp; rw [if_pos rfl, if_pos h]
theorem tkc_r {I : CI} {a b o i : Nat} (h : 1 ≤ o ∧ o ≤ 3) (hi : i < 8) : stCp I a b (a + o) i = I (b + o) i := by unfold stCp; rw [if_neg (by omega), if_pos (by omega), show a + o - a = o by omega]
theorem lp1_take_k {R0 : CR} (cs : CS S R0) (hTO : TO S R0 12) (hK : ∀ R1 : CR, (∀ i, i < 4 → R1 151 i = R0 12 i) → (∀ c i, (c ≠ 151 ∨ 4 ≤ i) → R1 c i = R0 c i) → WP n 0 0 mX10_take Post 100 [(0, .ref (S.2.1 140)), (1, .ref (S.2.1 1))] [] 0 0 S I R1) : ∀ (dd i : Nat) (R1 : CR), i ≤ 4 → 4 - i = dd → (∀ t, t < i → R1 151 t = R0 12 t) → (∀ c t, (c ≠ 151 ∨ 4 ≤ t) → R1 c t = R0 c t) → WP n 0 0 mX10_take Post 77 [(0, .ref (S.2.1 140)), (1, .ref (S.2.1 1)), (2, .int (iI (i : Int)))] [] 0 0 S I R1 := by
  intro dd
  induction dd using Nat.strongRecOn with
  | ind dd ih =>
    intro i R1 i1 i2 hR hO
    have cs1 : CS S R1 := CS_R (fun c t h1 h2 => hO c t (by omega)) cs
    have hsrc : i < 4 → R1 12 i = R0 12 i := fun h => hO 12 i (by omega)
    refine x_iload_n dX10_take_77 rfl ?_
    refine x_iconst dX10_take_78 ?_
    refine x_icmp_ge 100 dX10_take_79 (by decide) ⟨(by omega), (by omega)⟩ (fun w79 => ?_) (fun w79 => ?_)
    · refine x_sub [0, 1] rfl ?_
      obtain rfl : i = 4 := by omega
      exact hK R1 hR hO
    · refine x_aload_n dX10_take_82 rfl ?_
      refine x_getR (b := 151) dX10_take_83 gf_RX10_40 (k_ob_140 cs1) (fun _ _ => rfl) (k_r_140_7 cs1) ?_
      refine x_iload_n dX10_take_86 rfl ?_
      refine x_aload_n dX10_take_87 rfl ?_
      refine x_getR (b := 12) dX10_take_88 gf_RX10_40 (k_ob_1 cs1) (fun _ _ => rfl) (k_r_1_7 cs1) ?_
      refine x_iload_n dX10_take_91 rfl ?_
      refine x_aaload_t dX10_take_92 (k_ar_12 cs1) (by omega) (v := va_rf ((R0 12 i).map S.2.1)) (by rw [tN, hsrc (by omega)]) (by omega) ?_
      rcases hTO i (by omega) with hnn | ⟨id, hid, hob⟩
      · rw [hnn]
        refine x_aastore_tN dX10_take_93 (k_ar_151 cs1) (by omega) (by omega) ?_
        refine x_iinc (lv2 := [(2, _), (0, _), (1, _)]) dX10_take_94 rfl (by decide) rfl ?_
        refine x_goto 77 dX10_take_97 (by decide) ?_
        refine x_sub [1, 2, 0] rfl ?_
        rw [tN]
        refine ih _ (by omega) (i + 1) _ (by omega) rfl (fun t ht => ?_) (fun c t hc => ?_)
        · by_cases e : t = i
          · rw [e, uR_s, hnn]
          · rw [uR_o (Or.inr e)]; exact hR t (by omega)
        · rw [uR_o (by omega)]; exact hO c t hc
      · rw [hid]
        refine x_aastore_t dX10_take_93 (k_ar_151 cs1) hob (by omega) (by omega) ?_
        refine x_iinc (lv2 := [(2, _), (0, _), (1, _)]) dX10_take_94 rfl (by decide) rfl ?_
        refine x_goto 77 dX10_take_97 (by decide) ?_
        refine x_sub [1, 2, 0] rfl ?_
        rw [tN]
        refine ih _ (by omega) (i + 1) _ (by omega) rfl (fun t ht => ?_) (fun c t hc => ?_)
        · by_cases e : t = i
          · rw [e, uR_s, hid]
          · rw [uR_o (Or.inr e)]; exact hR t (by omega)
        · rw [uR_o (by omega)]; exact hO c t hc
theorem lp2_take_k (cs : CS S R) (hn : 2 ≤ n) (hK : ∀ J, (∀ t, t < 30 → (∀ i, 3 ≤ i → i ≤ 8 → J (159 + 4 * t) i = I (20 + 4 * t) i) ∧ ∀ o i, 1 ≤ o → o ≤ 3 → i < 8 → J (159 + 4 * t + o) i = I (20 + 4 * t + o) i) → (∀ c, (c < 159 ∨ 278 < c) → J c = I c) → WP n 0 0 mX10_take Post 129 [(0, .ref (S.2.1 140)), (1, .ref (S.2.1 1))] [] 0 0 S J R) : ∀ (dd t : Nat) (J : CI), t ≤ 30 → 30 - t = dd → (∀ u, u < t → (∀ i, 3 ≤ i → i ≤ 8 → J (159 + 4 * u) i = I (20 + 4 * u) i) ∧ ∀ o i, 1 ≤ o → o ≤ 3 → i < 8 → J (159 + 4 * u + o) i = I (20 + 4 * u + o) i) → (∀ c, (c < 159 ∨ 278 < c) → J c = I c) → WP n 0 0 mX10_take Post 102 [(0, .ref (S.2.1 140)), (1, .ref (S.2.1 1)), (2, .int (iI (t : Int)))] [] 0 0 S J R := by
  intro dd
  induction dd using Nat.strongRecOn with
  | ind dd ih =>
    intro t J t1 t2 hS hO
    have kd : t < 30 → _ := fun h => k_sk cs h
    have ks : t < 30 → _ := fun h => k_sp cs h
    refine x_iload_n dX10_take_102 rfl ?_
    refine x_bipush dX10_take_103 (by decide) ?_
    refine x_icmp_ge 129 dX10_take_105 (by decide) ⟨(by omega), (by omega)⟩ (fun w105 => ?_) (fun w105 => ?_)
    · refine x_sub [0, 1] rfl ?_
      obtain rfl : t = 30 := by omega
      exact hK J hS hO
    · have hkd := kd (by omega)
      have hks := ks (by omega)
      refine x_aload_n dX10_take_108 rfl ?_
      refine x_getR (b := 149) dX10_take_109 gf_RX10_31 (k_ob_140 cs) (fun _ _ => rfl) (k_r_140_5 cs) ?_
      refine x_iload_n dX10_take_112 rfl ?_
      refine x_aaload_s dX10_take_113 (k_ar_149 cs) (by omega) (v := .ref (S.2.1 (159 + 4 * t))) (by rw [tN, hkd.1]; rfl) (by omega) ?_
      refine x_aload_n dX10_take_114 rfl ?_
      refine x_getR (b := 10) dX10_take_115 gf_RX10_31 (k_ob_1 cs) (fun _ _ => rfl) (k_r_1_5 cs) ?_
      refine x_iload_n dX10_take_118 rfl ?_
      refine x_aaload_s dX10_take_119 (k_ar_10 cs) (by omega) (v := .ref (S.2.1 (20 + 4 * t))) (by rw [tN, hks.1]; rfl) (by omega) ?_
      refine x_callV1 (mc1 := 0) (ms1 := 0) dX10_take_120 cv_RX10_61 (ci := 6) hkd.2.1 rfl (Nat.le_of_ble_eq_true rfl) (n1 := n - 1) (by omega) (by omega) (by omega) ?_
      refine sp_X6_take hkd.2 hks.2 (by omega) (by omega) ?_
      refine x_iinc (lv2 := [(2, _), (0, _), (1, _)]) dX10_take_123 rfl (by decide) rfl ?_
      refine x_goto 102 dX10_take_126 (by decide) ?_
      refine x_sub [1, 2, 0] rfl ?_
      refine ih _ (by omega) (t + 1) _ (by omega) rfl (fun u hu => ?_) (fun c hc => by funext q; rw [tkc_o (by omega), hO c hc])
      by_cases e : u = t
      · subst e
        exact ⟨fun i h1 h2 => by rw [tkc_s ⟨h1, h2⟩, hO _ (by omega)], fun o i h1 h2 h3 => by rw [tkc_r ⟨h1, h2⟩ h3, hO _ (by omega)]⟩
      · obtain ⟨v1, v2⟩ := hS u (by omega)
        exact ⟨fun i h1 h2 => by rw [tkc_o (by omega)]; exact v1 i h1 h2, fun o i h1 h2 h3 => by rw [tkc_o (by omega)]; exact v2 o i h1 h2 h3⟩
theorem lp3_take_k (cs : CS S R) (hn : 2 ≤ n) (hp : ∀ J, ((∀ i, 9 ≤ i → i ≤ 12 → J 140 i = I 1 i) ∧ ((∀ i, 3 ≤ i → i ≤ 8 → J 145 i = I 6 i) ∧ ∀ o i, 1 ≤ o → o ≤ 3 → i < 8 → J (145 + o) i = I (6 + o) i) ∧ ((∀ i, 6 ≤ i → i ≤ 9 → J 152 i = I 13 i) ∧ (∀ i, i < 4 → J 153 i = I 14 i) ∧ (∀ i, i < 6 → J 154 i = I 15 i) ∧ (∀ i, i < 10 → J 155 i = I 16 i ∧ J 156 i = I 17 i) ∧ (∀ i, i < 8 → J 157 i = I 18 i ∧ J 158 i = I 19 i))) → (∀ c, c ≠ 140 → (c < 145 ∨ 148 < c) → (c < 152 ∨ 158 < c) → J c = I c) → Post none S J R) : WP n 0 0 mX10_take Post 129 [(0, .ref (S.2.1 140)), (1, .ref (S.2.1 1))] [] 0 0 S I R := by
  refine x_aload_n dX10_take_129 rfl ?_
  refine x_getR (b := 145) dX10_take_130 gf_RX10_27 (k_ob_140 cs) (fun _ _ => rfl) (k_r_140_4 cs) ?_
  refine x_aload_n dX10_take_133 rfl ?_
  refine x_getR (b := 6) dX10_take_134 gf_RX10_27 (k_ob_1 cs) (fun _ _ => rfl) (k_r_1_4 cs) ?_
  refine x_callV1 (mc1 := 0) (ms1 := 0) dX10_take_137 cv_RX10_61 (ci := 6) (k_ob_145 cs) rfl (Nat.le_of_ble_eq_true rfl) (n1 := n - 1) (by omega) (by omega) (by omega) ?_
  refine sp_X6_take (k_st_145 cs) (k_st_6 cs) (by omega) (by omega) ?_
  refine x_aload_n dX10_take_140 rfl ?_
  refine x_getR (b := 152) dX10_take_141 gf_RX10_47 (k_ob_140 cs) (fun _ _ => rfl) (k_r_140_8 cs) ?_
  refine x_aload_n dX10_take_144 rfl ?_
  refine x_getR (b := 13) dX10_take_145 gf_RX10_47 (k_ob_1 cs) (fun _ _ => rfl) (k_r_1_8 cs) ?_
  refine x_callV1 (mc1 := 0) (ms1 := 0) dX10_take_148 cv_RX10_65 (ci := 9) (k_ob_152 cs) rfl (Nat.le_of_ble_eq_true rfl) (n1 := n - 1) (by omega) (by omega) (by omega) ?_
  refine sp_X9_take_k cs (by omega) (fun J148 h148 f148 => ?_)
  refine x_aload_n dX10_take_151 rfl ?_
  refine x_aload_n dX10_take_152 rfl ?_
  refine x_getIv (z := I 1 9) dX10_take_153 gf_RX10_68 (k_ob_1 cs) (fun _ _ => rfl) (by (repeat rw [uI_o (by omega)]); first | rw [f148 1 (by omega), tkc_o (by omega)] | rfl) ?_
  refine x_putI dX10_take_156 gf_RX10_68 (k_ob_140 cs) rfl ?_
  refine x_aload_n dX10_take_159 rfl ?_
  refine x_aload_n dX10_take_160 rfl ?_
  refine x_getIv (z := I 1 10) dX10_take_161 gf_RX10_71 (k_ob_1 cs) (fun _ _ => rfl) (by (repeat rw [uI_o (by omega)]); first | rw [f148 1 (by omega), tkc_o (by omega)] | rfl) ?_
  refine x_putI dX10_take_164 gf_RX10_71 (k_ob_140 cs) rfl ?_
  refine x_aload_n dX10_take_167 rfl ?_
  refine x_aload_n dX10_take_168 rfl ?_
  refine x_getIv (z := I 1 11) dX10_take_169 gf_RX10_74 (k_ob_1 cs) (fun _ _ => rfl) (by (repeat rw [uI_o (by omega)]); first | rw [f148 1 (by omega), tkc_o (by omega)] | rfl) ?_
  refine x_putI dX10_take_172 gf_RX10_74 (k_ob_140 cs) rfl ?_
  refine x_aload_n dX10_take_175 rfl ?_
  refine x_aload_n dX10_take_176 rfl ?_
  refine x_getIv (z := I 1 12) dX10_take_177 gf_RX10_51 (k_ob_1 cs) (fun _ _ => rfl) (by (repeat rw [uI_o (by omega)]); first | rw [f148 1 (by omega), tkc_o (by omega)] | rfl) ?_
  refine x_putI dX10_take_180 gf_RX10_51 (k_ob_140 cs) rfl ?_
  exact x_return dX10_take_183 rfl (by omega) (by omega) (hp _ ⟨fun i h1 h2 => by
    rcases (show i = 9 ∨ i = 10 ∨ i = 11 ∨ i = 12 by omega) with rfl | rfl | rfl | rfl <;> (repeat first | rw [uI_s] | rw [uI_o (by omega)]), ⟨fun i h1 h2 => by (repeat rw [uI_o (by omega)]); rw [f148 145 (by omega), tkc_s ⟨h1, h2⟩], fun o i h1 h2 h3 => by (repeat rw [uI_o (by omega)]); rw [f148 _ (by omega), tkc_r ⟨h1, h2⟩ h3]⟩, by
    have e : ∀ c i, 13 ≤ c → c ≤ 19 → stCp I 145 6 c i = I c i := fun c i h1 h2 => tkc_o (by omega)
    obtain ⟨g1, g2, g3, g4, g5⟩ := h148
    exact ⟨fun i h1 h2 => by (repeat rw [uI_o (by omega)]); rw [g1 i h1 h2, e _ _ (by omega) (by omega)], fun i hi => by (repeat rw [uI_o (by omega)]); rw [g2 i hi, e _ _ (by omega) (by omega)], fun i hi => by (repeat rw [uI_o (by omega)]); rw [g3 i hi, e _ _ (by omega) (by omega)], fun i hi => ⟨by (repeat rw [uI_o (by omega)]); rw [(g4 i hi).1, e _ _ (by omega) (by omega)], by (repeat rw [uI_o (by omega)]); rw [(g4 i hi).2, e _ _ (by omega) (by omega)]⟩, fun i hi => ⟨by (repeat rw [uI_o (by omega)]); rw [(g5 i hi).1, e _ _ (by omega) (by omega)], by (repeat rw [uI_o (by omega)]); rw [(g5 i hi).2, e _ _ (by omega) (by omega)]⟩⟩⟩ (fun c h1 h2 h3 => by
    funext q
    (repeat rw [uI_o (Or.inl h1)])
    rw [f148 c (by omega), tkc_o (by omega)]))
theorem sp_X10_take_k (cs : CS S R) (hTO : TO S R 12) (hn : 3 ≤ n) (hp : ∀ J R1, WCp I J 1 140 → (∀ c, (c < 140 ∨ 278 < c) → J c = I c) → (∀ i, i < 4 → R1 151 i = R 12 i) → (∀ c i, (c ≠ 151 ∨ 4 ≤ i) → R1 c i = R c i) → Post none S J R1) : Call n 0 0 mX10_take [.ref (S.2.1 140), .ref (S.2.1 1)] S I R Post := by
  refine Call.of (by decide +kernel) (Nat.le_of_ble_eq_true rfl) ?_
  show WP _ _ _ _ _ 0 [(0, _), (1, _)] [] 0 0 _ _ _
  refine x_aload_n dX10_take_0 rfl ?_
  refine x_getR (b := 2) dX10_take_1 gf_RX10_9 (k_ob_1 cs) (fun _ _ => rfl) (k_r_1_0 cs) ?_
  refine x_iconst dX10_take_4 ?_
  refine x_aload_n dX10_take_5 rfl ?_
  refine x_getR (b := 141) dX10_take_6 gf_RX10_9 (k_ob_140 cs) (fun _ _ => rfl) (k_r_140_0 cs) ?_
  refine x_iconst dX10_take_9 ?_
  refine x_bipush dX10_take_10 (by decide) ?_
  refine x_copyi (a := 2) (b := 141) dX10_take_12 cw_X10_55 (by omega) (Nat.le_of_ble_eq_true rfl) (N0 := 8) (N1 := 8) (k_ar_2 cs) (k_ar_141 cs) (by omega) (by omega) (by omega) ?_
  refine x_aload_n dX10_take_15 rfl ?_
  refine x_getR (b := 3) dX10_take_16 gf_RX10_15 (k_ob_1 cs) (fun _ _ => rfl) (k_r_1_1 cs) ?_
  refine x_iconst dX10_take_19 ?_
  refine x_aload_n dX10_take_20 rfl ?_
  refine x_getR (b := 142) dX10_take_21 gf_RX10_15 (k_ob_140 cs) (fun _ _ => rfl) (k_r_140_1 cs) ?_
  refine x_iconst dX10_take_24 ?_
  refine x_bipush dX10_take_25 (by decide) ?_
  refine x_copyi (a := 3) (b := 142) dX10_take_27 cw_X10_55 (by omega) (Nat.le_of_ble_eq_true rfl) (N0 := 8) (N1 := 8) (k_ar_3 cs) (k_ar_142 cs) (by omega) (by omega) (by omega) ?_
  refine x_aload_n dX10_take_30 rfl ?_
  refine x_getR (b := 4) dX10_take_31 gf_RX10_18 (k_ob_1 cs) (fun _ _ => rfl) (k_r_1_2 cs) ?_
  refine x_iconst dX10_take_34 ?_
  refine x_aload_n dX10_take_35 rfl ?_
  refine x_getR (b := 143) dX10_take_36 gf_RX10_18 (k_ob_140 cs) (fun _ _ => rfl) (k_r_140_2 cs) ?_
  refine x_iconst dX10_take_39 ?_
  refine x_bipush dX10_take_40 (by decide) ?_
  refine x_copyi (a := 4) (b := 143) dX10_take_42 cw_X10_55 (by omega) (Nat.le_of_ble_eq_true rfl) (N0 := 8) (N1 := 8) (k_ar_4 cs) (k_ar_143 cs) (by omega) (by omega) (by omega) ?_
  refine x_aload_n dX10_take_45 rfl ?_
  refine x_getR (b := 5) dX10_take_46 gf_RX10_21 (k_ob_1 cs) (fun _ _ => rfl) (k_r_1_3 cs) ?_
  refine x_iconst dX10_take_49 ?_
  refine x_aload_n dX10_take_50 rfl ?_
  refine x_getR (b := 144) dX10_take_51 gf_RX10_21 (k_ob_140 cs) (fun _ _ => rfl) (k_r_140_3 cs) ?_
  refine x_iconst dX10_take_54 ?_
  refine x_bipush dX10_take_55 (by decide) ?_
  refine x_copyi (a := 5) (b := 144) dX10_take_57 cw_X10_55 (by omega) (Nat.le_of_ble_eq_true rfl) (N0 := 8) (N1 := 8) (k_ar_5 cs) (k_ar_144 cs) (by omega) (by omega) (by omega) ?_
  refine x_aload_n dX10_take_60 rfl ?_
  refine x_getR (b := 11) dX10_take_61 gf_RX10_35 (k_ob_1 cs) (fun _ _ => rfl) (k_r_1_6 cs) ?_
  refine x_iconst dX10_take_64 ?_
  refine x_aload_n dX10_take_65 rfl ?_
  refine x_getR (b := 150) dX10_take_66 gf_RX10_35 (k_ob_140 cs) (fun _ _ => rfl) (k_r_140_6 cs) ?_
  refine x_iconst dX10_take_69 ?_
  refine x_bipush dX10_take_70 (by decide) ?_
  refine x_copyi (a := 11) (b := 150) dX10_take_72 cw_X10_55 (by omega) (Nat.le_of_ble_eq_true rfl) (N0 := 120) (N1 := 120) (k_ar_11 cs) (k_ar_150 cs) (by omega) (by omega) (by omega) ?_
  refine x_iconst dX10_take_75 ?_
  refine x_istore_n (lv2 := [(2, _), (0, _), (1, _)]) dX10_take_76 (by decide) rfl ?_
  refine x_sub [1, 2, 0] rfl ?_
  refine lp1_take_k cs hTO (fun R1 hR1 hR2 => ?_) _ 0 R (by omega) rfl (fun t ht => by omega) (fun c t _ => rfl)
  have cs1 : CS S R1 := CS_R (fun c t h1 h2 => hR2 c t (by omega)) cs
  refine x_iconst dX10_take_100 ?_
  refine x_istore_n (lv2 := [(2, _), (0, _), (1, _)]) dX10_take_101 (by decide) rfl ?_
  refine x_sub [1, 2, 0] rfl ?_
  refine lp2_take_k cs1 (by omega) (fun J2 g2 f2 => ?_) _ 0 _ (by omega) rfl (fun u hu => by omega) (fun c _ => rfl)
  refine lp3_take_k cs1 (by omega) (fun J3 g3 f3 => ?_)
  obtain ⟨a1, ⟨a2, a3⟩, a4⟩ := g3
  obtain ⟨J1, hJ1⟩ : ∃ J1, J1 = cpI (cpI (cpI (cpI (cpI I 2 141 (Int.toNat 0) (Int.toNat 0) (Int.toNat 8)) 3 142 (Int.toNat 0) (Int.toNat 0) (Int.toNat 8)) 4 143 (Int.toNat 0) (Int.toNat 0) (Int.toNat 8)) 5 144 (Int.toNat 0) (Int.toNat 0) (Int.toNat 8)) 11 150 (Int.toNat 0) (Int.toNat 0) (Int.toNat 120) := ⟨_, rfl⟩
  have b1 : ∀ i, i < 8 → J1 141 i = I 2 i := fun i hi => by rw [hJ1]; exact (by (repeat rw [cpI_o (by omega)]); rw [cpI_s (by omega)]; (repeat rw [cpI_o (by omega)]); rw [show Int.toNat 0 + (i - Int.toNat 0) = i by show 0 + (i - 0) = i; omega])
  have b2 : ∀ i, i < 8 → J1 142 i = I 3 i := fun i hi => by rw [hJ1]; exact (by (repeat rw [cpI_o (by omega)]); rw [cpI_s (by omega)]; (repeat rw [cpI_o (by omega)]); rw [show Int.toNat 0 + (i - Int.toNat 0) = i by show 0 + (i - 0) = i; omega])
  have b3 : ∀ i, i < 8 → J1 143 i = I 4 i := fun i hi => by rw [hJ1]; exact (by (repeat rw [cpI_o (by omega)]); rw [cpI_s (by omega)]; (repeat rw [cpI_o (by omega)]); rw [show Int.toNat 0 + (i - Int.toNat 0) = i by show 0 + (i - 0) = i; omega])
  have b4 : ∀ i, i < 8 → J1 144 i = I 5 i := fun i hi => by rw [hJ1]; exact (by (repeat rw [cpI_o (by omega)]); rw [cpI_s (by omega)]; (repeat rw [cpI_o (by omega)]); rw [show Int.toNat 0 + (i - Int.toNat 0) = i by show 0 + (i - 0) = i; omega])
  have b5 : ∀ i, i < 120 → J1 150 i = I 11 i := fun i hi => by rw [hJ1]; exact (by (repeat rw [cpI_o (by omega)]); rw [cpI_s (by omega)]; (repeat rw [cpI_o (by omega)]); rw [show Int.toNat 0 + (i - Int.toNat 0) = i by show 0 + (i - 0) = i; omega])
  have b6 : ∀ c i, c ≠ 141 → c ≠ 142 → c ≠ 143 → c ≠ 144 → c ≠ 150 → J1 c i = I c i := fun c i h1 h2 h3 h4 h5 => by rw [hJ1, cpI_o h5, cpI_o h4, cpI_o h3, cpI_o h2, cpI_o h1]
  rw [← hJ1] at g2 f2
  obtain ⟨a5, a6, a7, a8, a9⟩ := a4
  refine hp J3 R1 ⟨fun i h1 h2 => ?_, fun o i h1 h2 h3 => ?_, ⟨fun i h1 h2 => ?_, fun o i h1 h2 h3 => ?_⟩, fun i hi => ?_, ⟨fun i h1 h2 => ?_, fun i hi => ?_, fun i hi => ?_, fun i hi => ⟨?_, ?_⟩, fun i hi => ⟨?_, ?_⟩⟩, fun t ht => ⟨fun i h1 h2 => ?_, fun o i h1 h2 h3 => ?_⟩⟩ (fun c hc => ?_) hR1 hR2
  · rw [a1 i h1 h2, f2 1 (by omega), b6 _ _ (by omega) (by omega) (by omega) (by omega) (by omega)]
  · rw [f3 _ (by omega) (by omega) (by omega), f2 _ (by omega)]
    rcases (show o = 1 ∨ o = 2 ∨ o = 3 ∨ o = 4 by omega) with rfl | rfl | rfl | rfl
    · exact b1 i h3
    · exact b2 i h3
    · exact b3 i h3
    · exact b4 i h3
  · rw [a2 i h1 h2, f2 _ (by omega), b6 _ _ (by omega) (by omega) (by omega) (by omega) (by omega)]
  · have h4 := a3 (o - 5) i (by omega) (by omega) h3
    rw [show 140 + 5 + (o - 5) = 140 + o by omega, show 1 + 5 + (o - 5) = 1 + o by omega] at h4
    rw [h4, f2 _ (by omega), b6 _ _ (by omega) (by omega) (by omega) (by omega) (by omega)]
  · rw [f3 _ (by omega) (by omega) (by omega), f2 _ (by omega)]; exact b5 i hi
  · rw [a5 i h1 h2, f2 _ (by omega), b6 _ _ (by omega) (by omega) (by omega) (by omega) (by omega)]
  · rw [a6 i hi, f2 _ (by omega), b6 _ _ (by omega) (by omega) (by omega) (by omega) (by omega)]
  · rw [a7 i hi, f2 _ (by omega), b6 _ _ (by omega) (by omega) (by omega) (by omega) (by omega)]
  · rw [(a8 i hi).1, f2 _ (by omega), b6 _ _ (by omega) (by omega) (by omega) (by omega) (by omega)]
  · rw [(a8 i hi).2, f2 _ (by omega), b6 _ _ (by omega) (by omega) (by omega) (by omega) (by omega)]
  · rw [(a9 i hi).1, f2 _ (by omega), b6 _ _ (by omega) (by omega) (by omega) (by omega) (by omega)]
  · rw [(a9 i hi).2, f2 _ (by omega), b6 _ _ (by omega) (by omega) (by omega) (by omega) (by omega)]
  · rw [f3 _ (by omega) (by omega) (by omega)]
    have h4 := (g2 t ht).1 i h1 h2
    rw [show 140 + 19 + 4 * t = 159 + 4 * t by omega, show 1 + 19 + 4 * t = 20 + 4 * t by omega, h4, b6 _ _ (by omega) (by omega) (by omega) (by omega) (by omega)]
  · rw [f3 _ (by omega) (by omega) (by omega)]
    have h4 := (g2 t ht).2 o i h1 h2 h3
    rw [show 140 + 19 + 4 * t + o = 159 + 4 * t + o by omega, show 1 + 19 + 4 * t + o = 20 + 4 * t + o by omega, h4, b6 _ _ (by omega) (by omega) (by omega) (by omega) (by omega)]
  · rw [f3 _ (by omega) (by omega) (by omega), f2 _ (by omega)]
    funext q
    exact b6 _ _ (by omega) (by omega) (by omega) (by omega) (by omega)
theorem lp1_take_b {R0 : CR} (cs : CS S R0) (hTO : TO S R0 151) (hK : ∀ R1 : CR, (∀ i, i < 4 → R1 12 i = R0 151 i) → (∀ c i, (c ≠ 12 ∨ 4 ≤ i) → R1 c i = R0 c i) → WP n 0 0 mX10_take Post 100 [(0, .ref (S.2.1 1)), (1, .ref (S.2.1 140))] [] 0 0 S I R1) : ∀ (dd i : Nat) (R1 : CR), i ≤ 4 → 4 - i = dd → (∀ t, t < i → R1 12 t = R0 151 t) → (∀ c t, (c ≠ 12 ∨ 4 ≤ t) → R1 c t = R0 c t) → WP n 0 0 mX10_take Post 77 [(0, .ref (S.2.1 1)), (1, .ref (S.2.1 140)), (2, .int (iI (i : Int)))] [] 0 0 S I R1 := by
  intro dd
  induction dd using Nat.strongRecOn with
  | ind dd ih =>
    intro i R1 i1 i2 hR hO
    have cs1 : CS S R1 := CS_R (fun c t h1 h2 => hO c t (by omega)) cs
    have hsrc : i < 4 → R1 151 i = R0 151 i := fun h => hO 151 i (by omega)
    refine x_iload_n dX10_take_77 rfl ?_
    refine x_iconst dX10_take_78 ?_
    refine x_icmp_ge 100 dX10_take_79 (by decide) ⟨(by omega), (by omega)⟩ (fun w79 => ?_) (fun w79 => ?_)
    · refine x_sub [0, 1] rfl ?_
      obtain rfl : i = 4 := by omega
      exact hK R1 hR hO
    · refine x_aload_n dX10_take_82 rfl ?_
      refine x_getR (b := 12) dX10_take_83 gf_RX10_40 (k_ob_1 cs1) (fun _ _ => rfl) (k_r_1_7 cs1) ?_
      refine x_iload_n dX10_take_86 rfl ?_
      refine x_aload_n dX10_take_87 rfl ?_
      refine x_getR (b := 151) dX10_take_88 gf_RX10_40 (k_ob_140 cs1) (fun _ _ => rfl) (k_r_140_7 cs1) ?_
      refine x_iload_n dX10_take_91 rfl ?_
      refine x_aaload_t dX10_take_92 (k_ar_151 cs1) (by omega) (v := va_rf ((R0 151 i).map S.2.1)) (by rw [tN, hsrc (by omega)]) (by omega) ?_
      rcases hTO i (by omega) with hnn | ⟨id, hid, hob⟩
      · rw [hnn]
        refine x_aastore_tN dX10_take_93 (k_ar_12 cs1) (by omega) (by omega) ?_
        refine x_iinc (lv2 := [(2, _), (0, _), (1, _)]) dX10_take_94 rfl (by decide) rfl ?_
        refine x_goto 77 dX10_take_97 (by decide) ?_
        refine x_sub [1, 2, 0] rfl ?_
        rw [tN]
        refine ih _ (by omega) (i + 1) _ (by omega) rfl (fun t ht => ?_) (fun c t hc => ?_)
        · by_cases e : t = i
          · rw [e, uR_s, hnn]
          · rw [uR_o (Or.inr e)]; exact hR t (by omega)
        · rw [uR_o (by omega)]; exact hO c t hc
      · rw [hid]
        refine x_aastore_t dX10_take_93 (k_ar_12 cs1) hob (by omega) (by omega) ?_
        refine x_iinc (lv2 := [(2, _), (0, _), (1, _)]) dX10_take_94 rfl (by decide) rfl ?_
        refine x_goto 77 dX10_take_97 (by decide) ?_
        refine x_sub [1, 2, 0] rfl ?_
        rw [tN]
        refine ih _ (by omega) (i + 1) _ (by omega) rfl (fun t ht => ?_) (fun c t hc => ?_)
        · by_cases e : t = i
          · rw [e, uR_s, hid]
          · rw [uR_o (Or.inr e)]; exact hR t (by omega)
        · rw [uR_o (by omega)]; exact hO c t hc
theorem lp2_take_b (cs : CS S R) (hn : 2 ≤ n) (hK : ∀ J, (∀ t, t < 30 → (∀ i, 3 ≤ i → i ≤ 8 → J (20 + 4 * t) i = I (159 + 4 * t) i) ∧ ∀ o i, 1 ≤ o → o ≤ 3 → i < 8 → J (20 + 4 * t + o) i = I (159 + 4 * t + o) i) → (∀ c, (c < 20 ∨ 139 < c) → J c = I c) → WP n 0 0 mX10_take Post 129 [(0, .ref (S.2.1 1)), (1, .ref (S.2.1 140))] [] 0 0 S J R) : ∀ (dd t : Nat) (J : CI), t ≤ 30 → 30 - t = dd → (∀ u, u < t → (∀ i, 3 ≤ i → i ≤ 8 → J (20 + 4 * u) i = I (159 + 4 * u) i) ∧ ∀ o i, 1 ≤ o → o ≤ 3 → i < 8 → J (20 + 4 * u + o) i = I (159 + 4 * u + o) i) → (∀ c, (c < 20 ∨ 139 < c) → J c = I c) → WP n 0 0 mX10_take Post 102 [(0, .ref (S.2.1 1)), (1, .ref (S.2.1 140)), (2, .int (iI (t : Int)))] [] 0 0 S J R := by
  intro dd
  induction dd using Nat.strongRecOn with
  | ind dd ih =>
    intro t J t1 t2 hS hO
    have kd : t < 30 → _ := fun h => k_sp cs h
    have ks : t < 30 → _ := fun h => k_sk cs h
    refine x_iload_n dX10_take_102 rfl ?_
    refine x_bipush dX10_take_103 (by decide) ?_
    refine x_icmp_ge 129 dX10_take_105 (by decide) ⟨(by omega), (by omega)⟩ (fun w105 => ?_) (fun w105 => ?_)
    · refine x_sub [0, 1] rfl ?_
      obtain rfl : t = 30 := by omega
      exact hK J hS hO
    · have hkd := kd (by omega)
      have hks := ks (by omega)
      refine x_aload_n dX10_take_108 rfl ?_
      refine x_getR (b := 10) dX10_take_109 gf_RX10_31 (k_ob_1 cs) (fun _ _ => rfl) (k_r_1_5 cs) ?_
      refine x_iload_n dX10_take_112 rfl ?_
      refine x_aaload_s dX10_take_113 (k_ar_10 cs) (by omega) (v := .ref (S.2.1 (20 + 4 * t))) (by rw [tN, hkd.1]; rfl) (by omega) ?_
      refine x_aload_n dX10_take_114 rfl ?_
      refine x_getR (b := 149) dX10_take_115 gf_RX10_31 (k_ob_140 cs) (fun _ _ => rfl) (k_r_140_5 cs) ?_
      refine x_iload_n dX10_take_118 rfl ?_
      refine x_aaload_s dX10_take_119 (k_ar_149 cs) (by omega) (v := .ref (S.2.1 (159 + 4 * t))) (by rw [tN, hks.1]; rfl) (by omega) ?_
      refine x_callV1 (mc1 := 0) (ms1 := 0) dX10_take_120 cv_RX10_61 (ci := 6) hkd.2.1 rfl (Nat.le_of_ble_eq_true rfl) (n1 := n - 1) (by omega) (by omega) (by omega) ?_
      refine sp_X6_take hkd.2 hks.2 (by omega) (by omega) ?_
      refine x_iinc (lv2 := [(2, _), (0, _), (1, _)]) dX10_take_123 rfl (by decide) rfl ?_
      refine x_goto 102 dX10_take_126 (by decide) ?_
      refine x_sub [1, 2, 0] rfl ?_
      refine ih _ (by omega) (t + 1) _ (by omega) rfl (fun u hu => ?_) (fun c hc => by funext q; rw [tkc_o (by omega), hO c hc])
      by_cases e : u = t
      · subst e
        exact ⟨fun i h1 h2 => by rw [tkc_s ⟨h1, h2⟩, hO _ (by omega)], fun o i h1 h2 h3 => by rw [tkc_r ⟨h1, h2⟩ h3, hO _ (by omega)]⟩
      · obtain ⟨v1, v2⟩ := hS u (by omega)
        exact ⟨fun i h1 h2 => by rw [tkc_o (by omega)]; exact v1 i h1 h2, fun o i h1 h2 h3 => by rw [tkc_o (by omega)]; exact v2 o i h1 h2 h3⟩
theorem lp3_take_b (cs : CS S R) (hn : 2 ≤ n) (hp : ∀ J, ((∀ i, 9 ≤ i → i ≤ 12 → J 1 i = I 140 i) ∧ ((∀ i, 3 ≤ i → i ≤ 8 → J 6 i = I 145 i) ∧ ∀ o i, 1 ≤ o → o ≤ 3 → i < 8 → J (6 + o) i = I (145 + o) i) ∧ ((∀ i, 6 ≤ i → i ≤ 9 → J 13 i = I 152 i) ∧ (∀ i, i < 4 → J 14 i = I 153 i) ∧ (∀ i, i < 6 → J 15 i = I 154 i) ∧ (∀ i, i < 10 → J 16 i = I 155 i ∧ J 17 i = I 156 i) ∧ (∀ i, i < 8 → J 18 i = I 157 i ∧ J 19 i = I 158 i))) → (∀ c, c ≠ 1 → (c < 6 ∨ 9 < c) → (c < 13 ∨ 19 < c) → J c = I c) → Post none S J R) : WP n 0 0 mX10_take Post 129 [(0, .ref (S.2.1 1)), (1, .ref (S.2.1 140))] [] 0 0 S I R := by
  refine x_aload_n dX10_take_129 rfl ?_
  refine x_getR (b := 6) dX10_take_130 gf_RX10_27 (k_ob_1 cs) (fun _ _ => rfl) (k_r_1_4 cs) ?_
  refine x_aload_n dX10_take_133 rfl ?_
  refine x_getR (b := 145) dX10_take_134 gf_RX10_27 (k_ob_140 cs) (fun _ _ => rfl) (k_r_140_4 cs) ?_
  refine x_callV1 (mc1 := 0) (ms1 := 0) dX10_take_137 cv_RX10_61 (ci := 6) (k_ob_6 cs) rfl (Nat.le_of_ble_eq_true rfl) (n1 := n - 1) (by omega) (by omega) (by omega) ?_
  refine sp_X6_take (k_st_6 cs) (k_st_145 cs) (by omega) (by omega) ?_
  refine x_aload_n dX10_take_140 rfl ?_
  refine x_getR (b := 13) dX10_take_141 gf_RX10_47 (k_ob_1 cs) (fun _ _ => rfl) (k_r_1_8 cs) ?_
  refine x_aload_n dX10_take_144 rfl ?_
  refine x_getR (b := 152) dX10_take_145 gf_RX10_47 (k_ob_140 cs) (fun _ _ => rfl) (k_r_140_8 cs) ?_
  refine x_callV1 (mc1 := 0) (ms1 := 0) dX10_take_148 cv_RX10_65 (ci := 9) (k_ob_13 cs) rfl (Nat.le_of_ble_eq_true rfl) (n1 := n - 1) (by omega) (by omega) (by omega) ?_
  refine sp_X9_take_b cs (by omega) (fun J148 h148 f148 => ?_)
  refine x_aload_n dX10_take_151 rfl ?_
  refine x_aload_n dX10_take_152 rfl ?_
  refine x_getIv (z := I 140 9) dX10_take_153 gf_RX10_68 (k_ob_140 cs) (fun _ _ => rfl) (by (repeat rw [uI_o (by omega)]); first | rw [f148 140 (by omega), tkc_o (by omega)] | rfl) ?_
  refine x_putI dX10_take_156 gf_RX10_68 (k_ob_1 cs) rfl ?_
  refine x_aload_n dX10_take_159 rfl ?_
  refine x_aload_n dX10_take_160 rfl ?_
  refine x_getIv (z := I 140 10) dX10_take_161 gf_RX10_71 (k_ob_140 cs) (fun _ _ => rfl) (by (repeat rw [uI_o (by omega)]); first | rw [f148 140 (by omega), tkc_o (by omega)] | rfl) ?_
  refine x_putI dX10_take_164 gf_RX10_71 (k_ob_1 cs) rfl ?_
  refine x_aload_n dX10_take_167 rfl ?_
  refine x_aload_n dX10_take_168 rfl ?_
  refine x_getIv (z := I 140 11) dX10_take_169 gf_RX10_74 (k_ob_140 cs) (fun _ _ => rfl) (by (repeat rw [uI_o (by omega)]); first | rw [f148 140 (by omega), tkc_o (by omega)] | rfl) ?_
  refine x_putI dX10_take_172 gf_RX10_74 (k_ob_1 cs) rfl ?_
  refine x_aload_n dX10_take_175 rfl ?_
  refine x_aload_n dX10_take_176 rfl ?_
  refine x_getIv (z := I 140 12) dX10_take_177 gf_RX10_51 (k_ob_140 cs) (fun _ _ => rfl) (by (repeat rw [uI_o (by omega)]); first | rw [f148 140 (by omega), tkc_o (by omega)] | rfl) ?_
  refine x_putI dX10_take_180 gf_RX10_51 (k_ob_1 cs) rfl ?_
  exact x_return dX10_take_183 rfl (by omega) (by omega) (hp _ ⟨fun i h1 h2 => by
    rcases (show i = 9 ∨ i = 10 ∨ i = 11 ∨ i = 12 by omega) with rfl | rfl | rfl | rfl <;> (repeat first | rw [uI_s] | rw [uI_o (by omega)]), ⟨fun i h1 h2 => by (repeat rw [uI_o (by omega)]); rw [f148 6 (by omega), tkc_s ⟨h1, h2⟩], fun o i h1 h2 h3 => by (repeat rw [uI_o (by omega)]); rw [f148 _ (by omega), tkc_r ⟨h1, h2⟩ h3]⟩, by
    have e : ∀ c i, 152 ≤ c → c ≤ 158 → stCp I 6 145 c i = I c i := fun c i h1 h2 => tkc_o (by omega)
    obtain ⟨g1, g2, g3, g4, g5⟩ := h148
    exact ⟨fun i h1 h2 => by (repeat rw [uI_o (by omega)]); rw [g1 i h1 h2, e _ _ (by omega) (by omega)], fun i hi => by (repeat rw [uI_o (by omega)]); rw [g2 i hi, e _ _ (by omega) (by omega)], fun i hi => by (repeat rw [uI_o (by omega)]); rw [g3 i hi, e _ _ (by omega) (by omega)], fun i hi => ⟨by (repeat rw [uI_o (by omega)]); rw [(g4 i hi).1, e _ _ (by omega) (by omega)], by (repeat rw [uI_o (by omega)]); rw [(g4 i hi).2, e _ _ (by omega) (by omega)]⟩, fun i hi => ⟨by (repeat rw [uI_o (by omega)]); rw [(g5 i hi).1, e _ _ (by omega) (by omega)], by (repeat rw [uI_o (by omega)]); rw [(g5 i hi).2, e _ _ (by omega) (by omega)]⟩⟩⟩ (fun c h1 h2 h3 => by
    funext q
    (repeat rw [uI_o (Or.inl h1)])
    rw [f148 c (by omega), tkc_o (by omega)]))
theorem sp_X10_take_b (cs : CS S R) (hTO : TO S R 151) (hn : 3 ≤ n) (hp : ∀ J R1, WCp I J 140 1 → (∀ c, (c < 1 ∨ 139 < c) → J c = I c) → (∀ i, i < 4 → R1 12 i = R 151 i) → (∀ c i, (c ≠ 12 ∨ 4 ≤ i) → R1 c i = R c i) → Post none S J R1) : Call n 0 0 mX10_take [.ref (S.2.1 1), .ref (S.2.1 140)] S I R Post := by
  refine Call.of (by decide +kernel) (Nat.le_of_ble_eq_true rfl) ?_
  show WP _ _ _ _ _ 0 [(0, _), (1, _)] [] 0 0 _ _ _
  refine x_aload_n dX10_take_0 rfl ?_
  refine x_getR (b := 141) dX10_take_1 gf_RX10_9 (k_ob_140 cs) (fun _ _ => rfl) (k_r_140_0 cs) ?_
  refine x_iconst dX10_take_4 ?_
  refine x_aload_n dX10_take_5 rfl ?_
  refine x_getR (b := 2) dX10_take_6 gf_RX10_9 (k_ob_1 cs) (fun _ _ => rfl) (k_r_1_0 cs) ?_
  refine x_iconst dX10_take_9 ?_
  refine x_bipush dX10_take_10 (by decide) ?_
  refine x_copyi (a := 141) (b := 2) dX10_take_12 cw_X10_55 (by omega) (Nat.le_of_ble_eq_true rfl) (N0 := 8) (N1 := 8) (k_ar_141 cs) (k_ar_2 cs) (by omega) (by omega) (by omega) ?_
  refine x_aload_n dX10_take_15 rfl ?_
  refine x_getR (b := 142) dX10_take_16 gf_RX10_15 (k_ob_140 cs) (fun _ _ => rfl) (k_r_140_1 cs) ?_
  refine x_iconst dX10_take_19 ?_
  refine x_aload_n dX10_take_20 rfl ?_
  refine x_getR (b := 3) dX10_take_21 gf_RX10_15 (k_ob_1 cs) (fun _ _ => rfl) (k_r_1_1 cs) ?_
  refine x_iconst dX10_take_24 ?_
  refine x_bipush dX10_take_25 (by decide) ?_
  refine x_copyi (a := 142) (b := 3) dX10_take_27 cw_X10_55 (by omega) (Nat.le_of_ble_eq_true rfl) (N0 := 8) (N1 := 8) (k_ar_142 cs) (k_ar_3 cs) (by omega) (by omega) (by omega) ?_
  refine x_aload_n dX10_take_30 rfl ?_
  refine x_getR (b := 143) dX10_take_31 gf_RX10_18 (k_ob_140 cs) (fun _ _ => rfl) (k_r_140_2 cs) ?_
  refine x_iconst dX10_take_34 ?_
  refine x_aload_n dX10_take_35 rfl ?_
  refine x_getR (b := 4) dX10_take_36 gf_RX10_18 (k_ob_1 cs) (fun _ _ => rfl) (k_r_1_2 cs) ?_
  refine x_iconst dX10_take_39 ?_
  refine x_bipush dX10_take_40 (by decide) ?_
  refine x_copyi (a := 143) (b := 4) dX10_take_42 cw_X10_55 (by omega) (Nat.le_of_ble_eq_true rfl) (N0 := 8) (N1 := 8) (k_ar_143 cs) (k_ar_4 cs) (by omega) (by omega) (by omega) ?_
  refine x_aload_n dX10_take_45 rfl ?_
  refine x_getR (b := 144) dX10_take_46 gf_RX10_21 (k_ob_140 cs) (fun _ _ => rfl) (k_r_140_3 cs) ?_
  refine x_iconst dX10_take_49 ?_
  refine x_aload_n dX10_take_50 rfl ?_
  refine x_getR (b := 5) dX10_take_51 gf_RX10_21 (k_ob_1 cs) (fun _ _ => rfl) (k_r_1_3 cs) ?_
  refine x_iconst dX10_take_54 ?_
  refine x_bipush dX10_take_55 (by decide) ?_
  refine x_copyi (a := 144) (b := 5) dX10_take_57 cw_X10_55 (by omega) (Nat.le_of_ble_eq_true rfl) (N0 := 8) (N1 := 8) (k_ar_144 cs) (k_ar_5 cs) (by omega) (by omega) (by omega) ?_
  refine x_aload_n dX10_take_60 rfl ?_
  refine x_getR (b := 150) dX10_take_61 gf_RX10_35 (k_ob_140 cs) (fun _ _ => rfl) (k_r_140_6 cs) ?_
  refine x_iconst dX10_take_64 ?_
  refine x_aload_n dX10_take_65 rfl ?_
  refine x_getR (b := 11) dX10_take_66 gf_RX10_35 (k_ob_1 cs) (fun _ _ => rfl) (k_r_1_6 cs) ?_
  refine x_iconst dX10_take_69 ?_
  refine x_bipush dX10_take_70 (by decide) ?_
  refine x_copyi (a := 150) (b := 11) dX10_take_72 cw_X10_55 (by omega) (Nat.le_of_ble_eq_true rfl) (N0 := 120) (N1 := 120) (k_ar_150 cs) (k_ar_11 cs) (by omega) (by omega) (by omega) ?_
  refine x_iconst dX10_take_75 ?_
  refine x_istore_n (lv2 := [(2, _), (0, _), (1, _)]) dX10_take_76 (by decide) rfl ?_
  refine x_sub [1, 2, 0] rfl ?_
  refine lp1_take_b cs hTO (fun R1 hR1 hR2 => ?_) _ 0 R (by omega) rfl (fun t ht => by omega) (fun c t _ => rfl)
  have cs1 : CS S R1 := CS_R (fun c t h1 h2 => hR2 c t (by omega)) cs
  refine x_iconst dX10_take_100 ?_
  refine x_istore_n (lv2 := [(2, _), (0, _), (1, _)]) dX10_take_101 (by decide) rfl ?_
  refine x_sub [1, 2, 0] rfl ?_
  refine lp2_take_b cs1 (by omega) (fun J2 g2 f2 => ?_) _ 0 _ (by omega) rfl (fun u hu => by omega) (fun c _ => rfl)
  refine lp3_take_b cs1 (by omega) (fun J3 g3 f3 => ?_)
  obtain ⟨a1, ⟨a2, a3⟩, a4⟩ := g3
  obtain ⟨J1, hJ1⟩ : ∃ J1, J1 = cpI (cpI (cpI (cpI (cpI I 141 2 (Int.toNat 0) (Int.toNat 0) (Int.toNat 8)) 142 3 (Int.toNat 0) (Int.toNat 0) (Int.toNat 8)) 143 4 (Int.toNat 0) (Int.toNat 0) (Int.toNat 8)) 144 5 (Int.toNat 0) (Int.toNat 0) (Int.toNat 8)) 150 11 (Int.toNat 0) (Int.toNat 0) (Int.toNat 120) := ⟨_, rfl⟩
  have b1 : ∀ i, i < 8 → J1 2 i = I 141 i := fun i hi => by rw [hJ1]; exact (by (repeat rw [cpI_o (by omega)]); rw [cpI_s (by omega)]; (repeat rw [cpI_o (by omega)]); rw [show Int.toNat 0 + (i - Int.toNat 0) = i by show 0 + (i - 0) = i; omega])
  have b2 : ∀ i, i < 8 → J1 3 i = I 142 i := fun i hi => by rw [hJ1]; exact (by (repeat rw [cpI_o (by omega)]); rw [cpI_s (by omega)]; (repeat rw [cpI_o (by omega)]); rw [show Int.toNat 0 + (i - Int.toNat 0) = i by show 0 + (i - 0) = i; omega])
  have b3 : ∀ i, i < 8 → J1 4 i = I 143 i := fun i hi => by rw [hJ1]; exact (by (repeat rw [cpI_o (by omega)]); rw [cpI_s (by omega)]; (repeat rw [cpI_o (by omega)]); rw [show Int.toNat 0 + (i - Int.toNat 0) = i by show 0 + (i - 0) = i; omega])
  have b4 : ∀ i, i < 8 → J1 5 i = I 144 i := fun i hi => by rw [hJ1]; exact (by (repeat rw [cpI_o (by omega)]); rw [cpI_s (by omega)]; (repeat rw [cpI_o (by omega)]); rw [show Int.toNat 0 + (i - Int.toNat 0) = i by show 0 + (i - 0) = i; omega])
  have b5 : ∀ i, i < 120 → J1 11 i = I 150 i := fun i hi => by rw [hJ1]; exact (by (repeat rw [cpI_o (by omega)]); rw [cpI_s (by omega)]; (repeat rw [cpI_o (by omega)]); rw [show Int.toNat 0 + (i - Int.toNat 0) = i by show 0 + (i - 0) = i; omega])
  have b6 : ∀ c i, c ≠ 2 → c ≠ 3 → c ≠ 4 → c ≠ 5 → c ≠ 11 → J1 c i = I c i := fun c i h1 h2 h3 h4 h5 => by rw [hJ1, cpI_o h5, cpI_o h4, cpI_o h3, cpI_o h2, cpI_o h1]
  rw [← hJ1] at g2 f2
  obtain ⟨a5, a6, a7, a8, a9⟩ := a4
  refine hp J3 R1 ⟨fun i h1 h2 => ?_, fun o i h1 h2 h3 => ?_, ⟨fun i h1 h2 => ?_, fun o i h1 h2 h3 => ?_⟩, fun i hi => ?_, ⟨fun i h1 h2 => ?_, fun i hi => ?_, fun i hi => ?_, fun i hi => ⟨?_, ?_⟩, fun i hi => ⟨?_, ?_⟩⟩, fun t ht => ⟨fun i h1 h2 => ?_, fun o i h1 h2 h3 => ?_⟩⟩ (fun c hc => ?_) hR1 hR2
  · rw [a1 i h1 h2, f2 140 (by omega), b6 _ _ (by omega) (by omega) (by omega) (by omega) (by omega)]
  · rw [f3 _ (by omega) (by omega) (by omega), f2 _ (by omega)]
    rcases (show o = 1 ∨ o = 2 ∨ o = 3 ∨ o = 4 by omega) with rfl | rfl | rfl | rfl
    · exact b1 i h3
    · exact b2 i h3
    · exact b3 i h3
    · exact b4 i h3
  · rw [a2 i h1 h2, f2 _ (by omega), b6 _ _ (by omega) (by omega) (by omega) (by omega) (by omega)]
  · have h4 := a3 (o - 5) i (by omega) (by omega) h3
    rw [show 1 + 5 + (o - 5) = 1 + o by omega, show 140 + 5 + (o - 5) = 140 + o by omega] at h4
    rw [h4, f2 _ (by omega), b6 _ _ (by omega) (by omega) (by omega) (by omega) (by omega)]
  · rw [f3 _ (by omega) (by omega) (by omega), f2 _ (by omega)]; exact b5 i hi
  · rw [a5 i h1 h2, f2 _ (by omega), b6 _ _ (by omega) (by omega) (by omega) (by omega) (by omega)]
  · rw [a6 i hi, f2 _ (by omega), b6 _ _ (by omega) (by omega) (by omega) (by omega) (by omega)]
  · rw [a7 i hi, f2 _ (by omega), b6 _ _ (by omega) (by omega) (by omega) (by omega) (by omega)]
  · rw [(a8 i hi).1, f2 _ (by omega), b6 _ _ (by omega) (by omega) (by omega) (by omega) (by omega)]
  · rw [(a8 i hi).2, f2 _ (by omega), b6 _ _ (by omega) (by omega) (by omega) (by omega) (by omega)]
  · rw [(a9 i hi).1, f2 _ (by omega), b6 _ _ (by omega) (by omega) (by omega) (by omega) (by omega)]
  · rw [(a9 i hi).2, f2 _ (by omega), b6 _ _ (by omega) (by omega) (by omega) (by omega) (by omega)]
  · rw [f3 _ (by omega) (by omega) (by omega)]
    have h4 := (g2 t ht).1 i h1 h2
    rw [show 1 + 19 + 4 * t = 20 + 4 * t by omega, show 140 + 19 + 4 * t = 159 + 4 * t by omega, h4, b6 _ _ (by omega) (by omega) (by omega) (by omega) (by omega)]
  · rw [f3 _ (by omega) (by omega) (by omega)]
    have h4 := (g2 t ht).2 o i h1 h2 h3
    rw [show 1 + 19 + 4 * t + o = 20 + 4 * t + o by omega, show 140 + 19 + 4 * t + o = 159 + 4 * t + o by omega, h4, b6 _ _ (by omega) (by omega) (by omega) (by omega) (by omega)]
  · rw [f3 _ (by omega) (by omega) (by omega), f2 _ (by omega)]
    funext q
    exact b6 _ _ (by omega) (by omega) (by omega) (by omega) (by omega)
theorem dX11_image_0 : decode prog_1_method_45_code 0 = .ok (.aload_n 0, 1) := by decide +kernel
theorem dX11_image_1 : decode prog_1_method_45_code 1 = .ok (.getfield 16, 3) := by decide +kernel
theorem dX11_image_4 : decode prog_1_method_45_code 4 = .ok (.aload_n 0, 1) := by decide +kernel
theorem dX11_image_5 : decode prog_1_method_45_code 5 = .ok (.getfield 10, 3) := by decide +kernel
theorem dX11_image_8 : decode prog_1_method_45_code 8 = .ok (.invokevirtual 78, 3) := by decide +kernel
theorem dX11_image_11 : decode prog_1_method_45_code 11 = .ok (.aload_n 0, 1) := by decide +kernel
theorem dX11_image_12 : decode prog_1_method_45_code 12 = .ok (.getfield 10, 3) := by decide +kernel
theorem dX11_image_15 : decode prog_1_method_45_code 15 = .ok (.getfield 127, 3) := by decide +kernel
theorem dX11_image_18 : decode prog_1_method_45_code 18 = .ok (.getfield 131, 3) := by decide +kernel
theorem dX11_image_21 : decode prog_1_method_45_code 21 = .ok (.ireturn, 1) := by decide +kernel
theorem sp_X11_image (cs : CS S R) (hTO : TO S R 12) (hn : 4 ≤ n) (hp : ∀ J R1, WCp I J 1 140 → (∀ c, (c < 140 ∨ 278 < c) → J c = I c) → (∀ i, i < 4 → R1 151 i = R 12 i) → (∀ c i, (c ≠ 151 ∨ 4 ≤ i) → R1 c i = R c i) → Post (some (.int (iI (I 6 6)))) S J R1) : Call n 0 0 mX11_image [.ref (S.2.1 0)] S I R Post := by
  refine Call.of (by decide +kernel) (Nat.le_of_ble_eq_true rfl) ?_
  show WP _ _ _ _ _ 0 [(0, _)] [] 0 0 _ _ _
  refine x_aload_n dX11_image_0 rfl ?_
  refine x_getR (b := 140) dX11_image_1 gf_RX11_16 (k_ob_0 cs) (fun _ _ => rfl) (k_r_0_1 cs) ?_
  refine x_aload_n dX11_image_4 rfl ?_
  refine x_getR (b := 1) dX11_image_5 gf_RX11_10 (k_ob_0 cs) (fun _ _ => rfl) (k_r_0_0 cs) ?_
  refine x_callV1 (mc1 := 0) (ms1 := 0) dX11_image_8 cv_RX11_78 (ci := 10) (k_ob_140 cs) rfl (Nat.le_of_ble_eq_true rfl) (n1 := n - 1) (by omega) (by omega) (by omega) ?_
  refine sp_X10_take_k cs hTO (by omega) (fun J8 R8 w8 f8 r8 q8 => ?_)
  have cs8 : CS S R8 := CS_R (fun c t h1 h2 => q8 c t (by omega)) cs
  refine x_aload_n dX11_image_11 rfl ?_
  refine x_getR (b := 1) dX11_image_12 gf_RX11_10 (k_ob_0 cs8) (fun _ _ => rfl) (k_r_0_0 cs8) ?_
  refine x_getR (b := 6) dX11_image_15 gf_RX11_127 (k_ob_1 cs8) (fun _ _ => rfl) (k_r_1_4 cs8) ?_
  refine x_getIv (z := I 6 6) dX11_image_18 gf_RX11_131 (k_ob_6 cs8) (fun _ _ => rfl) (by rw [f8 6 (by omega)]) ?_
  exact x_ireturn dX11_image_21 rfl (by omega) (by omega) (hp J8 R8 w8 f8 r8 q8)
theorem dX11_back_0 : decode prog_1_method_46_code 0 = .ok (.aload_n 0, 1) := by decide +kernel
theorem dX11_back_1 : decode prog_1_method_46_code 1 = .ok (.getfield 10, 3) := by decide +kernel
theorem dX11_back_4 : decode prog_1_method_46_code 4 = .ok (.aload_n 0, 1) := by decide +kernel
theorem dX11_back_5 : decode prog_1_method_46_code 5 = .ok (.getfield 16, 3) := by decide +kernel
theorem dX11_back_8 : decode prog_1_method_46_code 8 = .ok (.invokevirtual 78, 3) := by decide +kernel
theorem dX11_back_11 : decode prog_1_method_46_code 11 = .ok (.aload_n 0, 1) := by decide +kernel
theorem dX11_back_12 : decode prog_1_method_46_code 12 = .ok (.getfield 10, 3) := by decide +kernel
theorem dX11_back_15 : decode prog_1_method_46_code 15 = .ok (.getfield 127, 3) := by decide +kernel
theorem dX11_back_18 : decode prog_1_method_46_code 18 = .ok (.getfield 131, 3) := by decide +kernel
theorem dX11_back_21 : decode prog_1_method_46_code 21 = .ok (.ireturn, 1) := by decide +kernel
theorem sp_X11_back (cs : CS S R) (hTO : TO S R 151) (hn : 4 ≤ n) (hp : ∀ J R1, WCp I J 140 1 → (∀ c, (c < 1 ∨ 139 < c) → J c = I c) → (∀ i, i < 4 → R1 12 i = R 151 i) → (∀ c i, (c ≠ 12 ∨ 4 ≤ i) → R1 c i = R c i) → Post (some (.int (iI (I 145 6)))) S J R1) : Call n 0 0 mX11_back [.ref (S.2.1 0)] S I R Post := by
  refine Call.of (by decide +kernel) (Nat.le_of_ble_eq_true rfl) ?_
  show WP _ _ _ _ _ 0 [(0, _)] [] 0 0 _ _ _
  refine x_aload_n dX11_back_0 rfl ?_
  refine x_getR (b := 1) dX11_back_1 gf_RX11_10 (k_ob_0 cs) (fun _ _ => rfl) (k_r_0_0 cs) ?_
  refine x_aload_n dX11_back_4 rfl ?_
  refine x_getR (b := 140) dX11_back_5 gf_RX11_16 (k_ob_0 cs) (fun _ _ => rfl) (k_r_0_1 cs) ?_
  refine x_callV1 (mc1 := 0) (ms1 := 0) dX11_back_8 cv_RX11_78 (ci := 10) (k_ob_1 cs) rfl (Nat.le_of_ble_eq_true rfl) (n1 := n - 1) (by omega) (by omega) (by omega) ?_
  refine sp_X10_take_b cs hTO (by omega) (fun J8 R8 w8 f8 r8 q8 => ?_)
  have cs8 : CS S R8 := CS_R (fun c t h1 h2 => q8 c t (by omega)) cs
  refine x_aload_n dX11_back_11 rfl ?_
  refine x_getR (b := 1) dX11_back_12 gf_RX11_10 (k_ob_0 cs8) (fun _ _ => rfl) (k_r_0_0 cs8) ?_
  refine x_getR (b := 6) dX11_back_15 gf_RX11_127 (k_ob_1 cs8) (fun _ _ => rfl) (k_r_1_4 cs8) ?_
  refine x_getIv (z := I 145 6) dX11_back_18 gf_RX11_131 (k_ob_6 cs8) (fun _ _ => rfl) (by exact w8.2.2.1.1 6 (by omega) (by omega)) ?_
  exact x_ireturn dX11_back_21 rfl (by omega) (by omega) (hp J8 R8 w8 f8 r8 q8)
end Take2
