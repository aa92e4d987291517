section Rd3
variable {n mc ms : Nat} {M : Md} {pc : Nat} {lv : List (Nat × Value)} {st : List Value} {k j : Nat} {Post : PT} {S : Sh} {I : CI} {R : CR} {A : Nat → Int} {tx : Nat → Nat → Int}
variable {t : Nat → Int} {l : Nat} {sl : Bool} {F : Int → Nat → Prop} {G G2 : Cu → List Int → Prop} {d m : Nat} {cu cu1 cu2 cu3 : Cu} {c c1 c2 c3 : List Int} {f : Int} {pl : Nat}
theorem dX5_beginsOpenOne_0 : decode prog_7_method_24_code 0 = .ok (.iload_n 0, 1) := by decide +kernel
theorem dX5_beginsOpenOne_1 : decode prog_7_method_24_code 1 = .ok (.bipush 40, 2) := by decide +kernel
theorem dX5_beginsOpenOne_3 : decode prog_7_method_24_code 3 = .ok (.if_icmp .eq 30, 3) := by decide +kernel
theorem dX5_beginsOpenOne_6 : decode prog_7_method_24_code 6 = .ok (.iload_n 0, 1) := by decide +kernel
theorem dX5_beginsOpenOne_7 : decode prog_7_method_24_code 7 = .ok (.bipush 45, 2) := by decide +kernel
theorem dX5_beginsOpenOne_9 : decode prog_7_method_24_code 9 = .ok (.if_icmp .eq 24, 3) := by decide +kernel
theorem dX5_beginsOpenOne_12 : decode prog_7_method_24_code 12 = .ok (.iload_n 0, 1) := by decide +kernel
theorem dX5_beginsOpenOne_13 : decode prog_7_method_24_code 13 = .ok (.sipush 143, 3) := by decide +kernel
theorem dX5_beginsOpenOne_16 : decode prog_7_method_24_code 16 = .ok (.if_icmp .eq 17, 3) := by decide +kernel
theorem dX5_beginsOpenOne_19 : decode prog_7_method_24_code 19 = .ok (.iload_n 0, 1) := by decide +kernel
theorem dX5_beginsOpenOne_20 : decode prog_7_method_24_code 20 = .ok (.sipush 144, 3) := by decide +kernel
theorem dX5_beginsOpenOne_23 : decode prog_7_method_24_code 23 = .ok (.if_icmp .eq 10, 3) := by decide +kernel
theorem dX5_beginsOpenOne_26 : decode prog_7_method_24_code 26 = .ok (.iload_n 0, 1) := by decide +kernel
theorem dX5_beginsOpenOne_27 : decode prog_7_method_24_code 27 = .ok (.sipush 145, 3) := by decide +kernel
theorem dX5_beginsOpenOne_30 : decode prog_7_method_24_code 30 = .ok (.if_icmp .ne 7, 3) := by decide +kernel
theorem dX5_beginsOpenOne_33 : decode prog_7_method_24_code 33 = .ok (.iconst 1, 1) := by decide +kernel
theorem dX5_beginsOpenOne_34 : decode prog_7_method_24_code 34 = .ok (.goto 4, 3) := by decide +kernel
theorem dX5_beginsOpenOne_37 : decode prog_7_method_24_code 37 = .ok (.iconst 0, 1) := by decide +kernel
theorem dX5_beginsOpenOne_38 : decode prog_7_method_24_code 38 = .ok (.ireturn, 1) := by decide +kernel
theorem sp_X5_beginsOpenOne {x : Int} (hx : Rg x) (hp : ∀ r : Int, (r = 1 ∧ opk x ∨ r = 0 ∧ ¬ opk x) → Post (some (.int (iI r))) S I R) : Call n 0 0 mX5_beginsOpenOne [.int (iI x)] S I R Post := by
  refine Call.of (by decide +kernel) (Nat.le_of_ble_eq_true rfl) ?_
  show WP _ _ _ _ _ 0 [(0, _)] [] 0 0 _ _ _
  refine x_iload_n dX5_beginsOpenOne_0 rfl ?_
  refine x_bipush dX5_beginsOpenOne_1 (by decide) ?_
  refine x_icmp_eq 33 dX5_beginsOpenOne_3 (by decide) ⟨(by omega), (by omega)⟩ (fun w3 => ?_) (fun w3 => ?_)
  · refine x_iconst dX5_beginsOpenOne_33 ?_
    refine x_goto 38 dX5_beginsOpenOne_34 (by decide) ?_
    exact x_zreturn (by omega) dX5_beginsOpenOne_38 rfl (by omega) (by omega) (hp _ (by omega))
  · refine x_iload_n dX5_beginsOpenOne_6 rfl ?_
    refine x_bipush dX5_beginsOpenOne_7 (by decide) ?_
    refine x_icmp_eq 33 dX5_beginsOpenOne_9 (by decide) ⟨(by omega), (by omega)⟩ (fun w9 => ?_) (fun w9 => ?_)
    · refine x_iconst dX5_beginsOpenOne_33 ?_
      refine x_goto 38 dX5_beginsOpenOne_34 (by decide) ?_
      exact x_zreturn (by omega) dX5_beginsOpenOne_38 rfl (by omega) (by omega) (hp _ (by omega))
    · refine x_iload_n dX5_beginsOpenOne_12 rfl ?_
      refine x_sipush dX5_beginsOpenOne_13 (by decide) ?_
      refine x_icmp_eq 33 dX5_beginsOpenOne_16 (by decide) ⟨(by omega), (by omega)⟩ (fun w16 => ?_) (fun w16 => ?_)
      · refine x_iconst dX5_beginsOpenOne_33 ?_
        refine x_goto 38 dX5_beginsOpenOne_34 (by decide) ?_
        exact x_zreturn (by omega) dX5_beginsOpenOne_38 rfl (by omega) (by omega) (hp _ (by omega))
      · refine x_iload_n dX5_beginsOpenOne_19 rfl ?_
        refine x_sipush dX5_beginsOpenOne_20 (by decide) ?_
        refine x_icmp_eq 33 dX5_beginsOpenOne_23 (by decide) ⟨(by omega), (by omega)⟩ (fun w23 => ?_) (fun w23 => ?_)
        · refine x_iconst dX5_beginsOpenOne_33 ?_
          refine x_goto 38 dX5_beginsOpenOne_34 (by decide) ?_
          exact x_zreturn (by omega) dX5_beginsOpenOne_38 rfl (by omega) (by omega) (hp _ (by omega))
        · refine x_iload_n dX5_beginsOpenOne_26 rfl ?_
          refine x_sipush dX5_beginsOpenOne_27 (by decide) ?_
          refine x_icmp_ne 37 dX5_beginsOpenOne_30 (by decide) ⟨(by omega), (by omega)⟩ (fun w30 => ?_) (fun w30 => ?_)
          · refine x_iconst dX5_beginsOpenOne_37 ?_
            exact x_zreturn (by omega) dX5_beginsOpenOne_38 rfl (by omega) (by omega) (hp _ (by omega))
          · refine x_iconst dX5_beginsOpenOne_33 ?_
            refine x_goto 38 dX5_beginsOpenOne_34 (by decide) ?_
            exact x_zreturn (by omega) dX5_beginsOpenOne_38 rfl (by omega) (by omega) (hp _ (by omega))
theorem one_rm (l3 : l ≤ 300) (ok : CuOK l cu) (hk : cu.2.2.1 ≠ 0) (ln : c.length ≤ cu.2.1) : c.length + 1 ≤ (adv t l cu.1).2.1 := by
  obtain ⟨a1, a2, a3⟩ := cu_adv (t := t) ok l3
  have := a2 hk
  omega
theorem sp_emR {op v : Int} (cs : CS S R) (hn : 1 ≤ n) (hw : (0 ≤ op ∧ op ≤ 18) ∧ 0 ≤ v ∧ v ≤ 9999) (h0 : I 287 4 = 0) (h6 : I 287 6 = (c.length : Int)) (h9 : ∀ i, i < c.length → I 289 i = c.getD i 0) (hl : c.length < 300) (hp : ∀ J, Frd I J → (∀ k, k ≠ 6 → J 287 k = I 287 k) → J 287 6 = ((c ++ [op * 16384 + v]).length : Int) → (∀ i, i < (c ++ [op * 16384 + v]).length → J 289 i = (c ++ [op * 16384 + v]).getD i 0) → Post none S J R) : Call n 0 0 mX5_emit [.ref (S.2.1 287), .int (iI op), .int (iI v)] S I R Post := by
  refine Call.of (by decide +kernel) (Nat.le_of_ble_eq_true rfl) ?_
  show WP _ _ _ _ _ 0 [(0, _), (1, _), (2, _)] [] 0 0 _ _ _
  refine x_aload_n dX5_emit_0 rfl ?_
  refine x_callV0 (mc1 := 0) (ms1 := 0) dX5_emit_1 cv_RX5_37 (ci := 5) (k_ob_287 cs) rfl (Nat.le_of_ble_eq_true rfl) (n1 := n - 1) (by omega) (by omega) (by omega) ?_
  refine sp_X5_goesOn cs (by omega) (fun r1 hr1 => ?_)
  refine x_if_eq 43 dX5_emit_4 (by decide) (by omega) (fun w4 => ?_) (fun w4 => ?_)
  · exact x_return dX5_emit_43 rfl (by omega) (by omega) (by first
 | (exfalso; omega)
 | (refine hp _ ((Frd.rf.u9).u7 (by omega)) (fun k hk => by rw [uI_o (by omega), uI_o (by omega)]) (by rw [uI_s, List.length_append, List.length_singleton, h6]; omega) (fun i hi => ?_)
    rw [gd_app i hi, uI_o (by omega)]
    by_cases hq : i = c.length
    · rw [if_pos hq, show i = (I 287 6).toNat by omega, uI_s]
    · rw [if_neg hq, uI_o (by omega)]
      rw [List.length_append, List.length_singleton] at hi
      exact h9 i (by omega)))
  · refine x_aload_n dX5_emit_7 rfl ?_
    refine x_getI dX5_emit_8 gf_RX5_53 (k_ob_287 cs) (fun _ _ => rfl) ?_
    refine x_sipush dX5_emit_11 (by decide) ?_
    refine x_icmp_ge 43 dX5_emit_14 (by decide) ⟨(by omega), (by omega)⟩ (fun w14 => ?_) (fun w14 => ?_)
    · exact x_return dX5_emit_43 rfl (by omega) (by omega) (by first
 | (exfalso; omega)
 | (refine hp _ ((Frd.rf.u9).u7 (by omega)) (fun k hk => by rw [uI_o (by omega), uI_o (by omega)]) (by rw [uI_s, List.length_append, List.length_singleton, h6]; omega) (fun i hi => ?_)
    rw [gd_app i hi, uI_o (by omega)]
    by_cases hq : i = c.length
    · rw [if_pos hq, show i = (I 287 6).toNat by omega, uI_s]
    · rw [if_neg hq, uI_o (by omega)]
      rw [List.length_append, List.length_singleton] at hi
      exact h9 i (by omega)))
    · refine x_aload_n dX5_emit_17 rfl ?_
      refine x_getR (b := 289) dX5_emit_18 gf_RX5_15 (k_ob_287 cs) (fun _ _ => rfl) (k_r_287_1 cs) ?_
      refine x_aload_n dX5_emit_21 rfl ?_
      refine x_getI dX5_emit_22 gf_RX5_53 (k_ob_287 cs) (fun _ _ => rfl) ?_
      refine x_iload_n dX5_emit_25 rfl ?_
      refine x_sipush dX5_emit_26 (by decide) ?_
      refine x_imul dX5_emit_29 ?_
      refine x_iload_n dX5_emit_30 rfl ?_
      refine x_iadd dX5_emit_31 ?_
      refine x_iastore dX5_emit_32 (k_ar_289 cs) (by omega) (by omega) ?_
      refine x_aload_n dX5_emit_33 rfl ?_
      refine x_dup dX5_emit_34 rfl ?_
      refine x_getIv (z := I 287 6) dX5_emit_35 gf_RX5_53 (k_ob_287 cs) (fun _ _ => rfl) (by (repeat first | rw [uI_s] | rw [uI_o (by omega)] | rw [cpI_o (by omega)])) ?_
      refine x_iconst dX5_emit_38 ?_
      refine x_iadd dX5_emit_39 ?_
      refine x_putI dX5_emit_40 gf_RX5_53 (k_ob_287 cs) rfl ?_
      exact x_return dX5_emit_43 rfl (by omega) (by omega) (by first
 | (exfalso; omega)
 | (refine hp _ ((Frd.rf.u9).u7 (by omega)) (fun k hk => by rw [uI_o (by omega), uI_o (by omega)]) (by rw [uI_s, List.length_append, List.length_singleton, h6]; omega) (fun i hi => ?_)
    rw [gd_app i hi, uI_o (by omega)]
    by_cases hq : i = c.length
    · rw [if_pos hq, show i = (I 287 6).toNat by omega, uI_s]
    · rw [if_neg hq, uI_o (by omega)]
      rw [List.length_append, List.length_singleton] at hi
      exact h9 i (by omega)))
theorem dX5_readName_0 : decode prog_7_method_23_code 0 = .ok (.aload_n 0, 1) := by decide +kernel
theorem dX5_readName_1 : decode prog_7_method_23_code 1 = .ok (.getfield 41, 3) := by decide +kernel
theorem dX5_readName_4 : decode prog_7_method_23_code 4 = .ok (.sipush 134, 3) := by decide +kernel
theorem dX5_readName_7 : decode prog_7_method_23_code 7 = .ok (.if_icmp .ne 10, 3) := by decide +kernel
theorem dX5_readName_10 : decode prog_7_method_23_code 10 = .ok (.aload_n 0, 1) := by decide +kernel
theorem dX5_readName_11 : decode prog_7_method_23_code 11 = .ok (.getfield 125, 3) := by decide +kernel
theorem dX5_readName_14 : decode prog_7_method_23_code 14 = .ok (.ifCond .ne 20, 3) := by decide +kernel
theorem dX5_readName_17 : decode prog_7_method_23_code 17 = .ok (.aload_n 0, 1) := by decide +kernel
theorem dX5_readName_18 : decode prog_7_method_23_code 18 = .ok (.getfield 41, 3) := by decide +kernel
theorem dX5_readName_21 : decode prog_7_method_23_code 21 = .ok (.sipush 135, 3) := by decide +kernel
theorem dX5_readName_24 : decode prog_7_method_23_code 24 = .ok (.if_icmp .ne 16, 3) := by decide +kernel
theorem dX5_readName_27 : decode prog_7_method_23_code 27 = .ok (.aload_n 0, 1) := by decide +kernel
theorem dX5_readName_28 : decode prog_7_method_23_code 28 = .ok (.getfield 125, 3) := by decide +kernel
theorem dX5_readName_31 : decode prog_7_method_23_code 31 = .ok (.ifCond .ne 9, 3) := by decide +kernel
theorem dX5_readName_34 : decode prog_7_method_23_code 34 = .ok (.aload_n 0, 1) := by decide +kernel
theorem dX5_readName_35 : decode prog_7_method_23_code 35 = .ok (.iconst 5, 1) := by decide +kernel
theorem dX5_readName_36 : decode prog_7_method_23_code 36 = .ok (.invokevirtual 122, 3) := by decide +kernel
theorem dX5_readName_39 : decode prog_7_method_23_code 39 = .ok (.return_, 1) := by decide +kernel
theorem dX5_readName_40 : decode prog_7_method_23_code 40 = .ok (.aload_n 0, 1) := by decide +kernel
theorem dX5_readName_41 : decode prog_7_method_23_code 41 = .ok (.iconst 1, 1) := by decide +kernel
theorem dX5_readName_42 : decode prog_7_method_23_code 42 = .ok (.aload_n 0, 1) := by decide +kernel
theorem dX5_readName_43 : decode prog_7_method_23_code 43 = .ok (.getfield 41, 3) := by decide +kernel
theorem dX5_readName_46 : decode prog_7_method_23_code 46 = .ok (.sipush 128, 3) := by decide +kernel
theorem dX5_readName_49 : decode prog_7_method_23_code 49 = .ok (.isub, 1) := by decide +kernel
theorem dX5_readName_50 : decode prog_7_method_23_code 50 = .ok (.invokevirtual 145, 3) := by decide +kernel
theorem dX5_readName_53 : decode prog_7_method_23_code 53 = .ok (.aload_n 0, 1) := by decide +kernel
theorem dX5_readName_54 : decode prog_7_method_23_code 54 = .ok (.invokevirtual 34, 3) := by decide +kernel
theorem dX5_readName_57 : decode prog_7_method_23_code 57 = .ok (.return_, 1) := by decide +kernel
theorem sp_X5_readName  (cs : CS S R) (hn : 6 ≤ n) (hk : 128 ≤ I 287 15 ∧ I 287 15 < 136) (hz : I 287 4 = 0) (hO : OutC I t l sl F (fun cu c => Wr (OneF t l sl d cu c) (OneG t l sl d cu c) F G)) (hp : ∀ J, Frd I J → OutC J t l sl F G → Post none S J R) : Call n 0 0 mX5_readName [.ref (S.2.1 287)] S I R Post := by
  have hb := out_b hO
  have l3 := out_l hO
  have hs := hO.1.2
  obtain ⟨cu, c, h1, h2⟩ : ∃ cu c, RdC I l cu c ∧ Wr (OneF t l sl d cu c) (OneG t l sl d cu c) F G := by
    rcases hO.2 with h1 | h1
    · omega
    · exact h1.2
  have k1 := h1.1.2.2.1
  have k2 := h1.2.2.1
  have k3 := h1.2.2.2.2.1
  have k4 := h1.2.1.2.2.1 (by omega)
  have k5 := h1.2.1.2.1
  have k6 := h1.1.2.1
  refine Call.of (by decide +kernel) (Nat.le_of_ble_eq_true rfl) ?_
  show WP _ _ _ _ _ 0 [(0, _)] [] 0 0 _ _ _
  refine x_aload_n dX5_readName_0 rfl ?_
  refine x_getI dX5_readName_1 gf_RX5_41 (k_ob_287 cs) (fun _ _ => rfl) ?_
  refine x_sipush dX5_readName_4 (by decide) ?_
  refine x_icmp_ne 17 dX5_readName_7 (by decide) ⟨(by omega), (by omega)⟩ (fun w7 => ?_) (fun w7 => ?_)
  · refine x_aload_n dX5_readName_17 rfl ?_
    refine x_getI dX5_readName_18 gf_RX5_41 (k_ob_287 cs) (fun _ _ => rfl) ?_
    refine x_sipush dX5_readName_21 (by decide) ?_
    refine x_icmp_ne 40 dX5_readName_24 (by decide) ⟨(by omega), (by omega)⟩ (fun w24 => ?_) (fun w24 => ?_)
    · refine x_aload_n dX5_readName_40 rfl ?_
      refine x_iconst dX5_readName_41 ?_
      refine x_aload_n dX5_readName_42 rfl ?_
      refine x_getI dX5_readName_43 gf_RX5_41 (k_ob_287 cs) (fun _ _ => rfl) ?_
      refine x_sipush dX5_readName_46 (by decide) ?_
      refine x_isub dX5_readName_49 ?_
      refine x_callV2 (mc1 := 0) (ms1 := 0) dX5_readName_50 cv_RX5_145 (ci := 5) (k_ob_287 cs) rfl (Nat.le_of_ble_eq_true rfl) (n1 := n - 1) (by omega) (by omega) (by omega) ?_
      refine sp_emR (v := I 287 15 - 128) (c := c) cs (by omega) (by omega) hz k2 h1.2.2.2.1 (by omega) (fun J50 f50 e50 g50 c50 => ?_)
      refine x_aload_n dX5_readName_53 rfl ?_
      refine x_callV0 (mc1 := 0) (ms1 := 0) dX5_readName_54 cv_RX5_34 (ci := 5) (k_ob_287 cs) rfl (Nat.le_of_ble_eq_true rfl) (n1 := n - 1) (by omega) (by omega) (by omega) ?_
      refine sp_X5_advance (t := t) (l := l) (p := cu.1) cs (by omega) ⟨(f50.1 288 (by omega) (by omega)).trans hO.1.1.1, (e50 3 (by omega)).trans hO.1.1.2.1, hO.1.1.2.2⟩ k5 ((e50 13 (by omega)).trans h1.1.1) (fun J54 h54 f54 => ?_)
      have hone : OneG t l sl d cu c (adv t l cu.1) (c ++ [1 * 16384 + (I 287 15 - 128)]) := by
        rw [k1]
        exact one_name l3 h1.2.1 (by omega) (by rcases hs with ⟨s1, s2⟩ | ⟨s1, s2⟩ <;> rw [s2] <;> simp <;> omega)
      have hO2 : OutC J54 t l sl F G := by
        refine ⟨⟨TpC.f ⟨(f50.1 288 (by omega) (by omega)).trans hO.1.1.1, (e50 3 (by omega)).trans hO.1.1.2.1, hO.1.1.2.2⟩ f54, ?_⟩, Or.inr ⟨?_, adv t l cu.1, _, ⟨h54, (cu_adv h1.2.1 l3).1, ?_, fun i hi => ?_, ?_, by rw [f54.2 5 (by omega), e50 5 (by omega)]; exact h1.2.2.2.2.2⟩, h2.2 _ _ hone⟩⟩
        · rw [f54.2 12 (by omega), e50 12 (by omega)]; exact hs
        · rw [f54.2 4 (by omega), e50 4 (by omega)]; exact hz
        · rw [f54.2 6 (by omega)]; exact g50
        · rw [f54.1 289 (by omega)]; exact c50 i hi
        · rw [List.length_append, List.length_singleton]; exact one_rm l3 h1.2.1 (by omega) k3
      exact x_return dX5_readName_57 rfl (by omega) (by omega) (by first | exact hp _ f36 o36 | exact hp _ (Frd.tr f50 (Fcu.rd f54)) hO2)
    · refine x_aload_n dX5_readName_27 rfl ?_
      refine x_getI dX5_readName_28 gf_RX5_125 (k_ob_287 cs) (fun _ _ => rfl) ?_
      refine x_if_ne 40 dX5_readName_31 (by decide) (by omega) (fun w31 => ?_) (fun w31 => ?_)
      · refine x_aload_n dX5_readName_40 rfl ?_
        refine x_iconst dX5_readName_41 ?_
        refine x_aload_n dX5_readName_42 rfl ?_
        refine x_getI dX5_readName_43 gf_RX5_41 (k_ob_287 cs) (fun _ _ => rfl) ?_
        refine x_sipush dX5_readName_46 (by decide) ?_
        refine x_isub dX5_readName_49 ?_
        refine x_callV2 (mc1 := 0) (ms1 := 0) dX5_readName_50 cv_RX5_145 (ci := 5) (k_ob_287 cs) rfl (Nat.le_of_ble_eq_true rfl) (n1 := n - 1) (by omega) (by omega) (by omega) ?_
        refine sp_emR (v := I 287 15 - 128) (c := c) cs (by omega) (by omega) hz k2 h1.2.2.2.1 (by omega) (fun J50 f50 e50 g50 c50 => ?_)
        refine x_aload_n dX5_readName_53 rfl ?_
        refine x_callV0 (mc1 := 0) (ms1 := 0) dX5_readName_54 cv_RX5_34 (ci := 5) (k_ob_287 cs) rfl (Nat.le_of_ble_eq_true rfl) (n1 := n - 1) (by omega) (by omega) (by omega) ?_
        refine sp_X5_advance (t := t) (l := l) (p := cu.1) cs (by omega) ⟨(f50.1 288 (by omega) (by omega)).trans hO.1.1.1, (e50 3 (by omega)).trans hO.1.1.2.1, hO.1.1.2.2⟩ k5 ((e50 13 (by omega)).trans h1.1.1) (fun J54 h54 f54 => ?_)
        have hone : OneG t l sl d cu c (adv t l cu.1) (c ++ [1 * 16384 + (I 287 15 - 128)]) := by
          rw [k1]
          exact one_name l3 h1.2.1 (by omega) (by rcases hs with ⟨s1, s2⟩ | ⟨s1, s2⟩ <;> rw [s2] <;> simp <;> omega)
        have hO2 : OutC J54 t l sl F G := by
          refine ⟨⟨TpC.f ⟨(f50.1 288 (by omega) (by omega)).trans hO.1.1.1, (e50 3 (by omega)).trans hO.1.1.2.1, hO.1.1.2.2⟩ f54, ?_⟩, Or.inr ⟨?_, adv t l cu.1, _, ⟨h54, (cu_adv h1.2.1 l3).1, ?_, fun i hi => ?_, ?_, by rw [f54.2 5 (by omega), e50 5 (by omega)]; exact h1.2.2.2.2.2⟩, h2.2 _ _ hone⟩⟩
          · rw [f54.2 12 (by omega), e50 12 (by omega)]; exact hs
          · rw [f54.2 4 (by omega), e50 4 (by omega)]; exact hz
          · rw [f54.2 6 (by omega)]; exact g50
          · rw [f54.1 289 (by omega)]; exact c50 i hi
          · rw [List.length_append, List.length_singleton]; exact one_rm l3 h1.2.1 (by omega) k3
        exact x_return dX5_readName_57 rfl (by omega) (by omega) (by first | exact hp _ f36 o36 | exact hp _ (Frd.tr f50 (Fcu.rd f54)) hO2)
      · refine x_aload_n dX5_readName_34 rfl ?_
        refine x_iconst dX5_readName_35 ?_
        refine x_callV1 (mc1 := 0) (ms1 := 0) dX5_readName_36 cv_RX5_122 (ci := 5) (k_ob_287 cs) rfl (Nat.le_of_ble_eq_true rfl) (n1 := n - 1) (by omega) (by omega) (by omega) ?_
        refine sp_X5_refuse (G := G) cs (by omega) (by omega) (out_imp hO (fun cu c ok ln _ k1 _ _ g => g.1 _ _ (one_namex (by rcases hs with ⟨s1, s2⟩ | ⟨s1, s2⟩ <;> first | exact Or.inl ⟨by omega, s2⟩ | exact Or.inr ⟨by omega, s2⟩ | (exfalso; omega))))) (fun J36 f36 o36 => ?_)
        exact x_return dX5_readName_39 rfl (by omega) (by omega) (by first | exact hp _ f36 o36 | exact hp _ (Frd.tr f50 (Fcu.rd f54)) hO2)
  · refine x_aload_n dX5_readName_10 rfl ?_
    refine x_getI dX5_readName_11 gf_RX5_125 (k_ob_287 cs) (fun _ _ => rfl) ?_
    refine x_if_ne 34 dX5_readName_14 (by decide) (by omega) (fun w14 => ?_) (fun w14 => ?_)
    · refine x_aload_n dX5_readName_34 rfl ?_
      refine x_iconst dX5_readName_35 ?_
      refine x_callV1 (mc1 := 0) (ms1 := 0) dX5_readName_36 cv_RX5_122 (ci := 5) (k_ob_287 cs) rfl (Nat.le_of_ble_eq_true rfl) (n1 := n - 1) (by omega) (by omega) (by omega) ?_
      refine sp_X5_refuse (G := G) cs (by omega) (by omega) (out_imp hO (fun cu c ok ln _ k1 _ _ g => g.1 _ _ (one_namex (by rcases hs with ⟨s1, s2⟩ | ⟨s1, s2⟩ <;> first | exact Or.inl ⟨by omega, s2⟩ | exact Or.inr ⟨by omega, s2⟩ | (exfalso; omega))))) (fun J36 f36 o36 => ?_)
      exact x_return dX5_readName_39 rfl (by omega) (by omega) (by first | exact hp _ f36 o36 | exact hp _ (Frd.tr f50 (Fcu.rd f54)) hO2)
    · refine x_aload_n dX5_readName_17 rfl ?_
      refine x_getI dX5_readName_18 gf_RX5_41 (k_ob_287 cs) (fun _ _ => rfl) ?_
      refine x_sipush dX5_readName_21 (by decide) ?_
      refine x_icmp_ne 40 dX5_readName_24 (by decide) ⟨(by omega), (by omega)⟩ (fun w24 => ?_) (fun w24 => ?_)
      · refine x_aload_n dX5_readName_40 rfl ?_
        refine x_iconst dX5_readName_41 ?_
        refine x_aload_n dX5_readName_42 rfl ?_
        refine x_getI dX5_readName_43 gf_RX5_41 (k_ob_287 cs) (fun _ _ => rfl) ?_
        refine x_sipush dX5_readName_46 (by decide) ?_
        refine x_isub dX5_readName_49 ?_
        refine x_callV2 (mc1 := 0) (ms1 := 0) dX5_readName_50 cv_RX5_145 (ci := 5) (k_ob_287 cs) rfl (Nat.le_of_ble_eq_true rfl) (n1 := n - 1) (by omega) (by omega) (by omega) ?_
        refine sp_emR (v := I 287 15 - 128) (c := c) cs (by omega) (by omega) hz k2 h1.2.2.2.1 (by omega) (fun J50 f50 e50 g50 c50 => ?_)
        refine x_aload_n dX5_readName_53 rfl ?_
        refine x_callV0 (mc1 := 0) (ms1 := 0) dX5_readName_54 cv_RX5_34 (ci := 5) (k_ob_287 cs) rfl (Nat.le_of_ble_eq_true rfl) (n1 := n - 1) (by omega) (by omega) (by omega) ?_
        refine sp_X5_advance (t := t) (l := l) (p := cu.1) cs (by omega) ⟨(f50.1 288 (by omega) (by omega)).trans hO.1.1.1, (e50 3 (by omega)).trans hO.1.1.2.1, hO.1.1.2.2⟩ k5 ((e50 13 (by omega)).trans h1.1.1) (fun J54 h54 f54 => ?_)
        have hone : OneG t l sl d cu c (adv t l cu.1) (c ++ [1 * 16384 + (I 287 15 - 128)]) := by
          rw [k1]
          exact one_name l3 h1.2.1 (by omega) (by rcases hs with ⟨s1, s2⟩ | ⟨s1, s2⟩ <;> rw [s2] <;> simp <;> omega)
        have hO2 : OutC J54 t l sl F G := by
          refine ⟨⟨TpC.f ⟨(f50.1 288 (by omega) (by omega)).trans hO.1.1.1, (e50 3 (by omega)).trans hO.1.1.2.1, hO.1.1.2.2⟩ f54, ?_⟩, Or.inr ⟨?_, adv t l cu.1, _, ⟨h54, (cu_adv h1.2.1 l3).1, ?_, fun i hi => ?_, ?_, by rw [f54.2 5 (by omega), e50 5 (by omega)]; exact h1.2.2.2.2.2⟩, h2.2 _ _ hone⟩⟩
          · rw [f54.2 12 (by omega), e50 12 (by omega)]; exact hs
          · rw [f54.2 4 (by omega), e50 4 (by omega)]; exact hz
          · rw [f54.2 6 (by omega)]; exact g50
          · rw [f54.1 289 (by omega)]; exact c50 i hi
          · rw [List.length_append, List.length_singleton]; exact one_rm l3 h1.2.1 (by omega) k3
        exact x_return dX5_readName_57 rfl (by omega) (by omega) (by first | exact hp _ f36 o36 | exact hp _ (Frd.tr f50 (Fcu.rd f54)) hO2)
      · refine x_aload_n dX5_readName_27 rfl ?_
        refine x_getI dX5_readName_28 gf_RX5_125 (k_ob_287 cs) (fun _ _ => rfl) ?_
        refine x_if_ne 40 dX5_readName_31 (by decide) (by omega) (fun w31 => ?_) (fun w31 => ?_)
        · refine x_aload_n dX5_readName_40 rfl ?_
          refine x_iconst dX5_readName_41 ?_
          refine x_aload_n dX5_readName_42 rfl ?_
          refine x_getI dX5_readName_43 gf_RX5_41 (k_ob_287 cs) (fun _ _ => rfl) ?_
          refine x_sipush dX5_readName_46 (by decide) ?_
          refine x_isub dX5_readName_49 ?_
          refine x_callV2 (mc1 := 0) (ms1 := 0) dX5_readName_50 cv_RX5_145 (ci := 5) (k_ob_287 cs) rfl (Nat.le_of_ble_eq_true rfl) (n1 := n - 1) (by omega) (by omega) (by omega) ?_
          refine sp_emR (v := I 287 15 - 128) (c := c) cs (by omega) (by omega) hz k2 h1.2.2.2.1 (by omega) (fun J50 f50 e50 g50 c50 => ?_)
          refine x_aload_n dX5_readName_53 rfl ?_
          refine x_callV0 (mc1 := 0) (ms1 := 0) dX5_readName_54 cv_RX5_34 (ci := 5) (k_ob_287 cs) rfl (Nat.le_of_ble_eq_true rfl) (n1 := n - 1) (by omega) (by omega) (by omega) ?_
          refine sp_X5_advance (t := t) (l := l) (p := cu.1) cs (by omega) ⟨(f50.1 288 (by omega) (by omega)).trans hO.1.1.1, (e50 3 (by omega)).trans hO.1.1.2.1, hO.1.1.2.2⟩ k5 ((e50 13 (by omega)).trans h1.1.1) (fun J54 h54 f54 => ?_)
          have hone : OneG t l sl d cu c (adv t l cu.1) (c ++ [1 * 16384 + (I 287 15 - 128)]) := by
            rw [k1]
            exact one_name l3 h1.2.1 (by omega) (by rcases hs with ⟨s1, s2⟩ | ⟨s1, s2⟩ <;> rw [s2] <;> simp <;> omega)
          have hO2 : OutC J54 t l sl F G := by
            refine ⟨⟨TpC.f ⟨(f50.1 288 (by omega) (by omega)).trans hO.1.1.1, (e50 3 (by omega)).trans hO.1.1.2.1, hO.1.1.2.2⟩ f54, ?_⟩, Or.inr ⟨?_, adv t l cu.1, _, ⟨h54, (cu_adv h1.2.1 l3).1, ?_, fun i hi => ?_, ?_, by rw [f54.2 5 (by omega), e50 5 (by omega)]; exact h1.2.2.2.2.2⟩, h2.2 _ _ hone⟩⟩
            · rw [f54.2 12 (by omega), e50 12 (by omega)]; exact hs
            · rw [f54.2 4 (by omega), e50 4 (by omega)]; exact hz
            · rw [f54.2 6 (by omega)]; exact g50
            · rw [f54.1 289 (by omega)]; exact c50 i hi
            · rw [List.length_append, List.length_singleton]; exact one_rm l3 h1.2.1 (by omega) k3
          exact x_return dX5_readName_57 rfl (by omega) (by omega) (by first | exact hp _ f36 o36 | exact hp _ (Frd.tr f50 (Fcu.rd f54)) hO2)
        · refine x_aload_n dX5_readName_34 rfl ?_
          refine x_iconst dX5_readName_35 ?_
          refine x_callV1 (mc1 := 0) (ms1 := 0) dX5_readName_36 cv_RX5_122 (ci := 5) (k_ob_287 cs) rfl (Nat.le_of_ble_eq_true rfl) (n1 := n - 1) (by omega) (by omega) (by omega) ?_
          refine sp_X5_refuse (G := G) cs (by omega) (by omega) (out_imp hO (fun cu c ok ln _ k1 _ _ g => g.1 _ _ (one_namex (by rcases hs with ⟨s1, s2⟩ | ⟨s1, s2⟩ <;> first | exact Or.inl ⟨by omega, s2⟩ | exact Or.inr ⟨by omega, s2⟩ | (exfalso; omega))))) (fun J36 f36 o36 => ?_)
          exact x_return dX5_readName_39 rfl (by omega) (by omega) (by first | exact hp _ f36 o36 | exact hp _ (Frd.tr f50 (Fcu.rd f54)) hO2)
theorem dX5_readChoice_0 : decode prog_7_method_26_code 0 = .ok (.aload_n 0, 1) := by decide +kernel
theorem dX5_readChoice_1 : decode prog_7_method_26_code 1 = .ok (.iload_n 1, 1) := by decide +kernel
theorem dX5_readChoice_2 : decode prog_7_method_26_code 2 = .ok (.invokevirtual 166, 3) := by decide +kernel
theorem dX5_readChoice_5 : decode prog_7_method_26_code 5 = .ok (.aload_n 0, 1) := by decide +kernel
theorem dX5_readChoice_6 : decode prog_7_method_26_code 6 = .ok (.sipush 146, 3) := by decide +kernel
theorem dX5_readChoice_9 : decode prog_7_method_26_code 9 = .ok (.invokevirtual 136, 3) := by decide +kernel
theorem dX5_readChoice_12 : decode prog_7_method_26_code 12 = .ok (.aload_n 0, 1) := by decide +kernel
theorem dX5_readChoice_13 : decode prog_7_method_26_code 13 = .ok (.iload_n 1, 1) := by decide +kernel
theorem dX5_readChoice_14 : decode prog_7_method_26_code 14 = .ok (.invokevirtual 129, 3) := by decide +kernel
theorem dX5_readChoice_17 : decode prog_7_method_26_code 17 = .ok (.aload_n 0, 1) := by decide +kernel
theorem dX5_readChoice_18 : decode prog_7_method_26_code 18 = .ok (.sipush 147, 3) := by decide +kernel
theorem dX5_readChoice_21 : decode prog_7_method_26_code 21 = .ok (.invokevirtual 136, 3) := by decide +kernel
theorem dX5_readChoice_24 : decode prog_7_method_26_code 24 = .ok (.aload_n 0, 1) := by decide +kernel
theorem dX5_readChoice_25 : decode prog_7_method_26_code 25 = .ok (.iload_n 1, 1) := by decide +kernel
theorem dX5_readChoice_26 : decode prog_7_method_26_code 26 = .ok (.invokevirtual 129, 3) := by decide +kernel
theorem dX5_readChoice_29 : decode prog_7_method_26_code 29 = .ok (.aload_n 0, 1) := by decide +kernel
theorem dX5_readChoice_30 : decode prog_7_method_26_code 30 = .ok (.sipush 148, 3) := by decide +kernel
theorem dX5_readChoice_33 : decode prog_7_method_26_code 33 = .ok (.invokevirtual 136, 3) := by decide +kernel
theorem dX5_readChoice_36 : decode prog_7_method_26_code 36 = .ok (.aload_n 0, 1) := by decide +kernel
theorem dX5_readChoice_37 : decode prog_7_method_26_code 37 = .ok (.bipush 18, 2) := by decide +kernel
theorem dX5_readChoice_39 : decode prog_7_method_26_code 39 = .ok (.iconst 0, 1) := by decide +kernel
theorem dX5_readChoice_40 : decode prog_7_method_26_code 40 = .ok (.invokevirtual 145, 3) := by decide +kernel
theorem dX5_readChoice_43 : decode prog_7_method_26_code 43 = .ok (.return_, 1) := by decide +kernel
def Cho1V (t : Nat → Int) (l : Nat) (sl : Bool) (d : Nat) (F : Int → Nat → Prop) (G : Cu → List Int → Prop) (cu1 : Cu) (c1 : List Int) : Prop := ∃ cu c, Wr (OpnF t l sl 42 d cu c) (OpnG t l sl 42 d cu c) F G ∧ Ch1 t l sl d cu c cu1 c1
def Cho2V (t : Nat → Int) (l : Nat) (sl : Bool) (d : Nat) (F : Int → Nat → Prop) (G : Cu → List Int → Prop) (cu1 : Cu) (c1 : List Int) : Prop := ∃ cu c, Wr (OpnF t l sl 42 d cu c) (OpnG t l sl 42 d cu c) F G ∧ Ch2 t l sl d cu c cu1 c1
def ChoF (t : Nat → Int) (l : Nat) (sl : Bool) (d : Nat) (cu : Cu) (c : List Int) (f : Int) (pl : Nat) : Prop := OpnF t l sl 42 d cu c f pl
def ChoG (t : Nat → Int) (l : Nat) (sl : Bool) (d : Nat) (cu : Cu) (c : List Int) (cu1 : Cu) (c1 : List Int) : Prop := OpnG t l sl 42 d cu c cu1 c1
theorem cho_h0 (w : Wr (OpnF t l sl 42 d cu c) (OpnG t l sl 42 d cu c) F G) : Wr (EitF t l sl d cu c) (EitG t l sl d cu c) F (fun cu1 c1 => ∃ cu c, Wr (OpnF t l sl 42 d cu c) (OpnG t l sl 42 d cu c) F G ∧ EitG t l sl d cu c cu1 c1) := ⟨fun f pl x => w.1 f pl (cho_0F x), fun cu1 c1 x => ⟨cu, c, w, x⟩⟩
theorem cho_h1 (g : Cho1V t l sl d F G cu1 c1) : Wr (SumF t l sl d cu1 c1) (SumG t l sl d cu1 c1) F (fun cu2 c2 => ∃ cu c cu1 c1, Wr (OpnF t l sl 42 d cu c) (OpnG t l sl 42 d cu c) F G ∧ Ch1 t l sl d cu c cu1 c1 ∧ SumG t l sl d cu1 c1 cu2 c2) := by
  obtain ⟨cu, c, w, h⟩ := g
  exact ⟨fun f pl x => w.1 f pl (cho_1F h x), fun cu2 c2 x => ⟨cu, c, cu1, c1, w, h, x⟩⟩
theorem cho_h2 (g : Cho2V t l sl d F G cu1 c1) : Wr (SumF t l sl d cu1 c1) (SumG t l sl d cu1 c1) F (fun cu2 c2 => ∃ cu c cu1 c1, Wr (OpnF t l sl 42 d cu c) (OpnG t l sl 42 d cu c) F G ∧ Ch2 t l sl d cu c cu1 c1 ∧ SumG t l sl d cu1 c1 cu2 c2) := by
  obtain ⟨cu, c, w, h⟩ := g
  exact ⟨fun f pl x => w.1 f pl (cho_2F h x), fun cu2 c2 x => ⟨cu, c, cu1, c1, w, h, x⟩⟩
theorem cho_h3 {w : Int} (hw : w = 294912) (l3 : l ≤ 300) (ok : CuOK l cu2) (ln : c2.length ≤ cu2.2.1) (hk : cu2.2.2.1 = 148) (g : ∃ cu c cu1 c1, Wr (OpnF t l sl 42 d cu c) (OpnG t l sl 42 d cu c) F G ∧ Ch2 t l sl d cu c cu1 c1 ∧ SumG t l sl d cu1 c1 cu2 c2) : RmE G w (adv t l cu2.1) c2 := by
  subst hw
  obtain ⟨cu, c, cu1, c1, w, h, x⟩ := g
  exact ⟨one_rm l3 ok (by omega) ln, w.2 _ _ (cho_3 h x l3 ok hk)⟩
theorem sp_X5_readChoice (cs : CS S R) (hd : d ≤ 8) (hm : 6 ≤ m) (hE : RdK S R mX5_readEither d m EitF EitG) (hS : RdK S R mX5_readSum d m SumF SumG) : RdK S R mX5_readChoice d (m + 1) ChoF ChoG := by
  intro n Post I t l sl F G hn hO hp
  have l3 := out_l hO
  refine Call.of (by decide +kernel) (Nat.le_of_ble_eq_true rfl) ?_
  show WP _ _ _ _ _ 0 [(0, _), (1, _)] [] 0 0 _ _ _
  refine x_aload_n dX5_readChoice_0 rfl ?_
  refine x_iload_n dX5_readChoice_1 rfl ?_
  refine x_callV1 (mc1 := 0) (ms1 := 0) dX5_readChoice_2 cv_RX5_166 (ci := 5) (k_ob_287 cs) rfl (Nat.le_of_ble_eq_true rfl) (n1 := n - 1) (by omega) (by omega) (by omega) ?_
  refine hE _ _ _ _ _ _ _ _ (by omega) (out_imp hO (fun cu c _ _ _ _ _ _ g => cho_h0 g)) (fun J2 f2 o2 => ?_)
  refine x_aload_n dX5_readChoice_5 rfl ?_
  refine x_sipush dX5_readChoice_6 (by decide) ?_
  refine x_callV1 (mc1 := 0) (ms1 := 0) dX5_readChoice_9 cv_RX5_136 (ci := 5) (k_ob_287 cs) rfl (Nat.le_of_ble_eq_true rfl) (n1 := n - 1) (by omega) (by omega) (by omega) ?_
  refine sp_X5_expect (G := Cho1V t l sl d F G) cs (by omega) (by omega) (out_imp o2 (fun cu1 c1 ok ln _ k1 _ _ g => ⟨fun hk => ?_, fun hk => ?_⟩)) (fun J9 f9 o9 => ?_)
  · obtain ⟨cu, c, w, h⟩ := g
    exact w.1 _ _ (cho_1x h hk)
  · obtain ⟨cu, c, w, h⟩ := g
    exact ⟨cu, c, w, cho_1 h l3 ok hk⟩
  refine x_aload_n dX5_readChoice_12 rfl ?_
  refine x_iload_n dX5_readChoice_13 rfl ?_
  refine x_callV1 (mc1 := 0) (ms1 := 0) dX5_readChoice_14 cv_RX5_129 (ci := 5) (k_ob_287 cs) rfl (Nat.le_of_ble_eq_true rfl) (n1 := n - 1) (by omega) (by omega) (by omega) ?_
  refine hS _ _ _ _ _ _ _ _ (by omega) (out_imp o9 (fun cu c _ _ _ _ _ _ g => cho_h1 g)) (fun J14 f14 o14 => ?_)
  refine x_aload_n dX5_readChoice_17 rfl ?_
  refine x_sipush dX5_readChoice_18 (by decide) ?_
  refine x_callV1 (mc1 := 0) (ms1 := 0) dX5_readChoice_21 cv_RX5_136 (ci := 5) (k_ob_287 cs) rfl (Nat.le_of_ble_eq_true rfl) (n1 := n - 1) (by omega) (by omega) (by omega) ?_
  refine sp_X5_expect (G := Cho2V t l sl d F G) cs (by omega) (by omega) (out_imp o14 (fun cu2 c2 ok ln _ k1 _ _ g => ⟨fun hk => ?_, fun hk => ?_⟩)) (fun J21 f21 o21 => ?_)
  · obtain ⟨cu, c, cu1, c1, w, h, x⟩ := g
    exact w.1 _ _ (cho_2x h x hk)
  · obtain ⟨cu, c, cu1, c1, w, h, x⟩ := g
    exact ⟨cu, c, w, cho_2 h x l3 ok hk⟩
  refine x_aload_n dX5_readChoice_24 rfl ?_
  refine x_iload_n dX5_readChoice_25 rfl ?_
  refine x_callV1 (mc1 := 0) (ms1 := 0) dX5_readChoice_26 cv_RX5_129 (ci := 5) (k_ob_287 cs) rfl (Nat.le_of_ble_eq_true rfl) (n1 := n - 1) (by omega) (by omega) (by omega) ?_
  refine hS _ _ _ _ _ _ _ _ (by omega) (out_imp o21 (fun cu c _ _ _ _ _ _ g => cho_h2 g)) (fun J26 f26 o26 => ?_)
  refine x_aload_n dX5_readChoice_29 rfl ?_
  refine x_sipush dX5_readChoice_30 (by decide) ?_
  refine x_callV1 (mc1 := 0) (ms1 := 0) dX5_readChoice_33 cv_RX5_136 (ci := 5) (k_ob_287 cs) rfl (Nat.le_of_ble_eq_true rfl) (n1 := n - 1) (by omega) (by omega) (by omega) ?_
  refine sp_X5_expect (G := RmE G (18 * 16384 + 0)) cs (by omega) (by omega) (out_imp o26 (fun cu2 c2 ok ln _ k1 _ _ g => ⟨fun hk => ?_, fun hk => ?_⟩)) (fun J33 f33 o33 => ?_)
  · obtain ⟨cu, c, cu1, c1, w, h, x⟩ := g
    exact w.1 _ _ (cho_3x h x hk)
  · exact cho_h3 (by decide) l3 ok ln hk g
  refine x_aload_n dX5_readChoice_36 rfl ?_
  refine x_bipush dX5_readChoice_37 (by decide) ?_
  refine x_iconst dX5_readChoice_39 ?_
  refine x_callV2 (mc1 := 0) (ms1 := 0) dX5_readChoice_40 cv_RX5_145 (ci := 5) (k_ob_287 cs) rfl (Nat.le_of_ble_eq_true rfl) (n1 := n - 1) (by omega) (by omega) (by omega) ?_
  refine sp_X5_emit (G := G) cs (by omega) (by omega) o33 (fun J40 f40 o40 => ?_)
  exact x_return dX5_readChoice_43 rfl (by omega) (by omega) (hp _ (Frd.tr (Frd.tr (Frd.tr (Frd.tr (Frd.tr (Frd.tr f2 f9) f14) f21) f26) f33) f40) o40)
theorem dX5_readOpenOne_0 : decode prog_7_method_25_code 0 = .ok (.iload_n 1, 1) := by decide +kernel
theorem dX5_readOpenOne_1 : decode prog_7_method_25_code 1 = .ok (.lookupswitch 112 #[(40, 43), (45, 57), (143, 71), (144, 98)], 43) := by decide +kernel
theorem dX5_readOpenOne_44 : decode prog_7_method_25_code 44 = .ok (.aload_n 0, 1) := by decide +kernel
theorem dX5_readOpenOne_45 : decode prog_7_method_25_code 45 = .ok (.iload_n 2, 1) := by decide +kernel
theorem dX5_readOpenOne_46 : decode prog_7_method_25_code 46 = .ok (.invokevirtual 129, 3) := by decide +kernel
theorem dX5_readOpenOne_49 : decode prog_7_method_25_code 49 = .ok (.aload_n 0, 1) := by decide +kernel
theorem dX5_readOpenOne_50 : decode prog_7_method_25_code 50 = .ok (.bipush 41, 2) := by decide +kernel
theorem dX5_readOpenOne_52 : decode prog_7_method_25_code 52 = .ok (.invokevirtual 136, 3) := by decide +kernel
theorem dX5_readOpenOne_55 : decode prog_7_method_25_code 55 = .ok (.goto 63, 3) := by decide +kernel
theorem dX5_readOpenOne_58 : decode prog_7_method_25_code 58 = .ok (.aload_n 0, 1) := by decide +kernel
theorem dX5_readOpenOne_59 : decode prog_7_method_25_code 59 = .ok (.iload_n 2, 1) := by decide +kernel
theorem dX5_readOpenOne_60 : decode prog_7_method_25_code 60 = .ok (.invokevirtual 148, 3) := by decide +kernel
theorem dX5_readOpenOne_63 : decode prog_7_method_25_code 63 = .ok (.aload_n 0, 1) := by decide +kernel
theorem dX5_readOpenOne_64 : decode prog_7_method_25_code 64 = .ok (.iconst 2, 1) := by decide +kernel
theorem dX5_readOpenOne_65 : decode prog_7_method_25_code 65 = .ok (.iconst 0, 1) := by decide +kernel
theorem dX5_readOpenOne_66 : decode prog_7_method_25_code 66 = .ok (.invokevirtual 145, 3) := by decide +kernel
theorem dX5_readOpenOne_69 : decode prog_7_method_25_code 69 = .ok (.goto 49, 3) := by decide +kernel
theorem dX5_readOpenOne_72 : decode prog_7_method_25_code 72 = .ok (.aload_n 0, 1) := by decide +kernel
theorem dX5_readOpenOne_73 : decode prog_7_method_25_code 73 = .ok (.iload_n 2, 1) := by decide +kernel
theorem dX5_readOpenOne_74 : decode prog_7_method_25_code 74 = .ok (.invokevirtual 148, 3) := by decide +kernel
theorem dX5_readOpenOne_77 : decode prog_7_method_25_code 77 = .ok (.aload_n 0, 1) := by decide +kernel
theorem dX5_readOpenOne_78 : decode prog_7_method_25_code 78 = .ok (.sipush 139, 3) := by decide +kernel
theorem dX5_readOpenOne_81 : decode prog_7_method_25_code 81 = .ok (.invokevirtual 136, 3) := by decide +kernel
theorem dX5_readOpenOne_84 : decode prog_7_method_25_code 84 = .ok (.aload_n 0, 1) := by decide +kernel
theorem dX5_readOpenOne_85 : decode prog_7_method_25_code 85 = .ok (.iload_n 2, 1) := by decide +kernel
theorem dX5_readOpenOne_86 : decode prog_7_method_25_code 86 = .ok (.invokevirtual 148, 3) := by decide +kernel
theorem dX5_readOpenOne_89 : decode prog_7_method_25_code 89 = .ok (.aload_n 0, 1) := by decide +kernel
theorem dX5_readOpenOne_90 : decode prog_7_method_25_code 90 = .ok (.bipush 9, 2) := by decide +kernel
theorem dX5_readOpenOne_92 : decode prog_7_method_25_code 92 = .ok (.iconst 0, 1) := by decide +kernel
theorem dX5_readOpenOne_93 : decode prog_7_method_25_code 93 = .ok (.invokevirtual 145, 3) := by decide +kernel
theorem dX5_readOpenOne_96 : decode prog_7_method_25_code 96 = .ok (.goto 22, 3) := by decide +kernel
theorem dX5_readOpenOne_99 : decode prog_7_method_25_code 99 = .ok (.aload_n 0, 1) := by decide +kernel
theorem dX5_readOpenOne_100 : decode prog_7_method_25_code 100 = .ok (.iload_n 2, 1) := by decide +kernel
theorem dX5_readOpenOne_101 : decode prog_7_method_25_code 101 = .ok (.invokevirtual 148, 3) := by decide +kernel
theorem dX5_readOpenOne_104 : decode prog_7_method_25_code 104 = .ok (.aload_n 0, 1) := by decide +kernel
theorem dX5_readOpenOne_105 : decode prog_7_method_25_code 105 = .ok (.iconst 3, 1) := by decide +kernel
theorem dX5_readOpenOne_106 : decode prog_7_method_25_code 106 = .ok (.iconst 0, 1) := by decide +kernel
theorem dX5_readOpenOne_107 : decode prog_7_method_25_code 107 = .ok (.invokevirtual 145, 3) := by decide +kernel
theorem dX5_readOpenOne_110 : decode prog_7_method_25_code 110 = .ok (.goto 8, 3) := by decide +kernel
theorem dX5_readOpenOne_113 : decode prog_7_method_25_code 113 = .ok (.aload_n 0, 1) := by decide +kernel
theorem dX5_readOpenOne_114 : decode prog_7_method_25_code 114 = .ok (.iload_n 2, 1) := by decide +kernel
theorem dX5_readOpenOne_115 : decode prog_7_method_25_code 115 = .ok (.invokevirtual 163, 3) := by decide +kernel
theorem dX5_readOpenOne_118 : decode prog_7_method_25_code 118 = .ok (.return_, 1) := by decide +kernel
def Rm1 (cu : Cu) (c : List Int) : Prop := c.length + 1 ≤ cu.2.1
def OpnOK (S : Sh) (R : CR) (d m : Nat) : Prop := ∀ (n : Nat) (Post : PT) (I : CI) (t : Nat → Int) (l : Nat) (sl : Bool) (F : Int → Nat → Prop) (G : Cu → List Int → Prop) (x : Int), opk x → m ≤ n → OutC I t l sl F (fun cu c => Rm1 cu c ∧ Wr (OpnF t l sl (oo x) d cu c) (OpnG t l sl (oo x) d cu c) F G) → (∀ J, Frd I J → OutC J t l sl F G → Post none S J R) → Call n 0 0 mX5_readOpenOne [.ref (S.2.1 287), .int (iI x), .int (iI (d : Int))] S I R Post
theorem un_h {o w : Int} (ho : o = 5 ∨ o = 2) (hw : w = ivm o * 16384) (hr : Rm1 cu c) (h : Wr (OpnF t l sl o d cu c) (OpnG t l sl o d cu c) F G) : Wr (OneF t l sl d cu c) (OneG t l sl d cu c) F (RmE G w) := by
  subst hw
  refine ⟨fun f pl x => h.1 f pl (opn_unF ho x), fun cu1 c1 x => ⟨?_, h.2 _ _ (opn_un ho x)⟩⟩
  have s2 := x.2.1.2
  have r2 : c.length + 1 ≤ cu.2.1 := hr
  omega
def RsV (t : Nat → Int) (l : Nat) (sl : Bool) (d : Nat) (F : Int → Nat → Prop) (G : Cu → List Int → Prop) (cu1 : Cu) (c1 : List Int) : Prop := ∃ cu c, Wr (OpnF t l sl 41 d cu c) (OpnG t l sl 41 d cu c) F G ∧ OneG t l sl d cu c cu1 c1
theorem rs_h0 (h : Wr (OpnF t l sl 41 d cu c) (OpnG t l sl 41 d cu c) F G) : Wr (OneF t l sl d cu c) (OneG t l sl d cu c) F (RsV t l sl d F G) := ⟨fun f pl x => h.1 f pl (opn_rsF x), fun cu1 c1 x => ⟨cu, c, h, x⟩⟩
theorem rs_h1 {w : Int} (hw : w = 147456) (l3 : l ≤ 300) (ok : CuOK l cu1) (ln : c1.length ≤ cu1.2.1) (hk : cu1.2.2.1 = 139) (g : RsV t l sl d F G cu1 c1) : Wr (OneF t l sl d (adv t l cu1.1) c1) (OneG t l sl d (adv t l cu1.1) c1) F (RmE G w) := by
  subst hw
  obtain ⟨cu, c, h1, h2⟩ := g
  refine ⟨fun f pl x => h1.1 f pl (opn_rs2F h2 hk x), fun cu3 c3 x => ?_⟩
  obtain ⟨e1, e2⟩ := rm_e ok l3 (by omega) ln x.2.1
  exact ⟨e1, h1.2 _ _ (opn_rs h2 l3 ok hk x)⟩
def PaV (t : Nat → Int) (l : Nat) (sl : Bool) (d : Nat) (F : Int → Nat → Prop) (G : Cu → List Int → Prop) (cu1 : Cu) (c1 : List Int) : Prop := ∃ cu c, Wr (OpnF t l sl 40 d cu c) (OpnG t l sl 40 d cu c) F G ∧ SumG t l sl d cu c cu1 c1
theorem pa_h0 (h : Wr (OpnF t l sl 40 d cu c) (OpnG t l sl 40 d cu c) F G) : Wr (SumF t l sl d cu c) (SumG t l sl d cu c) F (PaV t l sl d F G) := ⟨fun f pl x => h.1 f pl (opn_parF x), fun cu1 c1 x => ⟨cu, c, h, x⟩⟩
theorem sp_X5_readOpenOne (cs : CS S R) (hd : d ≤ 8) (hm : 6 ≤ m) (hO1 : RdK S R mX5_readOne d m OneF OneG) (hS : RdK S R mX5_readSum d m SumF SumG) (hC : RdK S R mX5_readChoice d m ChoF ChoG) : OpnOK S R d (m + 1) := by
  intro n Post I t l sl F G x hx hn hO hp
  have l3 := out_l hO
  refine Call.of (by decide +kernel) (Nat.le_of_ble_eq_true rfl) ?_
  show WP _ _ _ _ _ 0 [(0, _), (1, _), (2, _)] [] 0 0 _ _ _
  refine x_iload_n dX5_readOpenOne_0 rfl ?_
  by_cases t1_0 : x = 40
  · refine x_lookup (off := 43) 44 dX5_readOpenOne_1 (by decide) (by omega) (by rw [t1_0]; first | done | rfl) (by decide) ?_
    have ho : oo x = 40 := by rw [t1_0]; rfl
    rw [ho] at hO
    refine x_aload_n dX5_readOpenOne_44 rfl ?_
    refine x_iload_n dX5_readOpenOne_45 rfl ?_
    refine x_callV1 (mc1 := 0) (ms1 := 0) dX5_readOpenOne_46 cv_RX5_129 (ci := 5) (k_ob_287 cs) rfl (Nat.le_of_ble_eq_true rfl) (n1 := n - 1) (by omega) (by omega) (by omega) ?_
    refine hS _ _ _ _ _ _ _ _ (by omega) (out_imp hO (fun cu c _ _ _ _ _ _ g => pa_h0 g.2)) (fun J46 f46 o46 => ?_)
    refine x_aload_n dX5_readOpenOne_49 rfl ?_
    refine x_bipush dX5_readOpenOne_50 (by decide) ?_
    refine x_callV1 (mc1 := 0) (ms1 := 0) dX5_readOpenOne_52 cv_RX5_136 (ci := 5) (k_ob_287 cs) rfl (Nat.le_of_ble_eq_true rfl) (n1 := n - 1) (by omega) (by omega) (by omega) ?_
    refine sp_X5_expect (G := G) cs (by omega) (by omega) (out_imp o46 (fun cu1 c1 ok ln _ k1 _ _ g => ⟨fun hk => ?_, fun hk => ?_⟩)) (fun J52 f52 o52 => ?_)
    · obtain ⟨cu, c, w, h⟩ := g
      exact w.1 _ _ (opn_parx h hk)
    · obtain ⟨cu, c, w, h⟩ := g
      exact w.2 _ _ (opn_par h l3 ok hk)
    refine x_goto 118 dX5_readOpenOne_55 (by decide) ?_
    exact x_return dX5_readOpenOne_118 rfl (by omega) (by omega) (by first | exact hp _ (Frd.tr f46 f52) o52 | exact hp _ (Frd.tr f60 f66) o66 | exact hp _ (Frd.tr f101 f107) o107 | exact hp _ (Frd.tr (Frd.tr (Frd.tr f74 f81) f86) f93) o93 | exact hp _ f115 o115)
  by_cases t1_1 : x = 45
  · refine x_lookup (off := 57) 58 dX5_readOpenOne_1 (by decide) (by omega) (by rw [t1_1]; first | done | rfl) (by decide) ?_
    have ho : oo x = 5 := by rw [t1_1]; rfl
    rw [ho] at hO
    refine x_aload_n dX5_readOpenOne_58 rfl ?_
    refine x_iload_n dX5_readOpenOne_59 rfl ?_
    refine x_callV1 (mc1 := 0) (ms1 := 0) dX5_readOpenOne_60 cv_RX5_148 (ci := 5) (k_ob_287 cs) rfl (Nat.le_of_ble_eq_true rfl) (n1 := n - 1) (by omega) (by omega) (by omega) ?_
    refine hO1 _ _ _ _ _ _ _ _ (by omega) (out_imp hO (fun cu c _ _ _ _ _ _ g => un_h (w := 2 * 16384 + 0) (Or.inl rfl) (by decide) g.1 g.2)) (fun J60 f60 o60 => ?_)
    refine x_aload_n dX5_readOpenOne_63 rfl ?_
    refine x_iconst dX5_readOpenOne_64 ?_
    refine x_iconst dX5_readOpenOne_65 ?_
    refine x_callV2 (mc1 := 0) (ms1 := 0) dX5_readOpenOne_66 cv_RX5_145 (ci := 5) (k_ob_287 cs) rfl (Nat.le_of_ble_eq_true rfl) (n1 := n - 1) (by omega) (by omega) (by omega) ?_
    refine sp_X5_emit (G := G) cs (by omega) (by omega) o60 (fun J66 f66 o66 => ?_)
    refine x_goto 118 dX5_readOpenOne_69 (by decide) ?_
    exact x_return dX5_readOpenOne_118 rfl (by omega) (by omega) (by first | exact hp _ (Frd.tr f46 f52) o52 | exact hp _ (Frd.tr f60 f66) o66 | exact hp _ (Frd.tr f101 f107) o107 | exact hp _ (Frd.tr (Frd.tr (Frd.tr f74 f81) f86) f93) o93 | exact hp _ f115 o115)
  by_cases t1_2 : x = 143
  · refine x_lookup (off := 71) 72 dX5_readOpenOne_1 (by decide) (by omega) (by rw [t1_2]; first | done | rfl) (by decide) ?_
    have ho : oo x = 41 := by rw [t1_2]; rfl
    rw [ho] at hO
    refine x_aload_n dX5_readOpenOne_72 rfl ?_
    refine x_iload_n dX5_readOpenOne_73 rfl ?_
    refine x_callV1 (mc1 := 0) (ms1 := 0) dX5_readOpenOne_74 cv_RX5_148 (ci := 5) (k_ob_287 cs) rfl (Nat.le_of_ble_eq_true rfl) (n1 := n - 1) (by omega) (by omega) (by omega) ?_
    refine hO1 _ _ _ _ _ _ _ _ (by omega) (out_imp hO (fun cu c _ _ _ _ _ _ g => rs_h0 g.2)) (fun J74 f74 o74 => ?_)
    refine x_aload_n dX5_readOpenOne_77 rfl ?_
    refine x_sipush dX5_readOpenOne_78 (by decide) ?_
    refine x_callV1 (mc1 := 0) (ms1 := 0) dX5_readOpenOne_81 cv_RX5_136 (ci := 5) (k_ob_287 cs) rfl (Nat.le_of_ble_eq_true rfl) (n1 := n - 1) (by omega) (by omega) (by omega) ?_
    refine sp_X5_expect (G := fun cu1 c1 => Wr (OneF t l sl d cu1 c1) (OneG t l sl d cu1 c1) F (RmE G (9 * 16384 + 0))) cs (by omega) (by omega) (out_imp o74 (fun cu1 c1 ok ln _ k1 _ _ g => ⟨fun hk => ?_, fun hk => ?_⟩)) (fun J81 f81 o81 => ?_)
    · obtain ⟨cu, c, w, h⟩ := g
      exact w.1 _ _ (opn_rsx h hk)
    · exact rs_h1 (by decide) l3 ok ln hk g
    refine x_aload_n dX5_readOpenOne_84 rfl ?_
    refine x_iload_n dX5_readOpenOne_85 rfl ?_
    refine x_callV1 (mc1 := 0) (ms1 := 0) dX5_readOpenOne_86 cv_RX5_148 (ci := 5) (k_ob_287 cs) rfl (Nat.le_of_ble_eq_true rfl) (n1 := n - 1) (by omega) (by omega) (by omega) ?_
    refine hO1 _ _ _ _ _ _ _ _ (by omega) o81 (fun J86 f86 o86 => ?_)
    refine x_aload_n dX5_readOpenOne_89 rfl ?_
    refine x_bipush dX5_readOpenOne_90 (by decide) ?_
    refine x_iconst dX5_readOpenOne_92 ?_
    refine x_callV2 (mc1 := 0) (ms1 := 0) dX5_readOpenOne_93 cv_RX5_145 (ci := 5) (k_ob_287 cs) rfl (Nat.le_of_ble_eq_true rfl) (n1 := n - 1) (by omega) (by omega) (by omega) ?_
    refine sp_X5_emit (G := G) cs (by omega) (by omega) o86 (fun J93 f93 o93 => ?_)
    refine x_goto 118 dX5_readOpenOne_96 (by decide) ?_
    exact x_return dX5_readOpenOne_118 rfl (by omega) (by omega) (by first | exact hp _ (Frd.tr f46 f52) o52 | exact hp _ (Frd.tr f60 f66) o66 | exact hp _ (Frd.tr f101 f107) o107 | exact hp _ (Frd.tr (Frd.tr (Frd.tr f74 f81) f86) f93) o93 | exact hp _ f115 o115)
  by_cases t1_3 : x = 144
  · refine x_lookup (off := 98) 99 dX5_readOpenOne_1 (by decide) (by omega) (by rw [t1_3]; first | done | rfl) (by decide) ?_
    have ho : oo x = 2 := by rw [t1_3]; rfl
    rw [ho] at hO
    refine x_aload_n dX5_readOpenOne_99 rfl ?_
    refine x_iload_n dX5_readOpenOne_100 rfl ?_
    refine x_callV1 (mc1 := 0) (ms1 := 0) dX5_readOpenOne_101 cv_RX5_148 (ci := 5) (k_ob_287 cs) rfl (Nat.le_of_ble_eq_true rfl) (n1 := n - 1) (by omega) (by omega) (by omega) ?_
    refine hO1 _ _ _ _ _ _ _ _ (by omega) (out_imp hO (fun cu c _ _ _ _ _ _ g => un_h (w := 3 * 16384 + 0) (Or.inr rfl) (by decide) g.1 g.2)) (fun J101 f101 o101 => ?_)
    refine x_aload_n dX5_readOpenOne_104 rfl ?_
    refine x_iconst dX5_readOpenOne_105 ?_
    refine x_iconst dX5_readOpenOne_106 ?_
    refine x_callV2 (mc1 := 0) (ms1 := 0) dX5_readOpenOne_107 cv_RX5_145 (ci := 5) (k_ob_287 cs) rfl (Nat.le_of_ble_eq_true rfl) (n1 := n - 1) (by omega) (by omega) (by omega) ?_
    refine sp_X5_emit (G := G) cs (by omega) (by omega) o101 (fun J107 f107 o107 => ?_)
    refine x_goto 118 dX5_readOpenOne_110 (by decide) ?_
    exact x_return dX5_readOpenOne_118 rfl (by omega) (by omega) (by first | exact hp _ (Frd.tr f46 f52) o52 | exact hp _ (Frd.tr f60 f66) o66 | exact hp _ (Frd.tr f101 f107) o107 | exact hp _ (Frd.tr (Frd.tr (Frd.tr f74 f81) f86) f93) o93 | exact hp _ f115 o115)
  refine x_lookup (off := 112) 113 dX5_readOpenOne_1 (by decide) (by omega) (by show Op.lookupswitch.offset [(40, 43), (45, 57), (143, 71), (144, 98)] _ _ = _; rw [Op.lookupswitch.offset_cons, if_neg (by omega), Op.lookupswitch.offset_cons, if_neg (by omega), Op.lookupswitch.offset_cons, if_neg (by omega), Op.lookupswitch.offset_cons, if_neg (by omega)]; rfl) (by decide) ?_
  have ho : oo x = 42 := by rw [show x = 145 by omega]; rfl
  rw [ho] at hO
  refine x_aload_n dX5_readOpenOne_113 rfl ?_
  refine x_iload_n dX5_readOpenOne_114 rfl ?_
  refine x_callV1 (mc1 := 0) (ms1 := 0) dX5_readOpenOne_115 cv_RX5_163 (ci := 5) (k_ob_287 cs) rfl (Nat.le_of_ble_eq_true rfl) (n1 := n - 1) (by omega) (by omega) (by omega) ?_
  refine hC _ _ _ _ _ _ _ _ (by omega) (out_imp hO (fun cu c _ _ _ _ _ _ g => g.2)) (fun J115 f115 o115 => ?_)
  exact x_return dX5_readOpenOne_118 rfl (by omega) (by omega) (by first | exact hp _ (Frd.tr f46 f52) o52 | exact hp _ (Frd.tr f60 f66) o66 | exact hp _ (Frd.tr f101 f107) o107 | exact hp _ (Frd.tr (Frd.tr (Frd.tr f74 f81) f86) f93) o93 | exact hp _ f115 o115)
theorem dX5_readOne_0 : decode prog_7_method_22_code 0 = .ok (.aload_n 0, 1) := by decide +kernel
theorem dX5_readOne_1 : decode prog_7_method_22_code 1 = .ok (.invokevirtual 37, 3) := by decide +kernel
theorem dX5_readOne_4 : decode prog_7_method_22_code 4 = .ok (.ifCond .ne 4, 3) := by decide +kernel
theorem dX5_readOne_7 : decode prog_7_method_22_code 7 = .ok (.return_, 1) := by decide +kernel
theorem dX5_readOne_8 : decode prog_7_method_22_code 8 = .ok (.aload_n 0, 1) := by decide +kernel
theorem dX5_readOne_9 : decode prog_7_method_22_code 9 = .ok (.getfield 41, 3) := by decide +kernel
theorem dX5_readOne_12 : decode prog_7_method_22_code 12 = .ok (.iconst 2, 1) := by decide +kernel
theorem dX5_readOne_13 : decode prog_7_method_22_code 13 = .ok (.if_icmp .ne 19, 3) := by decide +kernel
theorem dX5_readOne_16 : decode prog_7_method_22_code 16 = .ok (.aload_n 0, 1) := by decide +kernel
theorem dX5_readOne_17 : decode prog_7_method_22_code 17 = .ok (.iconst 0, 1) := by decide +kernel
theorem dX5_readOne_18 : decode prog_7_method_22_code 18 = .ok (.aload_n 0, 1) := by decide +kernel
theorem dX5_readOne_19 : decode prog_7_method_22_code 19 = .ok (.iconst 0, 1) := by decide +kernel
theorem dX5_readOne_20 : decode prog_7_method_22_code 20 = .ok (.sipush 9999, 3) := by decide +kernel
theorem dX5_readOne_23 : decode prog_7_method_22_code 23 = .ok (.invokevirtual 139, 3) := by decide +kernel
theorem dX5_readOne_26 : decode prog_7_method_22_code 26 = .ok (.invokevirtual 145, 3) := by decide +kernel
theorem dX5_readOne_29 : decode prog_7_method_22_code 29 = .ok (.goto 69, 3) := by decide +kernel
theorem dX5_readOne_32 : decode prog_7_method_22_code 32 = .ok (.aload_n 0, 1) := by decide +kernel
theorem dX5_readOne_33 : decode prog_7_method_22_code 33 = .ok (.getfield 41, 3) := by decide +kernel
theorem dX5_readOne_36 : decode prog_7_method_22_code 36 = .ok (.sipush 128, 3) := by decide +kernel
theorem dX5_readOne_39 : decode prog_7_method_22_code 39 = .ok (.if_icmp .lt 20, 3) := by decide +kernel
theorem dX5_readOne_42 : decode prog_7_method_22_code 42 = .ok (.aload_n 0, 1) := by decide +kernel
theorem dX5_readOne_43 : decode prog_7_method_22_code 43 = .ok (.getfield 41, 3) := by decide +kernel
theorem dX5_readOne_46 : decode prog_7_method_22_code 46 = .ok (.sipush 136, 3) := by decide +kernel
theorem dX5_readOne_49 : decode prog_7_method_22_code 49 = .ok (.if_icmp .ge 10, 3) := by decide +kernel
theorem dX5_readOne_52 : decode prog_7_method_22_code 52 = .ok (.aload_n 0, 1) := by decide +kernel
theorem dX5_readOne_53 : decode prog_7_method_22_code 53 = .ok (.invokevirtual 151, 3) := by decide +kernel
theorem dX5_readOne_56 : decode prog_7_method_22_code 56 = .ok (.goto 42, 3) := by decide +kernel
theorem dX5_readOne_59 : decode prog_7_method_22_code 59 = .ok (.aload_n 0, 1) := by decide +kernel
theorem dX5_readOne_60 : decode prog_7_method_22_code 60 = .ok (.getfield 41, 3) := by decide +kernel
theorem dX5_readOne_63 : decode prog_7_method_22_code 63 = .ok (.invokestatic 154, 3) := by decide +kernel
theorem dX5_readOne_66 : decode prog_7_method_22_code 66 = .ok (.ifCond .ne 11, 3) := by decide +kernel
theorem dX5_readOne_69 : decode prog_7_method_22_code 69 = .ok (.aload_n 0, 1) := by decide +kernel
theorem dX5_readOne_70 : decode prog_7_method_22_code 70 = .ok (.iconst 1, 1) := by decide +kernel
theorem dX5_readOne_71 : decode prog_7_method_22_code 71 = .ok (.invokevirtual 122, 3) := by decide +kernel
theorem dX5_readOne_74 : decode prog_7_method_22_code 74 = .ok (.goto 24, 3) := by decide +kernel
theorem dX5_readOne_77 : decode prog_7_method_22_code 77 = .ok (.aload_n 0, 1) := by decide +kernel
theorem dX5_readOne_78 : decode prog_7_method_22_code 78 = .ok (.getfield 41, 3) := by decide +kernel
theorem dX5_readOne_81 : decode prog_7_method_22_code 81 = .ok (.istore_n 2, 1) := by decide +kernel
theorem dX5_readOne_82 : decode prog_7_method_22_code 82 = .ok (.aload_n 0, 1) := by decide +kernel
theorem dX5_readOne_83 : decode prog_7_method_22_code 83 = .ok (.iload_n 1, 1) := by decide +kernel
theorem dX5_readOne_84 : decode prog_7_method_22_code 84 = .ok (.invokevirtual 157, 3) := by decide +kernel
theorem dX5_readOne_87 : decode prog_7_method_22_code 87 = .ok (.ifCond .eq 11, 3) := by decide +kernel
theorem dX5_readOne_90 : decode prog_7_method_22_code 90 = .ok (.aload_n 0, 1) := by decide +kernel
theorem dX5_readOne_91 : decode prog_7_method_22_code 91 = .ok (.iload_n 2, 1) := by decide +kernel
theorem dX5_readOne_92 : decode prog_7_method_22_code 92 = .ok (.iload_n 1, 1) := by decide +kernel
theorem dX5_readOne_93 : decode prog_7_method_22_code 93 = .ok (.iconst 1, 1) := by decide +kernel
theorem dX5_readOne_94 : decode prog_7_method_22_code 94 = .ok (.iadd, 1) := by decide +kernel
theorem dX5_readOne_95 : decode prog_7_method_22_code 95 = .ok (.invokevirtual 160, 3) := by decide +kernel
theorem dX5_readOne_98 : decode prog_7_method_22_code 98 = .ok (.return_, 1) := by decide +kernel
theorem sp_X5_readOne (cs : CS S R) (hd : d ≤ 8) (hm : 6 ≤ m) (hP : d < 8 → OpnOK S R (d + 1) m) : RdK S R mX5_readOne d (m + 1) OneF OneG := by
  intro n Post I t l sl F G hn hO hp
  have l3 := out_l hO
  have hb := out_b hO
  refine Call.of (by decide +kernel) (Nat.le_of_ble_eq_true rfl) ?_
  show WP _ _ _ _ _ 0 [(0, _), (1, _)] [] 0 0 _ _ _
  refine x_aload_n dX5_readOne_0 rfl ?_
  refine x_callV0 (mc1 := 0) (ms1 := 0) dX5_readOne_1 cv_RX5_37 (ci := 5) (k_ob_287 cs) rfl (Nat.le_of_ble_eq_true rfl) (n1 := n - 1) (by omega) (by omega) (by omega) ?_
  refine sp_X5_goesOn cs (by omega) (fun r1 hr1 => ?_)
  refine x_if_ne 8 dX5_readOne_4 (by decide) (by omega) (fun w4 => ?_) (fun w4 => ?_)
  · refine x_aload_n dX5_readOne_8 rfl ?_
    refine x_getI dX5_readOne_9 gf_RX5_41 (k_ob_287 cs) (fun _ _ => rfl) ?_
    refine x_iconst dX5_readOne_12 ?_
    refine x_icmp_ne 32 dX5_readOne_13 (by decide) ⟨(by omega), (by omega)⟩ (fun w13 => ?_) (fun w13 => ?_)
    · refine x_aload_n dX5_readOne_32 rfl ?_
      refine x_getI dX5_readOne_33 gf_RX5_41 (k_ob_287 cs) (fun _ _ => rfl) ?_
      refine x_sipush dX5_readOne_36 (by decide) ?_
      refine x_icmp_lt 59 dX5_readOne_39 (by decide) ⟨(by omega), (by omega)⟩ (fun w39 => ?_) (fun w39 => ?_)
      · refine x_aload_n dX5_readOne_59 rfl ?_
        refine x_getI dX5_readOne_60 gf_RX5_41 (k_ob_287 cs) (fun _ _ => rfl) ?_
        refine x_callS1 (mc1 := 0) (ms1 := 0) dX5_readOne_63 cv_RX5_154 (Nat.le_of_ble_eq_true rfl) (n1 := n - 1) (by omega) (by omega) (by omega) ?_
        refine sp_X5_beginsOpenOne (by omega) (fun r63 hr63 => ?_)
        refine x_if_ne 77 dX5_readOne_66 (by decide) (by omega) (fun w66 => ?_) (fun w66 => ?_)
        · refine x_aload_n dX5_readOne_77 rfl ?_
          refine x_getI dX5_readOne_78 gf_RX5_41 (k_ob_287 cs) (fun _ _ => rfl) ?_
          refine x_istore_n (lv2 := [(2, _), (0, _), (1, _)]) dX5_readOne_81 (by decide) rfl ?_
          refine x_aload_n dX5_readOne_82 rfl ?_
          refine x_iload_n dX5_readOne_83 rfl ?_
          refine x_callV1 (mc1 := 0) (ms1 := 0) dX5_readOne_84 cv_RX5_157 (ci := 5) (k_ob_287 cs) rfl (Nat.le_of_ble_eq_true rfl) (n1 := n - 1) (by omega) (by omega) (by omega) ?_
          refine sp_X5_opens (G := fun cu1 c1 => Rm1 cu1 c1 ∧ Wr (OpnF t l sl (oo (I 287 15)) (d + 1) cu1 c1) (OpnG t l sl (oo (I 287 15)) (d + 1) cu1 c1) F G) cs (by omega) hd (out_imp hO (fun cu c ok ln _ k1 _ _ g => ⟨fun h8 => g.1 _ _ (one_deep (by omega) h8), fun h8 => ⟨one_rm l3 ok (by omega) ln, ?_⟩⟩)) (fun r84 J84 f84 o84 => ?_)
          · rw [k1]
            exact ⟨fun f pl x => g.1 f pl (one_openF (by omega) h8 x), fun cu1 c1 x => g.2 _ _ (one_openG l3 ok (by omega) h8 x)⟩
          refine x_if_eq 98 dX5_readOne_87 (by decide) (by omega) (fun w87 => ?_) (fun w87 => ?_)
          · exact x_return dX5_readOne_98 rfl (by omega) (by omega) (by first
 | exact hp _ (Frd.tr f23 f26) o26
 | exact hp _ f53 o53
 | exact hp _ f71 o71
 | exact hp _ (Frd.tr f84 f95) o95
 | (rcases o84 with h1 | h1
    · exfalso; omega
    · exact hp _ f84 (out_no h1.2.2))
 | exact hp _ Frd.rf (out_flt hO (by omega)))
          · refine x_aload_n dX5_readOne_90 rfl ?_
            refine x_iload_n dX5_readOne_91 rfl ?_
            refine x_iload_n dX5_readOne_92 rfl ?_
            refine x_iconst dX5_readOne_93 ?_
            refine x_iadd dX5_readOne_94 ?_
            refine x_callV2 (mc1 := 0) (ms1 := 0) dX5_readOne_95 cv_RX5_160 (ci := 5) (k_ob_287 cs) rfl (Nat.le_of_ble_eq_true rfl) (n1 := n - 1) (by omega) (by omega) (by omega) ?_
            have o85 : OutC J84 t l sl F (fun cu1 c1 => Rm1 cu1 c1 ∧ Wr (OpnF t l sl (oo (I 287 15)) (d + 1) cu1 c1) (OpnG t l sl (oo (I 287 15)) (d + 1) cu1 c1) F G) := by
              rcases o84 with h1 | h1
              · exact h1.2.2
              · exfalso; omega
            refine hP (by omega) _ _ _ _ _ _ _ _ _ (by omega) (by omega) o85 (fun J95 f95 o95 => ?_)
            exact x_return dX5_readOne_98 rfl (by omega) (by omega) (by first
 | exact hp _ (Frd.tr f23 f26) o26
 | exact hp _ f53 o53
 | exact hp _ f71 o71
 | exact hp _ (Frd.tr f84 f95) o95
 | (rcases o84 with h1 | h1
    · exfalso; omega
    · exact hp _ f84 (out_no h1.2.2))
 | exact hp _ Frd.rf (out_flt hO (by omega)))
        · refine x_aload_n dX5_readOne_69 rfl ?_
          refine x_iconst dX5_readOne_70 ?_
          refine x_callV1 (mc1 := 0) (ms1 := 0) dX5_readOne_71 cv_RX5_122 (ci := 5) (k_ob_287 cs) rfl (Nat.le_of_ble_eq_true rfl) (n1 := n - 1) (by omega) (by omega) (by omega) ?_
          refine sp_X5_refuse (G := G) cs (by omega) (by omega) (out_imp hO (fun cu c ok ln _ k1 _ _ g => g.1 _ _ (one_cant (by omega)))) (fun J71 f71 o71 => ?_)
          refine x_goto 98 dX5_readOne_74 (by decide) ?_
          exact x_return dX5_readOne_98 rfl (by omega) (by omega) (by first
 | exact hp _ (Frd.tr f23 f26) o26
 | exact hp _ f53 o53
 | exact hp _ f71 o71
 | exact hp _ (Frd.tr f84 f95) o95
 | (rcases o84 with h1 | h1
    · exfalso; omega
    · exact hp _ f84 (out_no h1.2.2))
 | exact hp _ Frd.rf (out_flt hO (by omega)))
      · refine x_aload_n dX5_readOne_42 rfl ?_
        refine x_getI dX5_readOne_43 gf_RX5_41 (k_ob_287 cs) (fun _ _ => rfl) ?_
        refine x_sipush dX5_readOne_46 (by decide) ?_
        refine x_icmp_ge 59 dX5_readOne_49 (by decide) ⟨(by omega), (by omega)⟩ (fun w49 => ?_) (fun w49 => ?_)
        · refine x_aload_n dX5_readOne_59 rfl ?_
          refine x_getI dX5_readOne_60 gf_RX5_41 (k_ob_287 cs) (fun _ _ => rfl) ?_
          refine x_callS1 (mc1 := 0) (ms1 := 0) dX5_readOne_63 cv_RX5_154 (Nat.le_of_ble_eq_true rfl) (n1 := n - 1) (by omega) (by omega) (by omega) ?_
          refine sp_X5_beginsOpenOne (by omega) (fun r63 hr63 => ?_)
          refine x_if_ne 77 dX5_readOne_66 (by decide) (by omega) (fun w66 => ?_) (fun w66 => ?_)
          · refine x_aload_n dX5_readOne_77 rfl ?_
            refine x_getI dX5_readOne_78 gf_RX5_41 (k_ob_287 cs) (fun _ _ => rfl) ?_
            refine x_istore_n (lv2 := [(2, _), (0, _), (1, _)]) dX5_readOne_81 (by decide) rfl ?_
            refine x_aload_n dX5_readOne_82 rfl ?_
            refine x_iload_n dX5_readOne_83 rfl ?_
            refine x_callV1 (mc1 := 0) (ms1 := 0) dX5_readOne_84 cv_RX5_157 (ci := 5) (k_ob_287 cs) rfl (Nat.le_of_ble_eq_true rfl) (n1 := n - 1) (by omega) (by omega) (by omega) ?_
            refine sp_X5_opens (G := fun cu1 c1 => Rm1 cu1 c1 ∧ Wr (OpnF t l sl (oo (I 287 15)) (d + 1) cu1 c1) (OpnG t l sl (oo (I 287 15)) (d + 1) cu1 c1) F G) cs (by omega) hd (out_imp hO (fun cu c ok ln _ k1 _ _ g => ⟨fun h8 => g.1 _ _ (one_deep (by omega) h8), fun h8 => ⟨one_rm l3 ok (by omega) ln, ?_⟩⟩)) (fun r84 J84 f84 o84 => ?_)
            · rw [k1]
              exact ⟨fun f pl x => g.1 f pl (one_openF (by omega) h8 x), fun cu1 c1 x => g.2 _ _ (one_openG l3 ok (by omega) h8 x)⟩
            refine x_if_eq 98 dX5_readOne_87 (by decide) (by omega) (fun w87 => ?_) (fun w87 => ?_)
            · exact x_return dX5_readOne_98 rfl (by omega) (by omega) (by first
 | exact hp _ (Frd.tr f23 f26) o26
 | exact hp _ f53 o53
 | exact hp _ f71 o71
 | exact hp _ (Frd.tr f84 f95) o95
 | (rcases o84 with h1 | h1
    · exfalso; omega
    · exact hp _ f84 (out_no h1.2.2))
 | exact hp _ Frd.rf (out_flt hO (by omega)))
            · refine x_aload_n dX5_readOne_90 rfl ?_
              refine x_iload_n dX5_readOne_91 rfl ?_
              refine x_iload_n dX5_readOne_92 rfl ?_
              refine x_iconst dX5_readOne_93 ?_
              refine x_iadd dX5_readOne_94 ?_
              refine x_callV2 (mc1 := 0) (ms1 := 0) dX5_readOne_95 cv_RX5_160 (ci := 5) (k_ob_287 cs) rfl (Nat.le_of_ble_eq_true rfl) (n1 := n - 1) (by omega) (by omega) (by omega) ?_
              have o85 : OutC J84 t l sl F (fun cu1 c1 => Rm1 cu1 c1 ∧ Wr (OpnF t l sl (oo (I 287 15)) (d + 1) cu1 c1) (OpnG t l sl (oo (I 287 15)) (d + 1) cu1 c1) F G) := by
                rcases o84 with h1 | h1
                · exact h1.2.2
                · exfalso; omega
              refine hP (by omega) _ _ _ _ _ _ _ _ _ (by omega) (by omega) o85 (fun J95 f95 o95 => ?_)
              exact x_return dX5_readOne_98 rfl (by omega) (by omega) (by first
 | exact hp _ (Frd.tr f23 f26) o26
 | exact hp _ f53 o53
 | exact hp _ f71 o71
 | exact hp _ (Frd.tr f84 f95) o95
 | (rcases o84 with h1 | h1
    · exfalso; omega
    · exact hp _ f84 (out_no h1.2.2))
 | exact hp _ Frd.rf (out_flt hO (by omega)))
          · refine x_aload_n dX5_readOne_69 rfl ?_
            refine x_iconst dX5_readOne_70 ?_
            refine x_callV1 (mc1 := 0) (ms1 := 0) dX5_readOne_71 cv_RX5_122 (ci := 5) (k_ob_287 cs) rfl (Nat.le_of_ble_eq_true rfl) (n1 := n - 1) (by omega) (by omega) (by omega) ?_
            refine sp_X5_refuse (G := G) cs (by omega) (by omega) (out_imp hO (fun cu c ok ln _ k1 _ _ g => g.1 _ _ (one_cant (by omega)))) (fun J71 f71 o71 => ?_)
            refine x_goto 98 dX5_readOne_74 (by decide) ?_
            exact x_return dX5_readOne_98 rfl (by omega) (by omega) (by first
 | exact hp _ (Frd.tr f23 f26) o26
 | exact hp _ f53 o53
 | exact hp _ f71 o71
 | exact hp _ (Frd.tr f84 f95) o95
 | (rcases o84 with h1 | h1
    · exfalso; omega
    · exact hp _ f84 (out_no h1.2.2))
 | exact hp _ Frd.rf (out_flt hO (by omega)))
        · refine x_aload_n dX5_readOne_52 rfl ?_
          refine x_callV0 (mc1 := 0) (ms1 := 0) dX5_readOne_53 cv_RX5_151 (ci := 5) (k_ob_287 cs) rfl (Nat.le_of_ble_eq_true rfl) (n1 := n - 1) (by omega) (by omega) (by omega) ?_
          refine sp_X5_readName (d := d) (G := G) cs (by omega) (by omega) (by omega) hO (fun J53 f53 o53 => ?_)
          refine x_goto 98 dX5_readOne_56 (by decide) ?_
          exact x_return dX5_readOne_98 rfl (by omega) (by omega) (by first
 | exact hp _ (Frd.tr f23 f26) o26
 | exact hp _ f53 o53
 | exact hp _ f71 o71
 | exact hp _ (Frd.tr f84 f95) o95
 | (rcases o84 with h1 | h1
    · exfalso; omega
    · exact hp _ f84 (out_no h1.2.2))
 | exact hp _ Frd.rf (out_flt hO (by omega)))
    · refine x_aload_n dX5_readOne_16 rfl ?_
      refine x_iconst dX5_readOne_17 ?_
      refine x_aload_n dX5_readOne_18 rfl ?_
      refine x_iconst dX5_readOne_19 ?_
      refine x_sipush dX5_readOne_20 (by decide) ?_
      refine x_callV2 (mc1 := 0) (ms1 := 0) dX5_readOne_23 cv_RX5_139 (ci := 5) (k_ob_287 cs) rfl (Nat.le_of_ble_eq_true rfl) (n1 := n - 1) (by omega) (by omega) (by omega) ?_
      refine sp_X5_takeNumber (Gv := fun v => RmE G (0 * 16384 + v)) cs (by omega) (by omega) (out_imp hO (fun cu c ok ln _ k1 _ _ g => ⟨fun hk => by omega, fun hk hk2 => ?_, fun hk hk2 hk3 => ?_⟩)) (fun v23 J23 b23 f23 o23 => ?_)
      · have o6 := ok.2.2.2.2.2
        exact g.1 _ _ (one_numx hk (by omega))
      · refine ⟨one_rm l3 ok (by omega) ln, g.2 _ _ ?_⟩
        rw [show 0 * 16384 + cu.2.2.2 = cu.2.2.2 by omega]
        exact one_num l3 ok hk hk3
      refine x_callV2 (mc1 := 0) (ms1 := 0) dX5_readOne_26 cv_RX5_145 (ci := 5) (k_ob_287 cs) rfl (Nat.le_of_ble_eq_true rfl) (n1 := n - 1) (by omega) (by omega) (by omega) ?_
      refine sp_X5_emit (G := G) cs (by omega) (by omega) o23 (fun J26 f26 o26 => ?_)
      refine x_goto 98 dX5_readOne_29 (by decide) ?_
      exact x_return dX5_readOne_98 rfl (by omega) (by omega) (by first
 | exact hp _ (Frd.tr f23 f26) o26
 | exact hp _ f53 o53
 | exact hp _ f71 o71
 | exact hp _ (Frd.tr f84 f95) o95
 | (rcases o84 with h1 | h1
    · exfalso; omega
    · exact hp _ f84 (out_no h1.2.2))
 | exact hp _ Frd.rf (out_flt hO (by omega)))
  · exact x_return dX5_readOne_7 rfl (by omega) (by omega) (by first
 | exact hp _ (Frd.tr f23 f26) o26
 | exact hp _ f53 o53
 | exact hp _ f71 o71
 | exact hp _ (Frd.tr f84 f95) o95
 | (rcases o84 with h1 | h1
    · exfalso; omega
    · exact hp _ f84 (out_no h1.2.2))
 | exact hp _ Frd.rf (out_flt hO (by omega)))
theorem dX5_readAsk_0 : decode prog_7_method_29_code 0 = .ok (.aload_n 0, 1) := by decide +kernel
theorem dX5_readAsk_1 : decode prog_7_method_29_code 1 = .ok (.invokevirtual 37, 3) := by decide +kernel
theorem dX5_readAsk_4 : decode prog_7_method_29_code 4 = .ok (.ifCond .ne 4, 3) := by decide +kernel
theorem dX5_readAsk_7 : decode prog_7_method_29_code 7 = .ok (.return_, 1) := by decide +kernel
theorem dX5_readAsk_8 : decode prog_7_method_29_code 8 = .ok (.aload_n 0, 1) := by decide +kernel
theorem dX5_readAsk_9 : decode prog_7_method_29_code 9 = .ok (.getfield 41, 3) := by decide +kernel
theorem dX5_readAsk_12 : decode prog_7_method_29_code 12 = .ok (.sipush 149, 3) := by decide +kernel
theorem dX5_readAsk_15 : decode prog_7_method_29_code 15 = .ok (.if_icmp .ne 25, 3) := by decide +kernel
theorem dX5_readAsk_18 : decode prog_7_method_29_code 18 = .ok (.aload_n 0, 1) := by decide +kernel
theorem dX5_readAsk_19 : decode prog_7_method_29_code 19 = .ok (.iload_n 1, 1) := by decide +kernel
theorem dX5_readAsk_20 : decode prog_7_method_29_code 20 = .ok (.invokevirtual 157, 3) := by decide +kernel
theorem dX5_readAsk_23 : decode prog_7_method_29_code 23 = .ok (.ifCond .eq 16, 3) := by decide +kernel
theorem dX5_readAsk_26 : decode prog_7_method_29_code 26 = .ok (.aload_n 0, 1) := by decide +kernel
theorem dX5_readAsk_27 : decode prog_7_method_29_code 27 = .ok (.iload_n 1, 1) := by decide +kernel
theorem dX5_readAsk_28 : decode prog_7_method_29_code 28 = .ok (.iconst 1, 1) := by decide +kernel
theorem dX5_readAsk_29 : decode prog_7_method_29_code 29 = .ok (.iadd, 1) := by decide +kernel
theorem dX5_readAsk_30 : decode prog_7_method_29_code 30 = .ok (.invokevirtual 172, 3) := by decide +kernel
theorem dX5_readAsk_33 : decode prog_7_method_29_code 33 = .ok (.aload_n 0, 1) := by decide +kernel
theorem dX5_readAsk_34 : decode prog_7_method_29_code 34 = .ok (.iconst 4, 1) := by decide +kernel
theorem dX5_readAsk_35 : decode prog_7_method_29_code 35 = .ok (.iconst 0, 1) := by decide +kernel
theorem dX5_readAsk_36 : decode prog_7_method_29_code 36 = .ok (.invokevirtual 145, 3) := by decide +kernel
theorem dX5_readAsk_39 : decode prog_7_method_29_code 39 = .ok (.return_, 1) := by decide +kernel
theorem dX5_readAsk_40 : decode prog_7_method_29_code 40 = .ok (.aload_n 0, 1) := by decide +kernel
theorem dX5_readAsk_41 : decode prog_7_method_29_code 41 = .ok (.iload_n 1, 1) := by decide +kernel
theorem dX5_readAsk_42 : decode prog_7_method_29_code 42 = .ok (.invokevirtual 129, 3) := by decide +kernel
theorem dX5_readAsk_45 : decode prog_7_method_29_code 45 = .ok (.aload_n 0, 1) := by decide +kernel
theorem dX5_readAsk_46 : decode prog_7_method_29_code 46 = .ok (.invokevirtual 175, 3) := by decide +kernel
theorem dX5_readAsk_49 : decode prog_7_method_29_code 49 = .ok (.istore_n 2, 1) := by decide +kernel
theorem dX5_readAsk_50 : decode prog_7_method_29_code 50 = .ok (.iload_n 2, 1) := by decide +kernel
theorem dX5_readAsk_51 : decode prog_7_method_29_code 51 = .ok (.iconst (-1), 1) := by decide +kernel
theorem dX5_readAsk_52 : decode prog_7_method_29_code 52 = .ok (.if_icmp .ne 9, 3) := by decide +kernel
theorem dX5_readAsk_55 : decode prog_7_method_29_code 55 = .ok (.aload_n 0, 1) := by decide +kernel
theorem dX5_readAsk_56 : decode prog_7_method_29_code 56 = .ok (.iconst 1, 1) := by decide +kernel
theorem dX5_readAsk_57 : decode prog_7_method_29_code 57 = .ok (.invokevirtual 122, 3) := by decide +kernel
theorem dX5_readAsk_60 : decode prog_7_method_29_code 60 = .ok (.return_, 1) := by decide +kernel
theorem dX5_readAsk_61 : decode prog_7_method_29_code 61 = .ok (.aload_n 0, 1) := by decide +kernel
theorem dX5_readAsk_62 : decode prog_7_method_29_code 62 = .ok (.invokevirtual 34, 3) := by decide +kernel
theorem dX5_readAsk_65 : decode prog_7_method_29_code 65 = .ok (.aload_n 0, 1) := by decide +kernel
theorem dX5_readAsk_66 : decode prog_7_method_29_code 66 = .ok (.iload_n 1, 1) := by decide +kernel
theorem dX5_readAsk_67 : decode prog_7_method_29_code 67 = .ok (.invokevirtual 129, 3) := by decide +kernel
theorem dX5_readAsk_70 : decode prog_7_method_29_code 70 = .ok (.aload_n 0, 1) := by decide +kernel
theorem dX5_readAsk_71 : decode prog_7_method_29_code 71 = .ok (.iload_n 2, 1) := by decide +kernel
theorem dX5_readAsk_72 : decode prog_7_method_29_code 72 = .ok (.iconst 0, 1) := by decide +kernel
theorem dX5_readAsk_73 : decode prog_7_method_29_code 73 = .ok (.invokevirtual 145, 3) := by decide +kernel
theorem dX5_readAsk_76 : decode prog_7_method_29_code 76 = .ok (.return_, 1) := by decide +kernel
def AsV (t : Nat → Int) (l : Nat) (sl : Bool) (d : Nat) (F : Int → Nat → Prop) (G : Cu → List Int → Prop) (cu1 : Cu) (c1 : List Int) : Prop := ∃ cu c, Wr (AskF t l sl d cu c) (AskG t l sl d cu c) F G ∧ cu.2.2.1 ≠ 149 ∧ SumG t l sl d cu c cu1 c1
theorem as_h1 {o : Int} (l3 : l ≤ 300) (ok : CuOK l cu1) (ln : c1.length ≤ cu1.2.1) (hk : cmpO cu1.2.2.1 = o) (ho : 10 ≤ o ∧ o ≤ 15) (g : AsV t l sl d F G cu1 c1) : Wr (SumF t l sl d (adv t l cu1.1) c1) (SumG t l sl d (adv t l cu1.1) c1) F (RmE G (o * 16384 + 0)) := by
  obtain ⟨cu, c, h1, h0, h2⟩ := g
  have hne : cu1.2.2.1 ≠ 0 := by
    intro h0
    rw [h0] at hk
    have : cmpO 0 = -1 := rfl
    omega
  refine ⟨fun f pl x => h1.1 f pl (ask_2F h0 h2 hk ho x), fun cu3 c3 x => ?_⟩
  obtain ⟨e1, e2⟩ := rm_e ok l3 hne ln x.1.1.2.1
  refine ⟨e1, h1.2 _ _ ?_⟩
  rw [show o * 16384 + 0 = o * 16384 by omega]
  exact ask_s h0 l3 ok h2 hk ho x
theorem sp_X5_readAsk (cs : CS S R) (hd : d ≤ 8) (hm : 6 ≤ m) (hS : RdK S R mX5_readSum d m SumF SumG) (hA : d < 8 → RdK S R mX5_readAsk (d + 1) m AskF AskG) : RdK S R mX5_readAsk d (m + 1) AskF AskG := by
  intro n Post I t l sl F G hn hO hp
  have l3 := out_l hO
  have hb := out_b hO
  refine Call.of (by decide +kernel) (Nat.le_of_ble_eq_true rfl) ?_
  show WP _ _ _ _ _ 0 [(0, _), (1, _)] [] 0 0 _ _ _
  refine x_aload_n dX5_readAsk_0 rfl ?_
  refine x_callV0 (mc1 := 0) (ms1 := 0) dX5_readAsk_1 cv_RX5_37 (ci := 5) (k_ob_287 cs) rfl (Nat.le_of_ble_eq_true rfl) (n1 := n - 1) (by omega) (by omega) (by omega) ?_
  refine sp_X5_goesOn cs (by omega) (fun r1 hr1 => ?_)
  refine x_if_ne 8 dX5_readAsk_4 (by decide) (by omega) (fun w4 => ?_) (fun w4 => ?_)
  · refine x_aload_n dX5_readAsk_8 rfl ?_
    refine x_getI dX5_readAsk_9 gf_RX5_41 (k_ob_287 cs) (fun _ _ => rfl) ?_
    refine x_sipush dX5_readAsk_12 (by decide) ?_
    refine x_icmp_ne 40 dX5_readAsk_15 (by decide) ⟨(by omega), (by omega)⟩ (fun w15 => ?_) (fun w15 => ?_)
    · refine x_aload_n dX5_readAsk_40 rfl ?_
      refine x_iload_n dX5_readAsk_41 rfl ?_
      refine x_callV1 (mc1 := 0) (ms1 := 0) dX5_readAsk_42 cv_RX5_129 (ci := 5) (k_ob_287 cs) rfl (Nat.le_of_ble_eq_true rfl) (n1 := n - 1) (by omega) (by omega) (by omega) ?_
      refine hS _ _ _ _ _ _ _ (AsV t l sl d F G) (by omega) (out_imp hO (fun cu c ok ln _ k1 _ _ g => ⟨fun f pl x => g.1 f pl (ask_sF (by omega) x), fun cu1 c1 x => ⟨cu, c, g, by omega, x⟩⟩)) (fun J42 f42 o42 => ?_)
      have hb42 := out_b o42
      have hc42 := cmp_b (J42 287 15)
      refine x_aload_n dX5_readAsk_45 rfl ?_
      refine x_callV0 (mc1 := 0) (ms1 := 0) dX5_readAsk_46 cv_RX5_175 (ci := 5) (k_ob_287 cs) rfl (Nat.le_of_ble_eq_true rfl) (n1 := n - 1) (by omega) (by omega) (by omega) ?_
      refine sp_X5_comparison cs (by omega) ?_
      refine x_istore_n (lv2 := [(2, _), (0, _), (1, _)]) dX5_readAsk_49 (by decide) rfl ?_
      refine x_iload_n dX5_readAsk_50 rfl ?_
      refine x_iconst dX5_readAsk_51 ?_
      refine x_icmp_ne 61 dX5_readAsk_52 (by decide) ⟨(by omega), (by omega)⟩ (fun w52 => ?_) (fun w52 => ?_)
      · refine x_aload_n dX5_readAsk_61 rfl ?_
        refine x_callV0 (mc1 := 0) (ms1 := 0) dX5_readAsk_62 cv_RX5_34 (ci := 5) (k_ob_287 cs) rfl (Nat.le_of_ble_eq_true rfl) (n1 := n - 1) (by omega) (by omega) (by omega) ?_
        refine sp_adv (G := fun cu2 c2 => Wr (SumF t l sl d cu2 c2) (SumG t l sl d cu2 c2) F (RmE G (cmpO (J42 287 15) * 16384 + 0))) cs (by omega) (out_imp o42 (fun cu1 c1 ok ln _ k1 _ _ g => as_h1 l3 ok ln (by rw [k1]) (by omega) g)) (fun J62 f62 o62 => ?_)
        refine x_aload_n dX5_readAsk_65 rfl ?_
        refine x_iload_n dX5_readAsk_66 rfl ?_
        refine x_callV1 (mc1 := 0) (ms1 := 0) dX5_readAsk_67 cv_RX5_129 (ci := 5) (k_ob_287 cs) rfl (Nat.le_of_ble_eq_true rfl) (n1 := n - 1) (by omega) (by omega) (by omega) ?_
        refine hS _ _ _ _ _ _ _ _ (by omega) o62 (fun J67 f67 o67 => ?_)
        refine x_aload_n dX5_readAsk_70 rfl ?_
        refine x_iload_n dX5_readAsk_71 rfl ?_
        refine x_iconst dX5_readAsk_72 ?_
        refine x_callV2 (mc1 := 0) (ms1 := 0) dX5_readAsk_73 cv_RX5_145 (ci := 5) (k_ob_287 cs) rfl (Nat.le_of_ble_eq_true rfl) (n1 := n - 1) (by omega) (by omega) (by omega) ?_
        refine sp_X5_emit (G := G) cs (by omega) (by omega) o67 (fun J73 f73 o73 => ?_)
        exact x_return dX5_readAsk_76 rfl (by omega) (by omega) (by first
 | exact hp _ (Frd.tr (Frd.tr f20 f30) f36) o36
 | exact hp _ (Frd.tr f42 f57) o57
 | exact hp _ (Frd.tr (Frd.tr (Frd.tr f42 f62) f67) f73) o73
 | (rcases o20 with h1 | h1
    · exfalso; omega
    · exact hp _ f20 (out_no h1.2.2))
 | exact hp _ Frd.rf (out_flt hO (by omega)))
      · refine x_aload_n dX5_readAsk_55 rfl ?_
        refine x_iconst dX5_readAsk_56 ?_
        refine x_callV1 (mc1 := 0) (ms1 := 0) dX5_readAsk_57 cv_RX5_122 (ci := 5) (k_ob_287 cs) rfl (Nat.le_of_ble_eq_true rfl) (n1 := n - 1) (by omega) (by omega) (by omega) ?_
        refine sp_X5_refuse (G := G) cs (by omega) (by omega) (out_imp o42 (fun cu1 c1 ok ln _ k1 _ _ g => ?_)) (fun J57 f57 o57 => ?_)
        · obtain ⟨cu, c, w, h0, h⟩ := g
          exact w.1 _ _ (ask_sx h0 h (by rw [← k1]; omega))
        exact x_return dX5_readAsk_60 rfl (by omega) (by omega) (by first
 | exact hp _ (Frd.tr (Frd.tr f20 f30) f36) o36
 | exact hp _ (Frd.tr f42 f57) o57
 | exact hp _ (Frd.tr (Frd.tr (Frd.tr f42 f62) f67) f73) o73
 | (rcases o20 with h1 | h1
    · exfalso; omega
    · exact hp _ f20 (out_no h1.2.2))
 | exact hp _ Frd.rf (out_flt hO (by omega)))
    · refine x_aload_n dX5_readAsk_18 rfl ?_
      refine x_iload_n dX5_readAsk_19 rfl ?_
      refine x_callV1 (mc1 := 0) (ms1 := 0) dX5_readAsk_20 cv_RX5_157 (ci := 5) (k_ob_287 cs) rfl (Nat.le_of_ble_eq_true rfl) (n1 := n - 1) (by omega) (by omega) (by omega) ?_
      refine sp_X5_opens (G := fun cu1 c1 => Wr (AskF t l sl (d + 1) cu1 c1) (AskG t l sl (d + 1) cu1 c1) F (RmE G (4 * 16384 + 0))) cs (by omega) hd (out_imp hO (fun cu c ok ln _ k1 _ _ g => ⟨fun h8 => g.1 _ _ (ask_deep (by omega) h8), fun h8 => ⟨fun f pl x => g.1 f pl (ask_nF (by omega) h8 x), fun cu1 c1 x => ?_⟩⟩)) (fun r20 J20 f20 o20 => ?_)
      · have hne : cu.2.2.1 ≠ 0 := by omega
        obtain ⟨e1, e2⟩ := rm_e ok l3 hne ln x.1.2.1
        exact ⟨e1, g.2 _ _ (ask_nG (by omega) h8 (Sl.prx ((cu_adv ok l3).2.1 hne) x.1.2.1) x)⟩
      refine x_if_eq 39 dX5_readAsk_23 (by decide) (by omega) (fun w23 => ?_) (fun w23 => ?_)
      · exact x_return dX5_readAsk_39 rfl (by omega) (by omega) (by first
 | exact hp _ (Frd.tr (Frd.tr f20 f30) f36) o36
 | exact hp _ (Frd.tr f42 f57) o57
 | exact hp _ (Frd.tr (Frd.tr (Frd.tr f42 f62) f67) f73) o73
 | (rcases o20 with h1 | h1
    · exfalso; omega
    · exact hp _ f20 (out_no h1.2.2))
 | exact hp _ Frd.rf (out_flt hO (by omega)))
      · refine x_aload_n dX5_readAsk_26 rfl ?_
        refine x_iload_n dX5_readAsk_27 rfl ?_
        refine x_iconst dX5_readAsk_28 ?_
        refine x_iadd dX5_readAsk_29 ?_
        refine x_callV1 (mc1 := 0) (ms1 := 0) dX5_readAsk_30 cv_RX5_172 (ci := 5) (k_ob_287 cs) rfl (Nat.le_of_ble_eq_true rfl) (n1 := n - 1) (by omega) (by omega) (by omega) ?_
        have o21 : OutC J20 t l sl F (fun cu1 c1 => Wr (AskF t l sl (d + 1) cu1 c1) (AskG t l sl (d + 1) cu1 c1) F (RmE G (4 * 16384 + 0))) := by
          rcases o20 with h1 | h1
          · exact h1.2.2
          · exfalso; omega
        refine hA (by omega) _ _ _ _ _ _ _ _ (by omega) o21 (fun J30 f30 o30 => ?_)
        refine x_aload_n dX5_readAsk_33 rfl ?_
        refine x_iconst dX5_readAsk_34 ?_
        refine x_iconst dX5_readAsk_35 ?_
        refine x_callV2 (mc1 := 0) (ms1 := 0) dX5_readAsk_36 cv_RX5_145 (ci := 5) (k_ob_287 cs) rfl (Nat.le_of_ble_eq_true rfl) (n1 := n - 1) (by omega) (by omega) (by omega) ?_
        refine sp_X5_emit (G := G) cs (by omega) (by omega) o30 (fun J36 f36 o36 => ?_)
        exact x_return dX5_readAsk_39 rfl (by omega) (by omega) (by first
 | exact hp _ (Frd.tr (Frd.tr f20 f30) f36) o36
 | exact hp _ (Frd.tr f42 f57) o57
 | exact hp _ (Frd.tr (Frd.tr (Frd.tr f42 f62) f67) f73) o73
 | (rcases o20 with h1 | h1
    · exfalso; omega
    · exact hp _ f20 (out_no h1.2.2))
 | exact hp _ Frd.rf (out_flt hO (by omega)))
  · exact x_return dX5_readAsk_7 rfl (by omega) (by omega) (by first
 | exact hp _ (Frd.tr (Frd.tr f20 f30) f36) o36
 | exact hp _ (Frd.tr f42 f57) o57
 | exact hp _ (Frd.tr (Frd.tr (Frd.tr f42 f62) f67) f73) o73
 | (rcases o20 with h1 | h1
    · exfalso; omega
    · exact hp _ f20 (out_no h1.2.2))
 | exact hp _ Frd.rf (out_flt hO (by omega)))
/-- all levels: so many frames, by how many may be opened yet -/
def LvK (S : Sh) (R : CR) (d f : Nat) : Prop := RdK S R mX5_readOne d (8 * f + 8) OneF OneG ∧ RdK S R mX5_readSum d (8 * f + 10) SumF SumG ∧ RdK S R mX5_readAsk d (8 * f + 11) AskF AskG
theorem RdK.up {M : Md} {XF : (Nat → Int) → Nat → Bool → Nat → Cu → List Int → Int → Nat → Prop} {XG : (Nat → Int) → Nat → Bool → Nat → Cu → List Int → Cu → List Int → Prop} {i : Nat} (h : RdK S R M d m XF XG) (hi : m ≤ i) : RdK S R M d i XF XG := fun n Post I t l sl F G hn => h n Post I t l sl F G (by omega)
theorem lv_of (cs : CS S R) {f d : Nat} (hd : d + f = 8) (h : d < 8 → LvK S R (d + 1) (f - 1)) : LvK S R d f := by
  have hP : d < 8 → OpnOK S R (d + 1) (8 * f + 7) := by
    intro h8
    obtain ⟨h1, h2, h3⟩ := h h8
    have hB := sp_X5_readBoth cs (d := d + 1) (by omega) (by omega) h3
    have hE := sp_X5_readEither cs (d := d + 1) (by omega) (by omega) hB
    have hC := sp_X5_readChoice cs (d := d + 1) (m := 8 * (f - 1) + 11 + 1 + 1) (by omega) (by omega) hE (h2.up (by omega))
    have hO := sp_X5_readOpenOne cs (d := d + 1) (m := 8 * (f - 1) + 11 + 1 + 1 + 1) (by omega) (by omega) (h1.up (by omega)) (h2.up (by omega)) hC
    intro n Post I t l sl F G x hx hn
    exact hO n Post I t l sl F G x hx (by omega)
  have h1 := sp_X5_readOne cs (d := d) (m := 8 * f + 7) (by omega) (by omega) hP
  have h2 := sp_X5_readProduct cs (d := d) (m := 8 * f + 8) (by omega) (by omega) h1
  have h3 := sp_X5_readSum cs (d := d) (m := 8 * f + 9) (by omega) (by omega) h2
  refine ⟨h1, h3, ?_⟩
  refine sp_X5_readAsk cs (d := d) (m := 8 * f + 10) (by omega) (by omega) h3 (fun h8 => ?_)
  exact (h h8).2.2.up (by omega)
theorem lv_all (cs : CS S R) : ∀ f d : Nat, d + f = 8 → LvK S R d f := by
  intro f
  induction f with
  | zero => intro d hd; exact lv_of cs hd (fun h8 => by omega)
  | succ f ih => intro d hd; exact lv_of cs hd (fun h8 => ih (d + 1) (by omega))
theorem sum_K (cs : CS S R) : RdK S R mX5_readSum 0 74 SumF SumG := (lv_all cs 8 0 rfl).2.1
end Rd3
