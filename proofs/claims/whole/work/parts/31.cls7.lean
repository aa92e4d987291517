section Cls7
variable {n : Nat} {Post : PT} {S : Sh} {I : CI} {R : CR} {A : Nat → Int} {tx : Nat → Nat → Int}
theorem rain_lo {i : Nat} (h : i ≠ 8 ∧ i ≠ 10) : rainD A i = A i := by unfold rainD; rw [upA_o h.2, upA_o h.1]
theorem warm_lo {q : Int} {i : Nat} (h : i < 14 ∨ 36 ≤ i) (hq : 0 ≤ q ∧ q < 8) : warmA A q i = A i := by unfold warmA; split <;> first | rw [upA_o (by omega)] | (split <;> first | rw [upA_o (by omega)] | rfl)
theorem heat_lo {i : Nat} (hb : BA A) (h : i ≠ 8 ∧ (i < 14 ∨ 36 ≤ i)) : heatD A i = A i := by
  unfold heatD
  split
  · rename_i h0
    have := Int.emod_nonneg (A 8) (show A 0 ≠ 0 by omega)
    have := Int.emod_lt_of_pos (A 8) h0
    have := hb.1.1
    rw [warm_lo h.2 (by omega), upA_o h.1]
  · rfl
theorem BA_rainD (hb : BA A) : BA (rainD A) := by unfold rainD; exact BA_rain (BA_x hb (anx_b _)) (by split <;> omega)
theorem BA_heatD (hb : BA A) : BA (heatD A) := by
  unfold heatD
  split
  · rename_i h0
    have := Int.emod_nonneg (A 8) (show A 0 ≠ 0 by omega)
    have := Int.emod_lt_of_pos (A 8) h0
    have := hb.1.1
    exact BA_warm (BA_x hb (anx_b _)) (by omega)
  · exact hb
theorem pass_lo (hb : BA A) {i : Nat} (h : i < 7) : (passA A tx).1 i = A i := by
  have h1 := BA_heatD (BA_rainD hb)
  have h2 := h1.1.1
  show upA _ 7 _ i = _
  rw [upA_o (by omega), (saleA_k h1 _ (by omega)).2.1 i (by omega), heat_lo (BA_rainD hb) (by omega), rain_lo (by omega)]
theorem pass_7 (hb : BA A) : (passA A tx).1 7 = A 7 + 1 := by
  have e : (passA A tx).1 7 = heatD (rainD A) 7 + 1 := by
    show upA (saleA (heatD (rainD A)) tx (heatD (rainD A) 0).toNat).1 7 (heatD (rainD A) 7 + 1) 7 = _
    exact upA_s _ _ _
  rw [e, heat_lo (BA_rainD hb) (by omega), rain_lo (by omega)]
def dstep (A : Nat → Int) (tx : Nat → Nat → Int) : (Nat → Int) × Int := passA (keepA A) tx
def dayL (A : Nat → Int) (tx : Nat → Nat → Int) : Nat → (Nat → Int) × Int
  | 0 => (A, 0)
  | k + 1 => ((dstep (dayL A tx k).1 tx).1, (dayL A tx k).2 + (dstep (dayL A tx k).1 tx).2)
def f_day (A : Nat → Int) (tx : Nat → Nat → Int) (m : Int) : Int × (Nat → Int) := if 1 ≤ m ∧ m ≤ 60 ∧ A 7 + m ≤ 9999 then ((dayL A tx m.toNat).2, (dayL A tx m.toNat).1) else (-1, A)
theorem dX0_dayByHand_0 : decode prog_2_method_5_code 0 = .ok (.aload_n 0, 1) := by decide +kernel
theorem dX0_dayByHand_1 : decode prog_2_method_5_code 1 = .ok (.getfield 18, 3) := by decide +kernel
theorem dX0_dayByHand_4 : decode prog_2_method_5_code 4 = .ok (.invokevirtual 35, 3) := by decide +kernel
theorem dX0_dayByHand_7 : decode prog_2_method_5_code 7 = .ok (.aload_n 0, 1) := by decide +kernel
theorem dX0_dayByHand_8 : decode prog_2_method_5_code 8 = .ok (.invokevirtual 58, 3) := by decide +kernel
theorem dX0_dayByHand_11 : decode prog_2_method_5_code 11 = .ok (.ireturn, 1) := by decide +kernel
theorem sp_X0_dayByHand  (cs : CS S R) (hv : CIv S R I A tx) (h7 : A 7 < 9999) (hn : 5 ≤ n) (hp : ∀ I', CIv S R I' (dstep A tx).1 tx → Fc I I' → Post (some (.int (iI (dstep A tx).2))) S I' R) : Call n 0 0 mX0_dayByHand [.ref (S.2.1 282)] S I R Post := by
  refine Call.of (by decide +kernel) (Nat.le_of_ble_eq_true rfl) ?_
  show WP _ _ _ _ _ 0 [(0, _)] [] 0 0 _ _ _
  refine x_aload_n dX0_dayByHand_0 rfl ?_
  refine x_getR (b := 1) dX0_dayByHand_1 gf_RX0_18 (k_ob_282 cs) (fun _ _ => rfl) (k_r_282_0 cs) ?_
  refine x_callV0 (mc1 := 0) (ms1 := 0) dX0_dayByHand_4 cv_RX0_35 (ci := 10) (k_ob_1 cs) rfl (Nat.le_of_ble_eq_true rfl) (n1 := n - 1) (by omega) (by omega) (by omega) ?_
  refine sp_X10_keepStep cs hv.1 hv.2.1 (by omega) (fun I4 hI4 hF4 => ?_)
  have hv4 := hv.w hF4 hI4 (BA_keep hv.2.1) (kp_lo (by decide) (by decide))
  refine x_aload_n dX0_dayByHand_7 rfl ?_
  refine x_callV0 (mc1 := 0) (ms1 := 0) dX0_dayByHand_8 cv_RX0_58 (ci := 0) (k_ob_282 cs) rfl (Nat.le_of_ble_eq_true rfl) (n1 := n - 1) (by omega) (by omega) (by omega) ?_
  refine sp_X0_passDay cs hv4 (by rw [kp_lo (by decide) (by decide)]; exact h7) (by omega) (fun I8 hI8 hF8 => ?_)
  exact x_ireturn dX0_dayByHand_11 rfl (by omega) (by omega) (hp _ hI8 (hF4.c.tr hF8))
theorem dX11_day_0 : decode prog_1_method_11_code 0 = .ok (.iload_n 1, 1) := by decide +kernel
theorem dX11_day_1 : decode prog_1_method_11_code 1 = .ok (.iconst 1, 1) := by decide +kernel
theorem dX11_day_2 : decode prog_1_method_11_code 2 = .ok (.if_icmp .lt 27, 3) := by decide +kernel
theorem dX11_day_5 : decode prog_1_method_11_code 5 = .ok (.iload_n 1, 1) := by decide +kernel
theorem dX11_day_6 : decode prog_1_method_11_code 6 = .ok (.bipush 60, 2) := by decide +kernel
theorem dX11_day_8 : decode prog_1_method_11_code 8 = .ok (.if_icmp .gt 21, 3) := by decide +kernel
theorem dX11_day_11 : decode prog_1_method_11_code 11 = .ok (.aload_n 0, 1) := by decide +kernel
theorem dX11_day_12 : decode prog_1_method_11_code 12 = .ok (.getfield 10, 3) := by decide +kernel
theorem dX11_day_15 : decode prog_1_method_11_code 15 = .ok (.getfield 127, 3) := by decide +kernel
theorem dX11_day_18 : decode prog_1_method_11_code 18 = .ok (.getfield 131, 3) := by decide +kernel
theorem dX11_day_21 : decode prog_1_method_11_code 21 = .ok (.iload_n 1, 1) := by decide +kernel
theorem dX11_day_22 : decode prog_1_method_11_code 22 = .ok (.iadd, 1) := by decide +kernel
theorem dX11_day_23 : decode prog_1_method_11_code 23 = .ok (.sipush 9999, 3) := by decide +kernel
theorem dX11_day_26 : decode prog_1_method_11_code 26 = .ok (.if_icmp .le 5, 3) := by decide +kernel
theorem dX11_day_29 : decode prog_1_method_11_code 29 = .ok (.iconst (-1), 1) := by decide +kernel
theorem dX11_day_30 : decode prog_1_method_11_code 30 = .ok (.ireturn, 1) := by decide +kernel
theorem dX11_day_31 : decode prog_1_method_11_code 31 = .ok (.iconst 0, 1) := by decide +kernel
theorem dX11_day_32 : decode prog_1_method_11_code 32 = .ok (.istore_n 2, 1) := by decide +kernel
theorem dX11_day_33 : decode prog_1_method_11_code 33 = .ok (.iconst 0, 1) := by decide +kernel
theorem dX11_day_34 : decode prog_1_method_11_code 34 = .ok (.istore_n 3, 1) := by decide +kernel
theorem dX11_day_35 : decode prog_1_method_11_code 35 = .ok (.iload_n 3, 1) := by decide +kernel
theorem dX11_day_36 : decode prog_1_method_11_code 36 = .ok (.iload_n 1, 1) := by decide +kernel
theorem dX11_day_37 : decode prog_1_method_11_code 37 = .ok (.if_icmp .ge 19, 3) := by decide +kernel
theorem dX11_day_40 : decode prog_1_method_11_code 40 = .ok (.iload_n 2, 1) := by decide +kernel
theorem dX11_day_41 : decode prog_1_method_11_code 41 = .ok (.aload_n 0, 1) := by decide +kernel
theorem dX11_day_42 : decode prog_1_method_11_code 42 = .ok (.getfield 33, 3) := by decide +kernel
theorem dX11_day_45 : decode prog_1_method_11_code 45 = .ok (.invokevirtual 136, 3) := by decide +kernel
theorem dX11_day_48 : decode prog_1_method_11_code 48 = .ok (.iadd, 1) := by decide +kernel
theorem dX11_day_49 : decode prog_1_method_11_code 49 = .ok (.istore_n 2, 1) := by decide +kernel
theorem dX11_day_50 : decode prog_1_method_11_code 50 = .ok (.iinc 3 1, 3) := by decide +kernel
theorem dX11_day_53 : decode prog_1_method_11_code 53 = .ok (.goto (-18), 3) := by decide +kernel
theorem dX11_day_56 : decode prog_1_method_11_code 56 = .ok (.iload_n 2, 1) := by decide +kernel
theorem dX11_day_57 : decode prog_1_method_11_code 57 = .ok (.ireturn, 1) := by decide +kernel
theorem lp_X11_day {m : Int} (cs : CS S R) (hm : 1 ≤ m ∧ m ≤ 60 ∧ A 7 + m ≤ 9999) (hn : 6 ≤ n) (hp : ∀ I', CIv S R I' (dayL A tx m.toNat).1 tx → Fc I I' → Post (some (.int (iI (dayL A tx m.toNat).2))) S I' R) : ∀ (d k : Nat) (J : CI), (k : Int) ≤ m → m.toNat - k = d → CIv S R J (dayL A tx k).1 tx → (dayL A tx k).1 7 = A 7 + k → Fc I J → WP n 0 0 mX11_day Post 35 [(0, .ref (S.2.1 0)), (1, .int (iI m)), (2, .int (iI (dayL A tx k).2)), (3, .int (iI (k : Int)))] [] 0 0 S J R := by
  intro d
  induction d using Nat.strongRecOn with
  | ind d ih =>
    intro k J k1 k2 hv e7 hF
    refine x_iload_n dX11_day_35 rfl ?_
    refine x_iload_n dX11_day_36 rfl ?_
    refine x_icmp_ge 56 dX11_day_37 (by decide) ⟨(by omega), (by omega)⟩ (fun w37 => ?_) (fun w37 => ?_)
    · refine x_iload_n dX11_day_56 rfl ?_
      exact x_ireturn dX11_day_57 rfl (by omega) (by omega) (by obtain rfl : k = m.toNat := (by omega); exact hp _ hv hF)
    · refine x_iload_n dX11_day_40 rfl ?_
      refine x_aload_n dX11_day_41 rfl ?_
      refine x_getR (b := 282) dX11_day_42 gf_RX11_33 (k_ob_0 cs) (fun _ _ => rfl) (k_r_0_3 cs) ?_
      refine x_callV0 (mc1 := 0) (ms1 := 0) dX11_day_45 cv_RX11_136 (ci := 0) (k_ob_282 cs) rfl (Nat.le_of_ble_eq_true rfl) (n1 := n - 1) (by omega) (by omega) (by omega) ?_
      refine sp_X0_dayByHand cs hv (by omega) (by omega) (fun I45 hI45 hF45 => ?_)
      refine x_iadd dX11_day_48 ?_
      refine x_istore_n (lv2 := [(2, _), (0, _), (1, _), (3, _)]) dX11_day_49 (by decide) rfl ?_
      refine x_iinc (lv2 := [(3, _), (2, _), (0, _), (1, _)]) dX11_day_50 rfl (by decide) rfl ?_
      refine x_goto 35 dX11_day_53 (by decide) ?_
      refine x_sub [2, 3, 1, 0] rfl ?_
      exact ih _ (by omega) (k + 1) I45 (by omega) rfl hI45 (by show (dstep (dayL A tx k).1 tx).1 7 = _; unfold dstep; rw [pass_7 (BA_keep hv.2.1), kp_lo (by decide) (by decide), e7]; omega) (hF.tr hF45)
theorem sp_X11_day {m : Int} (cs : CS S R) (hv : CIv S R I A tx) (hm : Rg m) (hn : 6 ≤ n) (hp : ∀ I', CIv S R I' (f_day A tx m).2 tx → Fc I I' → Post (some (.int (iI (f_day A tx m).1))) S I' R) : Call n 0 0 mX11_day [.ref (S.2.1 0), .int (iI m)] S I R Post := by
  obtain ⟨hc, hb, hw, hk⟩ := id hv
  obtain ⟨⟨⟨c0, c7, c8, c9, c10, c11⟩, cq⟩, ⟨⟨t1, t2, t3, t4, t5, t6, t7, t8, t9⟩, tq, th, tb, ts, td⟩, cb, cp⟩ := id hc
  dsimp only [Nat.reduceAdd] at c0 c7 c8 c9 c10 c11 cq t1 t2 t3 t4 t5 t6 t7 t8 t9 tq th tb ts td
  obtain ⟨⟨b0, b1, b2, b3, b4, bq, bl⟩, ⟨d1, d2, d3, d4, d5, d6, d7⟩, dq, dh, db, ds, dd, dp⟩ := id hb
  have b7 : 0 ≤ A 7 ∧ A 7 ≤ 9999 := b1
  have b8 : 0 ≤ A 8 ∧ A 8 ≤ 30870 := b2
  have b9 : 0 ≤ A 9 ∧ A 9 ≤ 9999 := b3
  have b10 : 0 ≤ A 10 ∧ A 10 ≤ 1 := b4
  have b11 : 0 ≤ A 11 ∧ A 11 ≤ 16 := by have h1 := lns_b (fun q => A (6 + 6 + 3 * q)) (A 0).toNat; have h2 : A 11 = _ := bl; omega
  refine Call.of (by decide +kernel) (Nat.le_of_ble_eq_true rfl) ?_
  show WP _ _ _ _ _ 0 [(0, _), (1, _)] [] 0 0 _ _ _
  refine x_iload_n dX11_day_0 rfl ?_
  refine x_iconst dX11_day_1 ?_
  refine x_icmp_lt 29 dX11_day_2 (by decide) ⟨(by omega), (by omega)⟩ (fun w2 => ?_) (fun w2 => ?_)
  · refine x_iconst dX11_day_29 ?_
    exact x_ireturn dX11_day_30 rfl (by omega) (by omega) (by rw [show f_day A tx m = (-1, A) from if_neg (by omega)] at hp; exact hp _ hv Fc.rf)
  · refine x_iload_n dX11_day_5 rfl ?_
    refine x_bipush dX11_day_6 (by decide) ?_
    refine x_icmp_gt 29 dX11_day_8 (by decide) ⟨(by omega), (by omega)⟩ (fun w8 => ?_) (fun w8 => ?_)
    · refine x_iconst dX11_day_29 ?_
      exact x_ireturn dX11_day_30 rfl (by omega) (by omega) (by rw [show f_day A tx m = (-1, A) from if_neg (by omega)] at hp; exact hp _ hv Fc.rf)
    · refine x_aload_n dX11_day_11 rfl ?_
      refine x_getR (b := 1) dX11_day_12 gf_RX11_10 (k_ob_0 cs) (fun _ _ => rfl) (k_r_0_0 cs) ?_
      refine x_getR (b := 6) dX11_day_15 gf_RX11_127 (k_ob_1 cs) (fun _ _ => rfl) (k_r_1_4 cs) ?_
      refine x_getI dX11_day_18 gf_RX11_131 (k_ob_6 cs) (fun _ _ => rfl) ?_
      refine x_iload_n dX11_day_21 rfl ?_
      refine x_iadd dX11_day_22 ?_
      refine x_sipush dX11_day_23 (by decide) ?_
      refine x_icmp_le 31 dX11_day_26 (by decide) ⟨(by omega), (by omega)⟩ (fun w26 => ?_) (fun w26 => ?_)
      · refine x_iconst dX11_day_31 ?_
        refine x_istore_n (lv2 := [(2, _), (0, _), (1, _)]) dX11_day_32 (by decide) rfl ?_
        refine x_iconst dX11_day_33 ?_
        refine x_istore_n (lv2 := [(3, _), (2, _), (0, _), (1, _)]) dX11_day_34 (by decide) rfl ?_
        refine x_sub [2, 3, 1, 0] rfl ?_
        rw [show f_day A tx m = ((dayL A tx m.toNat).2, (dayL A tx m.toNat).1) from if_pos (by omega)] at hp
        exact lp_X11_day cs (by omega) hn hp _ 0 I (by omega) rfl hv (by show A 7 = _; omega) Fc.rf
      · refine x_iconst dX11_day_29 ?_
        exact x_ireturn dX11_day_30 rfl (by omega) (by omega) (by rw [show f_day A tx m = (-1, A) from if_neg (by omega)] at hp; exact hp _ hv Fc.rf)
def pdA (A : Nat → Int) (tx : Nat → Nat → Int) : Nat → (Nat → Int) × Int
  | 0 => (A, 1)
  | k + 1 => if (pdA A tx k).2 = 1 ∧ (pdA A tx k).1 7 < 9999 then ((dstep (pdA A tx k).1 tx).1, 1) else ((pdA A tx k).1, 0)
theorem pdA_stop {i : Nat} (h : ¬ ((pdA A tx i).2 = 1 ∧ (pdA A tx i).1 7 < 9999)) : ∀ j, pdA A tx (i + 1 + j) = ((pdA A tx i).1, 0) := by
  intro j
  induction j with
  | zero => show (if _ then _ else _) = _; rw [if_neg h]
  | succ j ih =>
    have e : pdA A tx (i + 1 + (j + 1)) = if (pdA A tx (i + 1 + j)).2 = 1 ∧ (pdA A tx (i + 1 + j)).1 7 < 9999 then ((dstep (pdA A tx (i + 1 + j)).1 tx).1, 1) else ((pdA A tx (i + 1 + j)).1, 0) := rfl
    rw [e, ih, if_neg (fun z => by have : (0 : Int) = 1 := z.1; omega)]
theorem dX0_playDays_0 : decode prog_2_method_7_code 0 = .ok (.iconst 0, 1) := by decide +kernel
theorem dX0_playDays_1 : decode prog_2_method_7_code 1 = .ok (.istore_n 2, 1) := by decide +kernel
theorem dX0_playDays_2 : decode prog_2_method_7_code 2 = .ok (.iload_n 2, 1) := by decide +kernel
theorem dX0_playDays_3 : decode prog_2_method_7_code 3 = .ok (.iload_n 1, 1) := by decide +kernel
theorem dX0_playDays_4 : decode prog_2_method_7_code 4 = .ok (.if_icmp .ge 39, 3) := by decide +kernel
theorem dX0_playDays_7 : decode prog_2_method_7_code 7 = .ok (.aload_n 0, 1) := by decide +kernel
theorem dX0_playDays_8 : decode prog_2_method_7_code 8 = .ok (.getfield 18, 3) := by decide +kernel
theorem dX0_playDays_11 : decode prog_2_method_7_code 11 = .ok (.getfield 26, 3) := by decide +kernel
theorem dX0_playDays_14 : decode prog_2_method_7_code 14 = .ok (.getfield 84, 3) := by decide +kernel
theorem dX0_playDays_17 : decode prog_2_method_7_code 17 = .ok (.sipush 9999, 3) := by decide +kernel
theorem dX0_playDays_20 : decode prog_2_method_7_code 20 = .ok (.if_icmp .lt 5, 3) := by decide +kernel
theorem dX0_playDays_23 : decode prog_2_method_7_code 23 = .ok (.iconst 0, 1) := by decide +kernel
theorem dX0_playDays_24 : decode prog_2_method_7_code 24 = .ok (.ireturn, 1) := by decide +kernel
theorem dX0_playDays_25 : decode prog_2_method_7_code 25 = .ok (.aload_n 0, 1) := by decide +kernel
theorem dX0_playDays_26 : decode prog_2_method_7_code 26 = .ok (.getfield 18, 3) := by decide +kernel
theorem dX0_playDays_29 : decode prog_2_method_7_code 29 = .ok (.invokevirtual 35, 3) := by decide +kernel
theorem dX0_playDays_32 : decode prog_2_method_7_code 32 = .ok (.aload_n 0, 1) := by decide +kernel
theorem dX0_playDays_33 : decode prog_2_method_7_code 33 = .ok (.invokevirtual 58, 3) := by decide +kernel
theorem dX0_playDays_36 : decode prog_2_method_7_code 36 = .ok (.pop, 1) := by decide +kernel
theorem dX0_playDays_37 : decode prog_2_method_7_code 37 = .ok (.iinc 2 1, 3) := by decide +kernel
theorem dX0_playDays_40 : decode prog_2_method_7_code 40 = .ok (.goto (-38), 3) := by decide +kernel
theorem dX0_playDays_43 : decode prog_2_method_7_code 43 = .ok (.iconst 1, 1) := by decide +kernel
theorem dX0_playDays_44 : decode prog_2_method_7_code 44 = .ok (.ireturn, 1) := by decide +kernel
theorem lp_X0_playDays {m : Int} (cs : CS S R) (hm : Rg m) (hn : 5 ≤ n) (hp : ∀ I', CIv S R I' (pdA A tx m.toNat).1 tx → Fc I I' → Post (some (.int (iI (pdA A tx m.toNat).2))) S I' R) : ∀ (d k : Nat) (J : CI), k ≤ m.toNat → m.toNat - k = d → CIv S R J (pdA A tx k).1 tx → (pdA A tx k).2 = 1 → Fc I J → WP n 0 0 mX0_playDays Post 2 [(0, .ref (S.2.1 282)), (1, .int (iI m)), (2, .int (iI (k : Int)))] [] 0 0 S J R := by
  intro d
  induction d using Nat.strongRecOn with
  | ind d ih =>
    intro k J k1 k2 hv e1 hF
    have e7 : (pdA A tx k).1 7 = J 6 6 := hv.1.1.1.2.1
    have b7 : 0 ≤ (pdA A tx k).1 7 ∧ (pdA A tx k).1 7 ≤ 9999 := hv.2.1.1.2.1
    refine x_iload_n dX0_playDays_2 rfl ?_
    refine x_iload_n dX0_playDays_3 rfl ?_
    refine x_icmp_ge 43 dX0_playDays_4 (by decide) ⟨(by omega), (by omega)⟩ (fun w4 => ?_) (fun w4 => ?_)
    · refine x_iconst dX0_playDays_43 ?_
      exact x_zreturn (by omega) dX0_playDays_44 rfl (by omega) (by omega) (by first | (obtain rfl : k = m.toNat := (by omega); rw [e1] at hp; exact hp _ hv hF) | (have es := pdA_stop (A := A) (tx := tx) (i := k) (fun z => by omega) (m.toNat - k - 1); rw [show k + 1 + (m.toNat - k - 1) = m.toNat by omega] at es; rw [es] at hp; exact hp _ hv hF))
    · refine x_aload_n dX0_playDays_7 rfl ?_
      refine x_getR (b := 1) dX0_playDays_8 gf_RX0_18 (k_ob_282 cs) (fun _ _ => rfl) (k_r_282_0 cs) ?_
      refine x_getR (b := 6) dX0_playDays_11 gf_RX0_26 (k_ob_1 cs) (fun _ _ => rfl) (k_r_1_4 cs) ?_
      refine x_getI dX0_playDays_14 gf_RX0_84 (k_ob_6 cs) (fun _ _ => rfl) ?_
      refine x_sipush dX0_playDays_17 (by decide) ?_
      refine x_icmp_lt 25 dX0_playDays_20 (by decide) ⟨(by omega), (by omega)⟩ (fun w20 => ?_) (fun w20 => ?_)
      · refine x_aload_n dX0_playDays_25 rfl ?_
        refine x_getR (b := 1) dX0_playDays_26 gf_RX0_18 (k_ob_282 cs) (fun _ _ => rfl) (k_r_282_0 cs) ?_
        refine x_callV0 (mc1 := 0) (ms1 := 0) dX0_playDays_29 cv_RX0_35 (ci := 10) (k_ob_1 cs) rfl (Nat.le_of_ble_eq_true rfl) (n1 := n - 1) (by omega) (by omega) (by omega) ?_
        refine sp_X10_keepStep cs hv.1 hv.2.1 (by omega) (fun I29 hI29 hF29 => ?_)
        have hv29 := hv.w hF29 hI29 (BA_keep hv.2.1) (kp_lo (by decide) (by decide))
        refine x_aload_n dX0_playDays_32 rfl ?_
        refine x_callV0 (mc1 := 0) (ms1 := 0) dX0_playDays_33 cv_RX0_58 (ci := 0) (k_ob_282 cs) rfl (Nat.le_of_ble_eq_true rfl) (n1 := n - 1) (by omega) (by omega) (by omega) ?_
        refine sp_X0_passDay cs hv29 (by rw [kp_lo (by decide) (by decide)]; omega) (by omega) (fun I33 hI33 hF33 => ?_)
        refine x_pop dX0_playDays_36 rfl ?_
        refine x_iinc (lv2 := [(2, _), (0, _), (1, _)]) dX0_playDays_37 rfl (by decide) rfl ?_
        refine x_goto 2 dX0_playDays_40 (by decide) ?_
        refine x_sub [1, 2, 0] rfl ?_
        have es : pdA A tx (k + 1) = ((dstep (pdA A tx k).1 tx).1, 1) := if_pos ⟨e1, by omega⟩
        exact ih _ (by omega) (k + 1) I33 (by omega) rfl (by rw [es]; exact hI33) (by rw [es]) (hF.tr (hF29.c.tr hF33))
      · refine x_iconst dX0_playDays_23 ?_
        exact x_zreturn (by omega) dX0_playDays_24 rfl (by omega) (by omega) (by first | (obtain rfl : k = m.toNat := (by omega); rw [e1] at hp; exact hp _ hv hF) | (have es := pdA_stop (A := A) (tx := tx) (i := k) (fun z => by omega) (m.toNat - k - 1); rw [show k + 1 + (m.toNat - k - 1) = m.toNat by omega] at es; rw [es] at hp; exact hp _ hv hF))
theorem sp_X0_playDays {m : Int} (cs : CS S R) (hv : CIv S R I A tx) (hm : Rg m) (hn : 5 ≤ n) (hp : ∀ I', CIv S R I' (pdA A tx m.toNat).1 tx → Fc I I' → Post (some (.int (iI (pdA A tx m.toNat).2))) S I' R) : Call n 0 0 mX0_playDays [.ref (S.2.1 282), .int (iI m)] S I R Post := by
  refine Call.of (by decide +kernel) (Nat.le_of_ble_eq_true rfl) ?_
  show WP _ _ _ _ _ 0 [(0, _), (1, _)] [] 0 0 _ _ _
  refine x_iconst dX0_playDays_0 ?_
  refine x_istore_n (lv2 := [(2, _), (0, _), (1, _)]) dX0_playDays_1 (by decide) rfl ?_
  refine x_sub [1, 2, 0] rfl ?_
  exact lp_X0_playDays cs hm hn hp _ 0 I (by omega) rfl hv rfl Fc.rf
def liveA (A : Nat → Int) (tx : Nat → Nat → Int) : Nat → Int :=
  let B := upA A 8 (anx (A 8))
  if 4 ≤ A 8 % 6 then (if A 7 < 9999 then (passA B tx).1 else B)
  else if A 8 % 6 = 3 then (if A 9 + (1 + A 8 / 6 % 9) ≤ 9999 then upA B 9 (A 9 + (1 + A 8 / 6 % 9)) else B)
  else if 0 < A 0 then
    (if A 8 % 6 = 0 then (if A (12 + 3 * (A 8 / 6 % A 0).toNat) = 0 then pawnA B (A 8 / 6 % A 0) else B)
     else if priceP B tx (A 8 / 6 % A 0) = -1 then B else redeemA B (A 8 / 6 % A 0) (priceP B tx (A 8 / 6 % A 0)))
  else B
theorem dX0_liveByDraw_0 : decode prog_2_method_8_code 0 = .ok (.aload_n 0, 1) := by decide +kernel
theorem dX0_liveByDraw_1 : decode prog_2_method_8_code 1 = .ok (.getfield 18, 3) := by decide +kernel
theorem dX0_liveByDraw_4 : decode prog_2_method_8_code 4 = .ok (.getfield 26, 3) := by decide +kernel
theorem dX0_liveByDraw_7 : decode prog_2_method_8_code 7 = .ok (.astore_n 1, 1) := by decide +kernel
theorem dX0_liveByDraw_8 : decode prog_2_method_8_code 8 = .ok (.aload_n 1, 1) := by decide +kernel
theorem dX0_liveByDraw_9 : decode prog_2_method_8_code 9 = .ok (.getfield 87, 3) := by decide +kernel
theorem dX0_liveByDraw_12 : decode prog_2_method_8_code 12 = .ok (.bipush 6, 2) := by decide +kernel
theorem dX0_liveByDraw_14 : decode prog_2_method_8_code 14 = .ok (.irem, 1) := by decide +kernel
theorem dX0_liveByDraw_15 : decode prog_2_method_8_code 15 = .ok (.istore_n 2, 1) := by decide +kernel
theorem dX0_liveByDraw_16 : decode prog_2_method_8_code 16 = .ok (.aload_n 1, 1) := by decide +kernel
theorem dX0_liveByDraw_17 : decode prog_2_method_8_code 17 = .ok (.getfield 87, 3) := by decide +kernel
theorem dX0_liveByDraw_20 : decode prog_2_method_8_code 20 = .ok (.bipush 6, 2) := by decide +kernel
theorem dX0_liveByDraw_22 : decode prog_2_method_8_code 22 = .ok (.idiv, 1) := by decide +kernel
theorem dX0_liveByDraw_23 : decode prog_2_method_8_code 23 = .ok (.istore_n 3, 1) := by decide +kernel
theorem dX0_liveByDraw_24 : decode prog_2_method_8_code 24 = .ok (.aload_n 1, 1) := by decide +kernel
theorem dX0_liveByDraw_25 : decode prog_2_method_8_code 25 = .ok (.iconst 2, 1) := by decide +kernel
theorem dX0_liveByDraw_26 : decode prog_2_method_8_code 26 = .ok (.invokevirtual 90, 3) := by decide +kernel
theorem dX0_liveByDraw_29 : decode prog_2_method_8_code 29 = .ok (.pop, 1) := by decide +kernel
theorem dX0_liveByDraw_30 : decode prog_2_method_8_code 30 = .ok (.iload_n 2, 1) := by decide +kernel
theorem dX0_liveByDraw_31 : decode prog_2_method_8_code 31 = .ok (.iconst 4, 1) := by decide +kernel
theorem dX0_liveByDraw_32 : decode prog_2_method_8_code 32 = .ok (.if_icmp .lt 21, 3) := by decide +kernel
theorem dX0_liveByDraw_35 : decode prog_2_method_8_code 35 = .ok (.aload_n 1, 1) := by decide +kernel
theorem dX0_liveByDraw_36 : decode prog_2_method_8_code 36 = .ok (.getfield 84, 3) := by decide +kernel
theorem dX0_liveByDraw_39 : decode prog_2_method_8_code 39 = .ok (.sipush 9999, 3) := by decide +kernel
theorem dX0_liveByDraw_42 : decode prog_2_method_8_code 42 = .ok (.if_icmp .ge 115, 3) := by decide +kernel
theorem dX0_liveByDraw_45 : decode prog_2_method_8_code 45 = .ok (.aload_n 0, 1) := by decide +kernel
theorem dX0_liveByDraw_46 : decode prog_2_method_8_code 46 = .ok (.invokevirtual 58, 3) := by decide +kernel
theorem dX0_liveByDraw_49 : decode prog_2_method_8_code 49 = .ok (.pop, 1) := by decide +kernel
theorem dX0_liveByDraw_50 : decode prog_2_method_8_code 50 = .ok (.goto 107, 3) := by decide +kernel
theorem dX0_liveByDraw_53 : decode prog_2_method_8_code 53 = .ok (.iload_n 2, 1) := by decide +kernel
theorem dX0_liveByDraw_54 : decode prog_2_method_8_code 54 = .ok (.iconst 3, 1) := by decide +kernel
theorem dX0_liveByDraw_55 : decode prog_2_method_8_code 55 = .ok (.if_icmp .ne 34, 3) := by decide +kernel
theorem dX0_liveByDraw_58 : decode prog_2_method_8_code 58 = .ok (.iconst 1, 1) := by decide +kernel
theorem dX0_liveByDraw_59 : decode prog_2_method_8_code 59 = .ok (.iload_n 3, 1) := by decide +kernel
theorem dX0_liveByDraw_60 : decode prog_2_method_8_code 60 = .ok (.bipush 9, 2) := by decide +kernel
theorem dX0_liveByDraw_62 : decode prog_2_method_8_code 62 = .ok (.irem, 1) := by decide +kernel
theorem dX0_liveByDraw_63 : decode prog_2_method_8_code 63 = .ok (.iadd, 1) := by decide +kernel
theorem dX0_liveByDraw_64 : decode prog_2_method_8_code 64 = .ok (.istore 4, 2) := by decide +kernel
theorem dX0_liveByDraw_66 : decode prog_2_method_8_code 66 = .ok (.aload_n 0, 1) := by decide +kernel
theorem dX0_liveByDraw_67 : decode prog_2_method_8_code 67 = .ok (.iload 4, 2) := by decide +kernel
theorem dX0_liveByDraw_69 : decode prog_2_method_8_code 69 = .ok (.invokevirtual 50, 3) := by decide +kernel
theorem dX0_liveByDraw_72 : decode prog_2_method_8_code 72 = .ok (.ifCond .eq 14, 3) := by decide +kernel
theorem dX0_liveByDraw_75 : decode prog_2_method_8_code 75 = .ok (.aload_n 1, 1) := by decide +kernel
theorem dX0_liveByDraw_76 : decode prog_2_method_8_code 76 = .ok (.dup, 1) := by decide +kernel
theorem dX0_liveByDraw_77 : decode prog_2_method_8_code 77 = .ok (.getfield 54, 3) := by decide +kernel
theorem dX0_liveByDraw_80 : decode prog_2_method_8_code 80 = .ok (.iload 4, 2) := by decide +kernel
theorem dX0_liveByDraw_82 : decode prog_2_method_8_code 82 = .ok (.iadd, 1) := by decide +kernel
theorem dX0_liveByDraw_83 : decode prog_2_method_8_code 83 = .ok (.putfield 54, 3) := by decide +kernel
theorem dX0_liveByDraw_86 : decode prog_2_method_8_code 86 = .ok (.goto 71, 3) := by decide +kernel
theorem dX0_liveByDraw_89 : decode prog_2_method_8_code 89 = .ok (.aload_n 1, 1) := by decide +kernel
theorem dX0_liveByDraw_90 : decode prog_2_method_8_code 90 = .ok (.getfield 93, 3) := by decide +kernel
theorem dX0_liveByDraw_93 : decode prog_2_method_8_code 93 = .ok (.ifCond .le 64, 3) := by decide +kernel
theorem dX0_liveByDraw_96 : decode prog_2_method_8_code 96 = .ok (.iload_n 3, 1) := by decide +kernel
theorem dX0_liveByDraw_97 : decode prog_2_method_8_code 97 = .ok (.aload_n 1, 1) := by decide +kernel
theorem dX0_liveByDraw_98 : decode prog_2_method_8_code 98 = .ok (.getfield 93, 3) := by decide +kernel
theorem dX0_liveByDraw_101 : decode prog_2_method_8_code 101 = .ok (.irem, 1) := by decide +kernel
theorem dX0_liveByDraw_102 : decode prog_2_method_8_code 102 = .ok (.istore 4, 2) := by decide +kernel
theorem dX0_liveByDraw_104 : decode prog_2_method_8_code 104 = .ok (.iload_n 2, 1) := by decide +kernel
theorem dX0_liveByDraw_105 : decode prog_2_method_8_code 105 = .ok (.ifCond .ne 7, 3) := by decide +kernel
theorem dX0_liveByDraw_108 : decode prog_2_method_8_code 108 = .ok (.iconst (-1), 1) := by decide +kernel
theorem dX0_liveByDraw_109 : decode prog_2_method_8_code 109 = .ok (.goto 9, 3) := by decide +kernel
theorem dX0_liveByDraw_112 : decode prog_2_method_8_code 112 = .ok (.aload_n 0, 1) := by decide +kernel
theorem dX0_liveByDraw_113 : decode prog_2_method_8_code 113 = .ok (.iload 4, 2) := by decide +kernel
theorem dX0_liveByDraw_115 : decode prog_2_method_8_code 115 = .ok (.invokevirtual 42, 3) := by decide +kernel
theorem dX0_liveByDraw_118 : decode prog_2_method_8_code 118 = .ok (.istore 5, 2) := by decide +kernel
theorem dX0_liveByDraw_120 : decode prog_2_method_8_code 120 = .ok (.iload_n 2, 1) := by decide +kernel
theorem dX0_liveByDraw_121 : decode prog_2_method_8_code 121 = .ok (.ifCond .ne 22, 3) := by decide +kernel
theorem dX0_liveByDraw_124 : decode prog_2_method_8_code 124 = .ok (.aload_n 1, 1) := by decide +kernel
theorem dX0_liveByDraw_125 : decode prog_2_method_8_code 125 = .ok (.getfield 96, 3) := by decide +kernel
theorem dX0_liveByDraw_128 : decode prog_2_method_8_code 128 = .ok (.iload 4, 2) := by decide +kernel
theorem dX0_liveByDraw_130 : decode prog_2_method_8_code 130 = .ok (.iaload, 1) := by decide +kernel
theorem dX0_liveByDraw_131 : decode prog_2_method_8_code 131 = .ok (.ifCond .ne 12, 3) := by decide +kernel
theorem dX0_liveByDraw_134 : decode prog_2_method_8_code 134 = .ok (.aload_n 0, 1) := by decide +kernel
theorem dX0_liveByDraw_135 : decode prog_2_method_8_code 135 = .ok (.iload 4, 2) := by decide +kernel
theorem dX0_liveByDraw_137 : decode prog_2_method_8_code 137 = .ok (.invokevirtual 38, 3) := by decide +kernel
theorem dX0_liveByDraw_140 : decode prog_2_method_8_code 140 = .ok (.goto 17, 3) := by decide +kernel
theorem dX0_liveByDraw_143 : decode prog_2_method_8_code 143 = .ok (.iload 5, 2) := by decide +kernel
theorem dX0_liveByDraw_145 : decode prog_2_method_8_code 145 = .ok (.iconst (-1), 1) := by decide +kernel
theorem dX0_liveByDraw_146 : decode prog_2_method_8_code 146 = .ok (.if_icmp .eq 11, 3) := by decide +kernel
theorem dX0_liveByDraw_149 : decode prog_2_method_8_code 149 = .ok (.aload_n 0, 1) := by decide +kernel
theorem dX0_liveByDraw_150 : decode prog_2_method_8_code 150 = .ok (.iload 4, 2) := by decide +kernel
theorem dX0_liveByDraw_152 : decode prog_2_method_8_code 152 = .ok (.iload 5, 2) := by decide +kernel
theorem dX0_liveByDraw_154 : decode prog_2_method_8_code 154 = .ok (.invokevirtual 46, 3) := by decide +kernel
theorem dX0_liveByDraw_157 : decode prog_2_method_8_code 157 = .ok (.return_, 1) := by decide +kernel
theorem sp_X0_liveByDraw (cs : CS S R) (hv : CIv S R I A tx) (hn : 5 ≤ n) (hp : ∀ I', CIv S R I' (liveA A tx) tx → Fc I I' → Post none S I' R) : Call n 0 0 mX0_liveByDraw [.ref (S.2.1 282)] S I R Post := by
  obtain ⟨hc, hb, hw, hk⟩ := id hv
  obtain ⟨⟨⟨c0, c7, c8, c9, c10, c11⟩, cq⟩, ⟨⟨t1, t2, t3, t4, t5, t6, t7, t8, t9⟩, tq, th, tb, ts, td⟩, cb, cp⟩ := id hc
  dsimp only [Nat.reduceAdd] at c0 c7 c8 c9 c10 c11 cq t1 t2 t3 t4 t5 t6 t7 t8 t9 tq th tb ts td
  obtain ⟨⟨b0, b1, b2, b3, b4, bq, bl⟩, ⟨d1, d2, d3, d4, d5, d6, d7⟩, dq, dh, db, ds, dd, dp⟩ := id hb
  have b7 : 0 ≤ A 7 ∧ A 7 ≤ 9999 := b1
  have b8 : 0 ≤ A 8 ∧ A 8 ≤ 30870 := b2
  have b9 : 0 ≤ A 9 ∧ A 9 ≤ 9999 := b3
  have b10 : 0 ≤ A 10 ∧ A 10 ≤ 1 := b4
  have b11 : 0 ≤ A 11 ∧ A 11 ≤ 16 := by have h1 := lns_b (fun q => A (6 + 6 + 3 * q)) (A 0).toNat; have h2 : A 11 = _ := bl; omega
  have hsb := SB_now hc hb
  have ax := anx_b (A 8)
  have hvB : CIv S R (uI I 6 7 (anx (A 8))) (upA A 8 (anx (A 8))) tx := hv.w (Fw.rf.u (by omega)) (cu_x _ hc) (BA_x hb ax) (upA_o (by omega))
  have uB : ∀ i : Nat, i ≠ 8 → upA A 8 (anx (A 8)) i = A i := fun i h => upA_o h
  have hFB : Fc I (uI I 6 7 (anx (A 8))) := (Fw.rf.u (by omega)).c
  unfold liveA at hp
  dsimp only at hp
  refine Call.of (by decide +kernel) (Nat.le_of_ble_eq_true rfl) ?_
  show WP _ _ _ _ _ 0 [(0, _)] [] 0 0 _ _ _
  refine x_aload_n dX0_liveByDraw_0 rfl ?_
  refine x_getR (b := 1) dX0_liveByDraw_1 gf_RX0_18 (k_ob_282 cs) (fun _ _ => rfl) (k_r_282_0 cs) ?_
  refine x_getR (b := 6) dX0_liveByDraw_4 gf_RX0_26 (k_ob_1 cs) (fun _ _ => rfl) (k_r_1_4 cs) ?_
  refine x_astore_n (lv2 := [(1, _), (0, _)]) dX0_liveByDraw_7 (by decide) rfl ?_
  refine x_aload_n dX0_liveByDraw_8 rfl ?_
  refine x_getIv (z := A 8) dX0_liveByDraw_9 gf_RX0_87 (k_ob_6 cs) (fun _ _ => rfl) (by first | exact c8.symm | (rw [uI_o (by omega)]; first | exact c7.symm | exact c9.symm | exact c0.symm)) ?_
  refine x_bipush dX0_liveByDraw_12 (by decide) ?_
  refine x_irem dX0_liveByDraw_14 (by omega) ?_
  refine x_istore_n (lv2 := [(2, _), (1, _), (0, _)]) dX0_liveByDraw_15 (by decide) rfl ?_
  refine x_aload_n dX0_liveByDraw_16 rfl ?_
  refine x_getIv (z := A 8) dX0_liveByDraw_17 gf_RX0_87 (k_ob_6 cs) (fun _ _ => rfl) (by first | exact c8.symm | (rw [uI_o (by omega)]; first | exact c7.symm | exact c9.symm | exact c0.symm)) ?_
  refine x_bipush dX0_liveByDraw_20 (by decide) ?_
  refine x_idiv dX0_liveByDraw_22 (by omega) ?_
  refine x_istore_n (lv2 := [(3, _), (2, _), (1, _), (0, _)]) dX0_liveByDraw_23 (by decide) rfl ?_
  refine x_aload_n dX0_liveByDraw_24 rfl ?_
  refine x_iconst dX0_liveByDraw_25 ?_
  refine x_callV1 (mc1 := 0) (ms1 := 0) dX0_liveByDraw_26 cv_RX0_90 (ci := 6) (k_ob_6 cs) rfl (Nat.le_of_ble_eq_true rfl) (n1 := n - 1) (by omega) (by omega) (by omega) ?_
  refine sp_X6_draw (k_st_6 cs) hsb (by omega) (fun r26 x26 hx26 hr26 => ?_)
  obtain rfl : x26 = anx (A 8) := by rw [c8]; exact hx26
  refine x_pop dX0_liveByDraw_29 rfl ?_
  refine x_iload_n dX0_liveByDraw_30 rfl ?_
  refine x_iconst dX0_liveByDraw_31 ?_
  refine x_icmp_lt 53 dX0_liveByDraw_32 (by decide) ⟨(by omega), (by omega)⟩ (fun w32 => ?_) (fun w32 => ?_)
  · refine x_iload_n dX0_liveByDraw_53 rfl ?_
    refine x_iconst dX0_liveByDraw_54 ?_
    refine x_icmp_ne 89 dX0_liveByDraw_55 (by decide) ⟨(by omega), (by omega)⟩ (fun w55 => ?_) (fun w55 => ?_)
    · refine x_aload_n dX0_liveByDraw_89 rfl ?_
      refine x_getIv (z := A 0) dX0_liveByDraw_90 gf_RX0_93 (k_ob_6 cs) (fun _ _ => rfl) (by first | exact c8.symm | (rw [uI_o (by omega)]; first | exact c7.symm | exact c9.symm | exact c0.symm)) ?_
      refine x_if_le 157 dX0_liveByDraw_93 (by decide) (by omega) (fun w93 => ?_) (fun w93 => ?_)
      · exact x_return dX0_liveByDraw_157 rfl (by omega) (by omega) (by
        first
          | (rw [if_pos (by omega), if_pos (by omega)] at hp; exact hp _ hI46 (hFB.tr hF46))
          | (rw [if_pos (by omega), if_neg (by omega)] at hp; exact hp _ hvB hFB)
          | (rw [if_neg (by omega), if_pos (by omega), if_pos (by omega)] at hp; exact hp _ (hvB.w (Fw.rf.u (by omega)) (cu_purse _ hvB.1) (BA_purse hvB.2.1 (by omega)) (by rw [upA_o (by omega)])) (hFB.tr (Fw.rf.u (by omega)).c))
          | (rw [if_neg (by omega), if_pos (by omega), if_neg (by omega)] at hp; exact hp _ hvB hFB)
          | (rw [if_neg (by omega), if_neg (by omega), if_pos (by omega), if_pos (by omega), if_pos (by omega)] at hp; exact hp _ (hvB.w hF137 hI137 (BA_pawn hvB.2.1 (by rw [uB 0 (by omega)]; omega) (by rw [uB _ (by omega)]; omega)) (by unfold pawnA wrA; rw [upA_o (by omega), upA_o (by omega), upA_o (by omega), upA_o (by omega), upA_o (by omega), upA_o (by omega)])) (hFB.tr hF137.c))
          | (rw [if_neg (by omega), if_neg (by omega), if_pos (by omega), if_pos (by omega), if_neg (by omega)] at hp; exact hp _ hvB hFB)
          | (rw [if_neg (by omega), if_neg (by omega), if_pos (by omega), if_neg (by omega), if_pos (by omega)] at hp; exact hp _ (hvB.l hF115 hS115) (hFB.tr hF115.c))
          | (rw [if_neg (by omega), if_neg (by omega), if_pos (by omega), if_neg (by omega), if_neg (by omega)] at hp; exact hp _ ((hvB.l hF115 hS115).w hF154 hI154 (BA_redeem hvB.2.1 pb.1 pb.2.1 pb.2.2) (by unfold redeemA wrA; rw [upA_o (by omega), upA_o (by omega), upA_o (by omega), upA_o (by omega), upA_o (by omega)])) ((hFB.tr hF115.c).tr hF154.c))
          | (rw [if_neg (by omega), if_neg (by omega), if_neg (by omega)] at hp; exact hp _ hvB hFB))
      · refine x_iload_n dX0_liveByDraw_96 rfl ?_
        refine x_aload_n dX0_liveByDraw_97 rfl ?_
        refine x_getIv (z := A 0) dX0_liveByDraw_98 gf_RX0_93 (k_ob_6 cs) (fun _ _ => rfl) (by first | exact c8.symm | (rw [uI_o (by omega)]; first | exact c7.symm | exact c9.symm | exact c0.symm)) ?_
        refine x_irem dX0_liveByDraw_101 (by omega) ?_
        refine x_istore (lv2 := [(4, _), (3, _), (2, _), (1, _), (0, _)]) dX0_liveByDraw_102 (by decide) rfl ?_
        have m0 := Int.emod_nonneg (A 8 / 6) (show A 0 ≠ 0 by omega)
        have m1 := Int.emod_lt_of_pos (A 8 / 6) (show 0 < A 0 by omega)
        have m2 := cq (A 8 / 6 % A 0).toNat (by omega)
        have m3 := bq (A 8 / 6 % A 0).toNat (by omega)
        rw [show 6 + 6 + 3 * (A 8 / 6 % A 0).toNat = 12 + 3 * (A 8 / 6 % A 0).toNat by omega] at m3
        have pr := priceP_r (A := upA A 8 (anx (A 8))) (tx := tx) (A 8 / 6 % A 0)
        refine x_iload_n dX0_liveByDraw_104 rfl ?_
        refine x_if_ne 112 dX0_liveByDraw_105 (by decide) (by omega) (fun w105 => ?_) (fun w105 => ?_)
        · refine x_aload_n dX0_liveByDraw_112 rfl ?_
          refine x_iload dX0_liveByDraw_113 rfl ?_
          refine x_callV1 (mc1 := 0) (ms1 := 0) dX0_liveByDraw_115 cv_RX0_42 (ci := 0) (k_ob_282 cs) rfl (Nat.le_of_ble_eq_true rfl) (n1 := n - 1) (by omega) (by omega) (by omega) ?_
          refine sp_X0_priceNow cs hvB (by omega) (by omega) (fun I115 hF115 hS115 => ?_)
          refine x_istore (lv2 := [(5, _), (4, _), (3, _), (2, _), (1, _), (0, _)]) dX0_liveByDraw_118 (by decide) rfl ?_
          refine x_iload_n dX0_liveByDraw_120 rfl ?_
          refine x_if_ne 143 dX0_liveByDraw_121 (by decide) (by omega) (fun w121 => ?_) (fun w121 => ?_)
          · refine x_iload dX0_liveByDraw_143 rfl ?_
            refine x_iconst dX0_liveByDraw_145 ?_
            refine x_icmp_eq 157 dX0_liveByDraw_146 (by decide) ⟨(by omega), (by omega)⟩ (fun w146 => ?_) (fun w146 => ?_)
            · exact x_return dX0_liveByDraw_157 rfl (by omega) (by omega) (by
        first
          | (rw [if_pos (by omega), if_pos (by omega)] at hp; exact hp _ hI46 (hFB.tr hF46))
          | (rw [if_pos (by omega), if_neg (by omega)] at hp; exact hp _ hvB hFB)
          | (rw [if_neg (by omega), if_pos (by omega), if_pos (by omega)] at hp; exact hp _ (hvB.w (Fw.rf.u (by omega)) (cu_purse _ hvB.1) (BA_purse hvB.2.1 (by omega)) (by rw [upA_o (by omega)])) (hFB.tr (Fw.rf.u (by omega)).c))
          | (rw [if_neg (by omega), if_pos (by omega), if_neg (by omega)] at hp; exact hp _ hvB hFB)
          | (rw [if_neg (by omega), if_neg (by omega), if_pos (by omega), if_pos (by omega), if_pos (by omega)] at hp; exact hp _ (hvB.w hF137 hI137 (BA_pawn hvB.2.1 (by rw [uB 0 (by omega)]; omega) (by rw [uB _ (by omega)]; omega)) (by unfold pawnA wrA; rw [upA_o (by omega), upA_o (by omega), upA_o (by omega), upA_o (by omega), upA_o (by omega), upA_o (by omega)])) (hFB.tr hF137.c))
          | (rw [if_neg (by omega), if_neg (by omega), if_pos (by omega), if_pos (by omega), if_neg (by omega)] at hp; exact hp _ hvB hFB)
          | (rw [if_neg (by omega), if_neg (by omega), if_pos (by omega), if_neg (by omega), if_pos (by omega)] at hp; exact hp _ (hvB.l hF115 hS115) (hFB.tr hF115.c))
          | (rw [if_neg (by omega), if_neg (by omega), if_pos (by omega), if_neg (by omega), if_neg (by omega)] at hp; exact hp _ ((hvB.l hF115 hS115).w hF154 hI154 (BA_redeem hvB.2.1 pb.1 pb.2.1 pb.2.2) (by unfold redeemA wrA; rw [upA_o (by omega), upA_o (by omega), upA_o (by omega), upA_o (by omega), upA_o (by omega)])) ((hFB.tr hF115.c).tr hF154.c))
          | (rw [if_neg (by omega), if_neg (by omega), if_neg (by omega)] at hp; exact hp _ hvB hFB))
            · have pb := priceP_b (A := upA A 8 (anx (A 8))) (tx := tx) (q := A 8 / 6 % A 0) (by omega)
              refine x_aload_n dX0_liveByDraw_149 rfl ?_
              refine x_iload dX0_liveByDraw_150 rfl ?_
              refine x_iload dX0_liveByDraw_152 rfl ?_
              refine x_callV2 (mc1 := 0) (ms1 := 0) dX0_liveByDraw_154 cv_RX0_46 (ci := 0) (k_ob_282 cs) rfl (Nat.le_of_ble_eq_true rfl) (n1 := n - 1) (by omega) (by omega) (by omega) ?_
              refine sp_X0_giveBack cs (hF115.W hvB.1) hvB.2.1 (by omega) (by omega) (by omega) (fun I154 hI154 hF154 => ?_)
              exact x_return dX0_liveByDraw_157 rfl (by omega) (by omega) (by
        first
          | (rw [if_pos (by omega), if_pos (by omega)] at hp; exact hp _ hI46 (hFB.tr hF46))
          | (rw [if_pos (by omega), if_neg (by omega)] at hp; exact hp _ hvB hFB)
          | (rw [if_neg (by omega), if_pos (by omega), if_pos (by omega)] at hp; exact hp _ (hvB.w (Fw.rf.u (by omega)) (cu_purse _ hvB.1) (BA_purse hvB.2.1 (by omega)) (by rw [upA_o (by omega)])) (hFB.tr (Fw.rf.u (by omega)).c))
          | (rw [if_neg (by omega), if_pos (by omega), if_neg (by omega)] at hp; exact hp _ hvB hFB)
          | (rw [if_neg (by omega), if_neg (by omega), if_pos (by omega), if_pos (by omega), if_pos (by omega)] at hp; exact hp _ (hvB.w hF137 hI137 (BA_pawn hvB.2.1 (by rw [uB 0 (by omega)]; omega) (by rw [uB _ (by omega)]; omega)) (by unfold pawnA wrA; rw [upA_o (by omega), upA_o (by omega), upA_o (by omega), upA_o (by omega), upA_o (by omega), upA_o (by omega)])) (hFB.tr hF137.c))
          | (rw [if_neg (by omega), if_neg (by omega), if_pos (by omega), if_pos (by omega), if_neg (by omega)] at hp; exact hp _ hvB hFB)
          | (rw [if_neg (by omega), if_neg (by omega), if_pos (by omega), if_neg (by omega), if_pos (by omega)] at hp; exact hp _ (hvB.l hF115 hS115) (hFB.tr hF115.c))
          | (rw [if_neg (by omega), if_neg (by omega), if_pos (by omega), if_neg (by omega), if_neg (by omega)] at hp; exact hp _ ((hvB.l hF115 hS115).w hF154 hI154 (BA_redeem hvB.2.1 pb.1 pb.2.1 pb.2.2) (by unfold redeemA wrA; rw [upA_o (by omega), upA_o (by omega), upA_o (by omega), upA_o (by omega), upA_o (by omega)])) ((hFB.tr hF115.c).tr hF154.c))
          | (rw [if_neg (by omega), if_neg (by omega), if_neg (by omega)] at hp; exact hp _ hvB hFB))
          · exfalso; omega
        · refine x_iconst dX0_liveByDraw_108 ?_
          refine x_goto 118 dX0_liveByDraw_109 (by decide) ?_
          refine x_istore (lv2 := [(5, _), (4, _), (3, _), (2, _), (1, _), (0, _)]) dX0_liveByDraw_118 (by decide) rfl ?_
          refine x_iload_n dX0_liveByDraw_120 rfl ?_
          refine x_if_ne 143 dX0_liveByDraw_121 (by decide) (by omega) (fun w121 => ?_) (fun w121 => ?_)
          · exfalso; omega
          · refine x_aload_n dX0_liveByDraw_124 rfl ?_
            refine x_getR (b := 7) dX0_liveByDraw_125 gf_RX0_96 (k_ob_6 cs) (fun _ _ => rfl) (k_r_6_0 cs) ?_
            refine x_iload dX0_liveByDraw_128 rfl ?_
            refine x_iaload dX0_liveByDraw_130 (k_ar_7 cs) (by omega) (by omega) ?_
            rw [uI_o (by omega), ← m2.1]
            refine x_if_ne 143 dX0_liveByDraw_131 (by decide) (by omega) (fun w131 => ?_) (fun w131 => ?_)
            · refine x_iload dX0_liveByDraw_143 rfl ?_
              refine x_iconst dX0_liveByDraw_145 ?_
              refine x_icmp_eq 157 dX0_liveByDraw_146 (by decide) ⟨(by omega), (by omega)⟩ (fun w146 => ?_) (fun w146 => ?_)
              · exact x_return dX0_liveByDraw_157 rfl (by omega) (by omega) (by
        first
          | (rw [if_pos (by omega), if_pos (by omega)] at hp; exact hp _ hI46 (hFB.tr hF46))
          | (rw [if_pos (by omega), if_neg (by omega)] at hp; exact hp _ hvB hFB)
          | (rw [if_neg (by omega), if_pos (by omega), if_pos (by omega)] at hp; exact hp _ (hvB.w (Fw.rf.u (by omega)) (cu_purse _ hvB.1) (BA_purse hvB.2.1 (by omega)) (by rw [upA_o (by omega)])) (hFB.tr (Fw.rf.u (by omega)).c))
          | (rw [if_neg (by omega), if_pos (by omega), if_neg (by omega)] at hp; exact hp _ hvB hFB)
          | (rw [if_neg (by omega), if_neg (by omega), if_pos (by omega), if_pos (by omega), if_pos (by omega)] at hp; exact hp _ (hvB.w hF137 hI137 (BA_pawn hvB.2.1 (by rw [uB 0 (by omega)]; omega) (by rw [uB _ (by omega)]; omega)) (by unfold pawnA wrA; rw [upA_o (by omega), upA_o (by omega), upA_o (by omega), upA_o (by omega), upA_o (by omega), upA_o (by omega)])) (hFB.tr hF137.c))
          | (rw [if_neg (by omega), if_neg (by omega), if_pos (by omega), if_pos (by omega), if_neg (by omega)] at hp; exact hp _ hvB hFB)
          | (rw [if_neg (by omega), if_neg (by omega), if_pos (by omega), if_neg (by omega), if_pos (by omega)] at hp; exact hp _ (hvB.l hF115 hS115) (hFB.tr hF115.c))
          | (rw [if_neg (by omega), if_neg (by omega), if_pos (by omega), if_neg (by omega), if_neg (by omega)] at hp; exact hp _ ((hvB.l hF115 hS115).w hF154 hI154 (BA_redeem hvB.2.1 pb.1 pb.2.1 pb.2.2) (by unfold redeemA wrA; rw [upA_o (by omega), upA_o (by omega), upA_o (by omega), upA_o (by omega), upA_o (by omega)])) ((hFB.tr hF115.c).tr hF154.c))
          | (rw [if_neg (by omega), if_neg (by omega), if_neg (by omega)] at hp; exact hp _ hvB hFB))
              · exfalso; omega
            · refine x_aload_n dX0_liveByDraw_134 rfl ?_
              refine x_iload dX0_liveByDraw_135 rfl ?_
              refine x_callV1 (mc1 := 0) (ms1 := 0) dX0_liveByDraw_137 cv_RX0_38 (ci := 0) (k_ob_282 cs) rfl (Nat.le_of_ble_eq_true rfl) (n1 := n - 1) (by omega) (by omega) (by omega) ?_
              refine sp_X0_takeIn cs hvB.1 hvB.2.1 (by omega) (by omega) (fun I137 hI137 hF137 => ?_)
              refine x_goto 157 dX0_liveByDraw_140 (by decide) ?_
              exact x_return dX0_liveByDraw_157 rfl (by omega) (by omega) (by
        first
          | (rw [if_pos (by omega), if_pos (by omega)] at hp; exact hp _ hI46 (hFB.tr hF46))
          | (rw [if_pos (by omega), if_neg (by omega)] at hp; exact hp _ hvB hFB)
          | (rw [if_neg (by omega), if_pos (by omega), if_pos (by omega)] at hp; exact hp _ (hvB.w (Fw.rf.u (by omega)) (cu_purse _ hvB.1) (BA_purse hvB.2.1 (by omega)) (by rw [upA_o (by omega)])) (hFB.tr (Fw.rf.u (by omega)).c))
          | (rw [if_neg (by omega), if_pos (by omega), if_neg (by omega)] at hp; exact hp _ hvB hFB)
          | (rw [if_neg (by omega), if_neg (by omega), if_pos (by omega), if_pos (by omega), if_pos (by omega)] at hp; exact hp _ (hvB.w hF137 hI137 (BA_pawn hvB.2.1 (by rw [uB 0 (by omega)]; omega) (by rw [uB _ (by omega)]; omega)) (by unfold pawnA wrA; rw [upA_o (by omega), upA_o (by omega), upA_o (by omega), upA_o (by omega), upA_o (by omega), upA_o (by omega)])) (hFB.tr hF137.c))
          | (rw [if_neg (by omega), if_neg (by omega), if_pos (by omega), if_pos (by omega), if_neg (by omega)] at hp; exact hp _ hvB hFB)
          | (rw [if_neg (by omega), if_neg (by omega), if_pos (by omega), if_neg (by omega), if_pos (by omega)] at hp; exact hp _ (hvB.l hF115 hS115) (hFB.tr hF115.c))
          | (rw [if_neg (by omega), if_neg (by omega), if_pos (by omega), if_neg (by omega), if_neg (by omega)] at hp; exact hp _ ((hvB.l hF115 hS115).w hF154 hI154 (BA_redeem hvB.2.1 pb.1 pb.2.1 pb.2.2) (by unfold redeemA wrA; rw [upA_o (by omega), upA_o (by omega), upA_o (by omega), upA_o (by omega), upA_o (by omega)])) ((hFB.tr hF115.c).tr hF154.c))
          | (rw [if_neg (by omega), if_neg (by omega), if_neg (by omega)] at hp; exact hp _ hvB hFB))
    · refine x_iconst dX0_liveByDraw_58 ?_
      refine x_iload_n dX0_liveByDraw_59 rfl ?_
      refine x_bipush dX0_liveByDraw_60 (by decide) ?_
      refine x_irem dX0_liveByDraw_62 (by omega) ?_
      refine x_iadd dX0_liveByDraw_63 ?_
      refine x_istore (lv2 := [(4, _), (3, _), (2, _), (1, _), (0, _)]) dX0_liveByDraw_64 (by decide) rfl ?_
      refine x_aload_n dX0_liveByDraw_66 rfl ?_
      refine x_iload dX0_liveByDraw_67 rfl ?_
      refine x_callV1 (mc1 := 0) (ms1 := 0) dX0_liveByDraw_69 cv_RX0_50 (ci := 0) (k_ob_282 cs) rfl (Nat.le_of_ble_eq_true rfl) (n1 := n - 1) (by omega) (by omega) (by omega) ?_
      refine sp_X0_canPayOut cs hvB.1 hvB.2.1 (by omega) (fun r69 hr69 => ?_)
      rw [uB 9 (by omega)] at hr69
      refine x_if_eq 86 dX0_liveByDraw_72 (by decide) (by omega) (fun w72 => ?_) (fun w72 => ?_)
      · refine x_goto 157 dX0_liveByDraw_86 (by decide) ?_
        exact x_return dX0_liveByDraw_157 rfl (by omega) (by omega) (by
        first
          | (rw [if_pos (by omega), if_pos (by omega)] at hp; exact hp _ hI46 (hFB.tr hF46))
          | (rw [if_pos (by omega), if_neg (by omega)] at hp; exact hp _ hvB hFB)
          | (rw [if_neg (by omega), if_pos (by omega), if_pos (by omega)] at hp; exact hp _ (hvB.w (Fw.rf.u (by omega)) (cu_purse _ hvB.1) (BA_purse hvB.2.1 (by omega)) (by rw [upA_o (by omega)])) (hFB.tr (Fw.rf.u (by omega)).c))
          | (rw [if_neg (by omega), if_pos (by omega), if_neg (by omega)] at hp; exact hp _ hvB hFB)
          | (rw [if_neg (by omega), if_neg (by omega), if_pos (by omega), if_pos (by omega), if_pos (by omega)] at hp; exact hp _ (hvB.w hF137 hI137 (BA_pawn hvB.2.1 (by rw [uB 0 (by omega)]; omega) (by rw [uB _ (by omega)]; omega)) (by unfold pawnA wrA; rw [upA_o (by omega), upA_o (by omega), upA_o (by omega), upA_o (by omega), upA_o (by omega), upA_o (by omega)])) (hFB.tr hF137.c))
          | (rw [if_neg (by omega), if_neg (by omega), if_pos (by omega), if_pos (by omega), if_neg (by omega)] at hp; exact hp _ hvB hFB)
          | (rw [if_neg (by omega), if_neg (by omega), if_pos (by omega), if_neg (by omega), if_pos (by omega)] at hp; exact hp _ (hvB.l hF115 hS115) (hFB.tr hF115.c))
          | (rw [if_neg (by omega), if_neg (by omega), if_pos (by omega), if_neg (by omega), if_neg (by omega)] at hp; exact hp _ ((hvB.l hF115 hS115).w hF154 hI154 (BA_redeem hvB.2.1 pb.1 pb.2.1 pb.2.2) (by unfold redeemA wrA; rw [upA_o (by omega), upA_o (by omega), upA_o (by omega), upA_o (by omega), upA_o (by omega)])) ((hFB.tr hF115.c).tr hF154.c))
          | (rw [if_neg (by omega), if_neg (by omega), if_neg (by omega)] at hp; exact hp _ hvB hFB))
      · refine x_aload_n dX0_liveByDraw_75 rfl ?_
        refine x_dup dX0_liveByDraw_76 rfl ?_
        refine x_getIv (z := A 9) dX0_liveByDraw_77 gf_RX0_54 (k_ob_6 cs) (fun _ _ => rfl) (by first | exact c8.symm | (rw [uI_o (by omega)]; first | exact c7.symm | exact c9.symm | exact c0.symm)) ?_
        refine x_iload dX0_liveByDraw_80 rfl ?_
        refine x_iadd dX0_liveByDraw_82 ?_
        refine x_putI dX0_liveByDraw_83 gf_RX0_54 (k_ob_6 cs) rfl ?_
        refine x_goto 157 dX0_liveByDraw_86 (by decide) ?_
        exact x_return dX0_liveByDraw_157 rfl (by omega) (by omega) (by
        first
          | (rw [if_pos (by omega), if_pos (by omega)] at hp; exact hp _ hI46 (hFB.tr hF46))
          | (rw [if_pos (by omega), if_neg (by omega)] at hp; exact hp _ hvB hFB)
          | (rw [if_neg (by omega), if_pos (by omega), if_pos (by omega)] at hp; exact hp _ (hvB.w (Fw.rf.u (by omega)) (cu_purse _ hvB.1) (BA_purse hvB.2.1 (by omega)) (by rw [upA_o (by omega)])) (hFB.tr (Fw.rf.u (by omega)).c))
          | (rw [if_neg (by omega), if_pos (by omega), if_neg (by omega)] at hp; exact hp _ hvB hFB)
          | (rw [if_neg (by omega), if_neg (by omega), if_pos (by omega), if_pos (by omega), if_pos (by omega)] at hp; exact hp _ (hvB.w hF137 hI137 (BA_pawn hvB.2.1 (by rw [uB 0 (by omega)]; omega) (by rw [uB _ (by omega)]; omega)) (by unfold pawnA wrA; rw [upA_o (by omega), upA_o (by omega), upA_o (by omega), upA_o (by omega), upA_o (by omega), upA_o (by omega)])) (hFB.tr hF137.c))
          | (rw [if_neg (by omega), if_neg (by omega), if_pos (by omega), if_pos (by omega), if_neg (by omega)] at hp; exact hp _ hvB hFB)
          | (rw [if_neg (by omega), if_neg (by omega), if_pos (by omega), if_neg (by omega), if_pos (by omega)] at hp; exact hp _ (hvB.l hF115 hS115) (hFB.tr hF115.c))
          | (rw [if_neg (by omega), if_neg (by omega), if_pos (by omega), if_neg (by omega), if_neg (by omega)] at hp; exact hp _ ((hvB.l hF115 hS115).w hF154 hI154 (BA_redeem hvB.2.1 pb.1 pb.2.1 pb.2.2) (by unfold redeemA wrA; rw [upA_o (by omega), upA_o (by omega), upA_o (by omega), upA_o (by omega), upA_o (by omega)])) ((hFB.tr hF115.c).tr hF154.c))
          | (rw [if_neg (by omega), if_neg (by omega), if_neg (by omega)] at hp; exact hp _ hvB hFB))
  · refine x_aload_n dX0_liveByDraw_35 rfl ?_
    refine x_getIv (z := A 7) dX0_liveByDraw_36 gf_RX0_84 (k_ob_6 cs) (fun _ _ => rfl) (by first | exact c8.symm | (rw [uI_o (by omega)]; first | exact c7.symm | exact c9.symm | exact c0.symm)) ?_
    refine x_sipush dX0_liveByDraw_39 (by decide) ?_
    refine x_icmp_ge 157 dX0_liveByDraw_42 (by decide) ⟨(by omega), (by omega)⟩ (fun w42 => ?_) (fun w42 => ?_)
    · exact x_return dX0_liveByDraw_157 rfl (by omega) (by omega) (by
        first
          | (rw [if_pos (by omega), if_pos (by omega)] at hp; exact hp _ hI46 (hFB.tr hF46))
          | (rw [if_pos (by omega), if_neg (by omega)] at hp; exact hp _ hvB hFB)
          | (rw [if_neg (by omega), if_pos (by omega), if_pos (by omega)] at hp; exact hp _ (hvB.w (Fw.rf.u (by omega)) (cu_purse _ hvB.1) (BA_purse hvB.2.1 (by omega)) (by rw [upA_o (by omega)])) (hFB.tr (Fw.rf.u (by omega)).c))
          | (rw [if_neg (by omega), if_pos (by omega), if_neg (by omega)] at hp; exact hp _ hvB hFB)
          | (rw [if_neg (by omega), if_neg (by omega), if_pos (by omega), if_pos (by omega), if_pos (by omega)] at hp; exact hp _ (hvB.w hF137 hI137 (BA_pawn hvB.2.1 (by rw [uB 0 (by omega)]; omega) (by rw [uB _ (by omega)]; omega)) (by unfold pawnA wrA; rw [upA_o (by omega), upA_o (by omega), upA_o (by omega), upA_o (by omega), upA_o (by omega), upA_o (by omega)])) (hFB.tr hF137.c))
          | (rw [if_neg (by omega), if_neg (by omega), if_pos (by omega), if_pos (by omega), if_neg (by omega)] at hp; exact hp _ hvB hFB)
          | (rw [if_neg (by omega), if_neg (by omega), if_pos (by omega), if_neg (by omega), if_pos (by omega)] at hp; exact hp _ (hvB.l hF115 hS115) (hFB.tr hF115.c))
          | (rw [if_neg (by omega), if_neg (by omega), if_pos (by omega), if_neg (by omega), if_neg (by omega)] at hp; exact hp _ ((hvB.l hF115 hS115).w hF154 hI154 (BA_redeem hvB.2.1 pb.1 pb.2.1 pb.2.2) (by unfold redeemA wrA; rw [upA_o (by omega), upA_o (by omega), upA_o (by omega), upA_o (by omega), upA_o (by omega)])) ((hFB.tr hF115.c).tr hF154.c))
          | (rw [if_neg (by omega), if_neg (by omega), if_neg (by omega)] at hp; exact hp _ hvB hFB))
    · refine x_aload_n dX0_liveByDraw_45 rfl ?_
      refine x_callV0 (mc1 := 0) (ms1 := 0) dX0_liveByDraw_46 cv_RX0_58 (ci := 0) (k_ob_282 cs) rfl (Nat.le_of_ble_eq_true rfl) (n1 := n - 1) (by omega) (by omega) (by omega) ?_
      refine sp_X0_passDay cs hvB (by rw [uB 7 (by omega)]; omega) (by omega) (fun I46 hI46 hF46 => ?_)
      refine x_pop dX0_liveByDraw_49 rfl ?_
      refine x_goto 157 dX0_liveByDraw_50 (by decide) ?_
      exact x_return dX0_liveByDraw_157 rfl (by omega) (by omega) (by
        first
          | (rw [if_pos (by omega), if_pos (by omega)] at hp; exact hp _ hI46 (hFB.tr hF46))
          | (rw [if_pos (by omega), if_neg (by omega)] at hp; exact hp _ hvB hFB)
          | (rw [if_neg (by omega), if_pos (by omega), if_pos (by omega)] at hp; exact hp _ (hvB.w (Fw.rf.u (by omega)) (cu_purse _ hvB.1) (BA_purse hvB.2.1 (by omega)) (by rw [upA_o (by omega)])) (hFB.tr (Fw.rf.u (by omega)).c))
          | (rw [if_neg (by omega), if_pos (by omega), if_neg (by omega)] at hp; exact hp _ hvB hFB)
          | (rw [if_neg (by omega), if_neg (by omega), if_pos (by omega), if_pos (by omega), if_pos (by omega)] at hp; exact hp _ (hvB.w hF137 hI137 (BA_pawn hvB.2.1 (by rw [uB 0 (by omega)]; omega) (by rw [uB _ (by omega)]; omega)) (by unfold pawnA wrA; rw [upA_o (by omega), upA_o (by omega), upA_o (by omega), upA_o (by omega), upA_o (by omega), upA_o (by omega)])) (hFB.tr hF137.c))
          | (rw [if_neg (by omega), if_neg (by omega), if_pos (by omega), if_pos (by omega), if_neg (by omega)] at hp; exact hp _ hvB hFB)
          | (rw [if_neg (by omega), if_neg (by omega), if_pos (by omega), if_neg (by omega), if_pos (by omega)] at hp; exact hp _ (hvB.l hF115 hS115) (hFB.tr hF115.c))
          | (rw [if_neg (by omega), if_neg (by omega), if_pos (by omega), if_neg (by omega), if_neg (by omega)] at hp; exact hp _ ((hvB.l hF115 hS115).w hF154 hI154 (BA_redeem hvB.2.1 pb.1 pb.2.1 pb.2.2) (by unfold redeemA wrA; rw [upA_o (by omega), upA_o (by omega), upA_o (by omega), upA_o (by omega), upA_o (by omega)])) ((hFB.tr hF115.c).tr hF154.c))
          | (rw [if_neg (by omega), if_neg (by omega), if_neg (by omega)] at hp; exact hp _ hvB hFB))
end Cls7
