section Cls3
variable {n : Nat} {Post : PT} {S : Sh} {I : CI} {R : CR} {A : Nat → Int}
theorem Fw.tr2 {I I' I'' : CI} (h2 : Fw I' I'') (h : Fw I I') : Fw I I'' := h.tr h2
def capP (x : Int) : Int := if 9999 ≤ x then 9999 else x
def pawnA (A : Nat → Int) (q : Int) : Nat → Int := wrA (upA (upA (upA A (12 + 3 * q.toNat) 1) (13 + 3 * q.toNat) (A 7)) 9 (capP (A 9 + A (52 + q.toNat) / 2))) q 0
def redeemA (A : Nat → Int) (q p : Int) : Nat → Int := wrA (upA (upA A 9 (A 9 - p)) (12 + 3 * q.toNat) 2) q 1
def warmA (A : Nat → Int) (q : Int) : Nat → Int := if A (12 + 3 * q.toNat) = 0 then upA A (14 + 3 * q.toNat) (if 9 ≤ A (14 + 3 * q.toNat) + 1 then 9 else A (14 + 3 * q.toNat) + 1) else if A (12 + 3 * q.toNat) = 1 ∧ A 10 = 1 then upA A (14 + 3 * q.toNat) (if A (14 + 3 * q.toNat) - 1 ≤ 0 then 0 else A (14 + 3 * q.toNat) - 1) else A
theorem dX0_takeIn_0 : decode prog_2_method_10_code 0 = .ok (.aload_n 0, 1) := by decide +kernel
theorem dX0_takeIn_1 : decode prog_2_method_10_code 1 = .ok (.getfield 18, 3) := by decide +kernel
theorem dX0_takeIn_4 : decode prog_2_method_10_code 4 = .ok (.getfield 26, 3) := by decide +kernel
theorem dX0_takeIn_7 : decode prog_2_method_10_code 7 = .ok (.astore_n 2, 1) := by decide +kernel
theorem dX0_takeIn_8 : decode prog_2_method_10_code 8 = .ok (.aload_n 2, 1) := by decide +kernel
theorem dX0_takeIn_9 : decode prog_2_method_10_code 9 = .ok (.getfield 96, 3) := by decide +kernel
theorem dX0_takeIn_12 : decode prog_2_method_10_code 12 = .ok (.iload_n 1, 1) := by decide +kernel
theorem dX0_takeIn_13 : decode prog_2_method_10_code 13 = .ok (.iconst 1, 1) := by decide +kernel
theorem dX0_takeIn_14 : decode prog_2_method_10_code 14 = .ok (.iastore, 1) := by decide +kernel
theorem dX0_takeIn_15 : decode prog_2_method_10_code 15 = .ok (.aload_n 2, 1) := by decide +kernel
theorem dX0_takeIn_16 : decode prog_2_method_10_code 16 = .ok (.getfield 112, 3) := by decide +kernel
theorem dX0_takeIn_19 : decode prog_2_method_10_code 19 = .ok (.iload_n 1, 1) := by decide +kernel
theorem dX0_takeIn_20 : decode prog_2_method_10_code 20 = .ok (.aload_n 2, 1) := by decide +kernel
theorem dX0_takeIn_21 : decode prog_2_method_10_code 21 = .ok (.getfield 84, 3) := by decide +kernel
theorem dX0_takeIn_24 : decode prog_2_method_10_code 24 = .ok (.iastore, 1) := by decide +kernel
theorem dX0_takeIn_25 : decode prog_2_method_10_code 25 = .ok (.aload_n 2, 1) := by decide +kernel
theorem dX0_takeIn_26 : decode prog_2_method_10_code 26 = .ok (.sipush 9999, 3) := by decide +kernel
theorem dX0_takeIn_29 : decode prog_2_method_10_code 29 = .ok (.aload_n 2, 1) := by decide +kernel
theorem dX0_takeIn_30 : decode prog_2_method_10_code 30 = .ok (.getfield 54, 3) := by decide +kernel
theorem dX0_takeIn_33 : decode prog_2_method_10_code 33 = .ok (.aload_n 0, 1) := by decide +kernel
theorem dX0_takeIn_34 : decode prog_2_method_10_code 34 = .ok (.getfield 18, 3) := by decide +kernel
theorem dX0_takeIn_37 : decode prog_2_method_10_code 37 = .ok (.getfield 115, 3) := by decide +kernel
theorem dX0_takeIn_40 : decode prog_2_method_10_code 40 = .ok (.iload_n 1, 1) := by decide +kernel
theorem dX0_takeIn_41 : decode prog_2_method_10_code 41 = .ok (.iaload, 1) := by decide +kernel
theorem dX0_takeIn_42 : decode prog_2_method_10_code 42 = .ok (.iconst 2, 1) := by decide +kernel
theorem dX0_takeIn_43 : decode prog_2_method_10_code 43 = .ok (.idiv, 1) := by decide +kernel
theorem dX0_takeIn_44 : decode prog_2_method_10_code 44 = .ok (.iadd, 1) := by decide +kernel
theorem dX0_takeIn_45 : decode prog_2_method_10_code 45 = .ok (.invokestatic 118, 3) := by decide +kernel
theorem dX0_takeIn_48 : decode prog_2_method_10_code 48 = .ok (.putfield 54, 3) := by decide +kernel
theorem dX0_takeIn_51 : decode prog_2_method_10_code 51 = .ok (.aload_n 0, 1) := by decide +kernel
theorem dX0_takeIn_52 : decode prog_2_method_10_code 52 = .ok (.getfield 18, 3) := by decide +kernel
theorem dX0_takeIn_55 : decode prog_2_method_10_code 55 = .ok (.iload_n 1, 1) := by decide +kernel
theorem dX0_takeIn_56 : decode prog_2_method_10_code 56 = .ok (.iconst 0, 1) := by decide +kernel
theorem dX0_takeIn_57 : decode prog_2_method_10_code 57 = .ok (.invokevirtual 123, 3) := by decide +kernel
theorem dX0_takeIn_60 : decode prog_2_method_10_code 60 = .ok (.return_, 1) := by decide +kernel
theorem sp_X0_takeIn {q : Int} (cs : CS S R) (hc : ClW I 1 A) (hb : BA A) (hq : 0 ≤ q ∧ q < 8) (hn : 1 ≤ n) (hp : ∀ I', ClW I' 1 (pawnA A q) → Fw I I' → Post none S I' R) : Call n 0 0 mX0_takeIn [.ref (S.2.1 282), .int (iI q)] S I R Post := by
  obtain ⟨⟨⟨c0, c7, c8, c9, c10, c11⟩, cq⟩, ⟨⟨t1, t2, t3, t4, t5, t6, t7, t8, t9⟩, tq, th, tb, ts, td⟩, cb, cp⟩ := id hc
  dsimp only [Nat.reduceAdd] at c0 c7 c8 c9 c10 c11 cq t1 t2 t3 t4 t5 t6 t7 t8 t9 tq th tb ts td
  obtain ⟨⟨b0, b1, b2, b3, b4, bq, bl⟩, ⟨d1, d2, d3, d4, d5, d6, d7⟩, dq, dh, db, ds, dd, dp⟩ := id hb
  have b7 : 0 ≤ A 7 ∧ A 7 ≤ 9999 := b1
  have b8 : 0 ≤ A 8 ∧ A 8 ≤ 30870 := b2
  have b9 : 0 ≤ A 9 ∧ A 9 ≤ 9999 := b3
  have b10 : 0 ≤ A 10 ∧ A 10 ≤ 1 := b4
  have b11 : 0 ≤ A 11 ∧ A 11 ≤ 16 := by have h1 := lns_b (fun q => A (6 + 6 + 3 * q)) (A 0).toNat; have h2 : A 11 = _ := bl; omega
  have w1 := dq q.toNat (by omega)
  have w2 := tq q.toNat (by omega)
  have w3 := cq q.toNat (by omega)
  have w4 := bq q.toNat (by omega)
  rw [show 6 + 6 + 3 * q.toNat = 12 + 3 * q.toNat by omega, show 6 + 7 + 3 * q.toNat = 13 + 3 * q.toNat by omega, show 6 + 8 + 3 * q.toNat = 14 + 3 * q.toNat by omega] at w4
  refine Call.of (by decide +kernel) (Nat.le_of_ble_eq_true rfl) ?_
  show WP _ _ _ _ _ 0 [(0, _), (1, _)] [] 0 0 _ _ _
  refine x_aload_n dX0_takeIn_0 rfl ?_
  refine x_getR (b := 1) dX0_takeIn_1 gf_RX0_18 (k_ob_282 cs) (fun _ _ => rfl) (k_r_282_0 cs) ?_
  refine x_getR (b := 6) dX0_takeIn_4 gf_RX0_26 (k_ob_1 cs) (fun _ _ => rfl) (k_r_1_4 cs) ?_
  refine x_astore_n (lv2 := [(2, _), (0, _), (1, _)]) dX0_takeIn_7 (by decide) rfl ?_
  refine x_aload_n dX0_takeIn_8 rfl ?_
  refine x_getR (b := 7) dX0_takeIn_9 gf_RX0_96 (k_ob_6 cs) (fun _ _ => rfl) (k_r_6_0 cs) ?_
  refine x_iload_n dX0_takeIn_12 rfl ?_
  refine x_iconst dX0_takeIn_13 ?_
  refine x_iastore dX0_takeIn_14 (k_ar_7 cs) (by omega) (by omega) ?_
  refine x_aload_n dX0_takeIn_15 rfl ?_
  refine x_getR (b := 8) dX0_takeIn_16 gf_RX0_112 (k_ob_6 cs) (fun _ _ => rfl) (k_r_6_1 cs) ?_
  refine x_iload_n dX0_takeIn_19 rfl ?_
  refine x_aload_n dX0_takeIn_20 rfl ?_
  refine x_getIv (z := I 6 6) dX0_takeIn_21 gf_RX0_84 (k_ob_6 cs) (fun _ _ => rfl) (by (repeat first | rw [uI_s] | rw [uI_o (by omega)]); try rfl) ?_
  refine x_iastore dX0_takeIn_24 (k_ar_8 cs) (by omega) (by omega) ?_
  refine x_aload_n dX0_takeIn_25 rfl ?_
  refine x_sipush dX0_takeIn_26 (by decide) ?_
  refine x_aload_n dX0_takeIn_29 rfl ?_
  refine x_getIv (z := I 6 4) dX0_takeIn_30 gf_RX0_54 (k_ob_6 cs) (fun _ _ => rfl) (by (repeat first | rw [uI_s] | rw [uI_o (by omega)]); try rfl) ?_
  refine x_aload_n dX0_takeIn_33 rfl ?_
  refine x_getR (b := 1) dX0_takeIn_34 gf_RX0_18 (k_ob_282 cs) (fun _ _ => rfl) (k_r_282_0 cs) ?_
  refine x_getR (b := 4) dX0_takeIn_37 gf_RX0_115 (k_ob_1 cs) (fun _ _ => rfl) (k_r_1_2 cs) ?_
  refine x_iload_n dX0_takeIn_40 rfl ?_
  refine x_iaload dX0_takeIn_41 (k_ar_4 cs) (by omega) (by omega) ?_
  rw [show uI (uI I 7 q.toNat 1) 8 q.toNat (I 6 6) 4 q.toNat = I 4 q.toNat by rw [uI_o (by omega), uI_o (by omega)]]
  refine x_iconst dX0_takeIn_42 ?_
  refine x_idiv dX0_takeIn_43 (by omega) ?_
  refine x_iadd dX0_takeIn_44 ?_
  refine x_mmin dX0_takeIn_45 cv_RX0_118 (by omega) (Nat.le_of_ble_eq_true rfl) (by omega) (by omega) (by omega) (fun r45 hr45 => ?_)
  refine x_putI dX0_takeIn_48 gf_RX0_54 (k_ob_6 cs) rfl ?_
  refine x_aload_n dX0_takeIn_51 rfl ?_
  refine x_getR (b := 1) dX0_takeIn_52 gf_RX0_18 (k_ob_282 cs) (fun _ _ => rfl) (k_r_282_0 cs) ?_
  refine x_iload_n dX0_takeIn_55 rfl ?_
  refine x_iconst dX0_takeIn_56 ?_
  refine x_callV2 (mc1 := 0) (ms1 := 0) dX0_takeIn_57 cv_RX0_123 (ci := 10) (k_ob_1 cs) rfl (Nat.le_of_ble_eq_true rfl) (n1 := n - 1) (by omega) (by omega) (by omega) ?_
  refine sp_X10_write cs (cu_purse _ (cu_since _ (cu_how 1 hc (by omega)) (by omega))) (by rw [upA_o (by omega), upA_o (by omega), upA_o (by omega)]; omega) (by rw [upA_o (by omega), upA_o (by omega), upA_o (by omega)]; omega) (by omega) (by omega) (by rw [upA_o (by omega), upA_o (by omega), upA_o (by omega)]; omega) (fun I57 hI57 hF57 => ?_)
  have e57 : pawnA A q = wrA (upA (upA (upA A (12 + 3 * q.toNat) 1) (13 + 3 * q.toNat) (I 6 6)) 9 r45) q 0 := by unfold pawnA capP; rw [c7, c9, w2.2.2.1]; congr 1; congr 1; split <;> omega
  rw [e57] at hp
  exact x_return dX0_takeIn_60 rfl (by omega) (by omega) (hp _ (by assumption) (Fw.tr2 (by assumption) (((Fw.rf.u (by omega)).u (by omega)).u (by omega))))
theorem dX0_giveBack_0 : decode prog_2_method_12_code 0 = .ok (.aload_n 0, 1) := by decide +kernel
theorem dX0_giveBack_1 : decode prog_2_method_12_code 1 = .ok (.getfield 18, 3) := by decide +kernel
theorem dX0_giveBack_4 : decode prog_2_method_12_code 4 = .ok (.getfield 26, 3) := by decide +kernel
theorem dX0_giveBack_7 : decode prog_2_method_12_code 7 = .ok (.dup, 1) := by decide +kernel
theorem dX0_giveBack_8 : decode prog_2_method_12_code 8 = .ok (.getfield 54, 3) := by decide +kernel
theorem dX0_giveBack_11 : decode prog_2_method_12_code 11 = .ok (.iload_n 2, 1) := by decide +kernel
theorem dX0_giveBack_12 : decode prog_2_method_12_code 12 = .ok (.isub, 1) := by decide +kernel
theorem dX0_giveBack_13 : decode prog_2_method_12_code 13 = .ok (.putfield 54, 3) := by decide +kernel
theorem dX0_giveBack_16 : decode prog_2_method_12_code 16 = .ok (.aload_n 0, 1) := by decide +kernel
theorem dX0_giveBack_17 : decode prog_2_method_12_code 17 = .ok (.getfield 18, 3) := by decide +kernel
theorem dX0_giveBack_20 : decode prog_2_method_12_code 20 = .ok (.getfield 26, 3) := by decide +kernel
theorem dX0_giveBack_23 : decode prog_2_method_12_code 23 = .ok (.getfield 96, 3) := by decide +kernel
theorem dX0_giveBack_26 : decode prog_2_method_12_code 26 = .ok (.iload_n 1, 1) := by decide +kernel
theorem dX0_giveBack_27 : decode prog_2_method_12_code 27 = .ok (.iconst 2, 1) := by decide +kernel
theorem dX0_giveBack_28 : decode prog_2_method_12_code 28 = .ok (.iastore, 1) := by decide +kernel
theorem dX0_giveBack_29 : decode prog_2_method_12_code 29 = .ok (.aload_n 0, 1) := by decide +kernel
theorem dX0_giveBack_30 : decode prog_2_method_12_code 30 = .ok (.getfield 18, 3) := by decide +kernel
theorem dX0_giveBack_33 : decode prog_2_method_12_code 33 = .ok (.iload_n 1, 1) := by decide +kernel
theorem dX0_giveBack_34 : decode prog_2_method_12_code 34 = .ok (.iconst 1, 1) := by decide +kernel
theorem dX0_giveBack_35 : decode prog_2_method_12_code 35 = .ok (.invokevirtual 123, 3) := by decide +kernel
theorem dX0_giveBack_38 : decode prog_2_method_12_code 38 = .ok (.return_, 1) := by decide +kernel
theorem sp_X0_giveBack {q p : Int} (cs : CS S R) (hc : ClW I 1 A) (hb : BA A) (hq : 0 ≤ q ∧ q < 8) (hpp : 0 ≤ p ∧ p ≤ A 9) (hn : 1 ≤ n) (hp : ∀ I', ClW I' 1 (redeemA A q p) → Fw I I' → Post none S I' R) : Call n 0 0 mX0_giveBack [.ref (S.2.1 282), .int (iI q), .int (iI p)] S I R Post := by
  obtain ⟨⟨⟨c0, c7, c8, c9, c10, c11⟩, cq⟩, ⟨⟨t1, t2, t3, t4, t5, t6, t7, t8, t9⟩, tq, th, tb, ts, td⟩, cb, cp⟩ := id hc
  dsimp only [Nat.reduceAdd] at c0 c7 c8 c9 c10 c11 cq t1 t2 t3 t4 t5 t6 t7 t8 t9 tq th tb ts td
  obtain ⟨⟨b0, b1, b2, b3, b4, bq, bl⟩, ⟨d1, d2, d3, d4, d5, d6, d7⟩, dq, dh, db, ds, dd, dp⟩ := id hb
  have b7 : 0 ≤ A 7 ∧ A 7 ≤ 9999 := b1
  have b8 : 0 ≤ A 8 ∧ A 8 ≤ 30870 := b2
  have b9 : 0 ≤ A 9 ∧ A 9 ≤ 9999 := b3
  have b10 : 0 ≤ A 10 ∧ A 10 ≤ 1 := b4
  have b11 : 0 ≤ A 11 ∧ A 11 ≤ 16 := by have h1 := lns_b (fun q => A (6 + 6 + 3 * q)) (A 0).toNat; have h2 : A 11 = _ := bl; omega
  have w1 := dq q.toNat (by omega)
  have w2 := tq q.toNat (by omega)
  have w3 := cq q.toNat (by omega)
  have w4 := bq q.toNat (by omega)
  rw [show 6 + 6 + 3 * q.toNat = 12 + 3 * q.toNat by omega, show 6 + 7 + 3 * q.toNat = 13 + 3 * q.toNat by omega, show 6 + 8 + 3 * q.toNat = 14 + 3 * q.toNat by omega] at w4
  refine Call.of (by decide +kernel) (Nat.le_of_ble_eq_true rfl) ?_
  show WP _ _ _ _ _ 0 [(0, _), (1, _), (2, _)] [] 0 0 _ _ _
  refine x_aload_n dX0_giveBack_0 rfl ?_
  refine x_getR (b := 1) dX0_giveBack_1 gf_RX0_18 (k_ob_282 cs) (fun _ _ => rfl) (k_r_282_0 cs) ?_
  refine x_getR (b := 6) dX0_giveBack_4 gf_RX0_26 (k_ob_1 cs) (fun _ _ => rfl) (k_r_1_4 cs) ?_
  refine x_dup dX0_giveBack_7 rfl ?_
  refine x_getI dX0_giveBack_8 gf_RX0_54 (k_ob_6 cs) (fun _ _ => rfl) ?_
  refine x_iload_n dX0_giveBack_11 rfl ?_
  refine x_isub dX0_giveBack_12 ?_
  refine x_putI dX0_giveBack_13 gf_RX0_54 (k_ob_6 cs) rfl ?_
  refine x_aload_n dX0_giveBack_16 rfl ?_
  refine x_getR (b := 1) dX0_giveBack_17 gf_RX0_18 (k_ob_282 cs) (fun _ _ => rfl) (k_r_282_0 cs) ?_
  refine x_getR (b := 6) dX0_giveBack_20 gf_RX0_26 (k_ob_1 cs) (fun _ _ => rfl) (k_r_1_4 cs) ?_
  refine x_getR (b := 7) dX0_giveBack_23 gf_RX0_96 (k_ob_6 cs) (fun _ _ => rfl) (k_r_6_0 cs) ?_
  refine x_iload_n dX0_giveBack_26 rfl ?_
  refine x_iconst dX0_giveBack_27 ?_
  refine x_iastore dX0_giveBack_28 (k_ar_7 cs) (by omega) (by omega) ?_
  refine x_aload_n dX0_giveBack_29 rfl ?_
  refine x_getR (b := 1) dX0_giveBack_30 gf_RX0_18 (k_ob_282 cs) (fun _ _ => rfl) (k_r_282_0 cs) ?_
  refine x_iload_n dX0_giveBack_33 rfl ?_
  refine x_iconst dX0_giveBack_34 ?_
  refine x_callV2 (mc1 := 0) (ms1 := 0) dX0_giveBack_35 cv_RX0_123 (ci := 10) (k_ob_1 cs) rfl (Nat.le_of_ble_eq_true rfl) (n1 := n - 1) (by omega) (by omega) (by omega) ?_
  refine sp_X10_write cs (cu_how 2 (cu_purse _ hc) (by omega)) (by rw [upA_o (by omega), upA_o (by omega)]; omega) (by rw [upA_o (by omega), upA_o (by omega)]; omega) (by omega) (by omega) (by rw [upA_o (by omega), upA_o (by omega)]; omega) (fun I35 hI35 hF35 => ?_)
  have e35 : redeemA A q p = wrA (upA (upA A 9 (I 6 4 - p)) (12 + 3 * q.toNat) 2) q 1 := by unfold redeemA; rw [c9]
  rw [e35] at hp
  exact x_return dX0_giveBack_38 rfl (by omega) (by omega) (hp _ (by assumption) (Fw.tr2 (by assumption) ((Fw.rf.u (by omega)).u (by omega))))
theorem dX0_changeHeat_0 : decode prog_2_method_15_code 0 = .ok (.aload_n 0, 1) := by decide +kernel
theorem dX0_changeHeat_1 : decode prog_2_method_15_code 1 = .ok (.getfield 18, 3) := by decide +kernel
theorem dX0_changeHeat_4 : decode prog_2_method_15_code 4 = .ok (.getfield 26, 3) := by decide +kernel
theorem dX0_changeHeat_7 : decode prog_2_method_15_code 7 = .ok (.astore_n 2, 1) := by decide +kernel
theorem dX0_changeHeat_8 : decode prog_2_method_15_code 8 = .ok (.aload_n 2, 1) := by decide +kernel
theorem dX0_changeHeat_9 : decode prog_2_method_15_code 9 = .ok (.getfield 96, 3) := by decide +kernel
theorem dX0_changeHeat_12 : decode prog_2_method_15_code 12 = .ok (.iload_n 1, 1) := by decide +kernel
theorem dX0_changeHeat_13 : decode prog_2_method_15_code 13 = .ok (.iaload, 1) := by decide +kernel
theorem dX0_changeHeat_14 : decode prog_2_method_15_code 14 = .ok (.ifCond .ne 25, 3) := by decide +kernel
theorem dX0_changeHeat_17 : decode prog_2_method_15_code 17 = .ok (.aload_n 2, 1) := by decide +kernel
theorem dX0_changeHeat_18 : decode prog_2_method_15_code 18 = .ok (.getfield 104, 3) := by decide +kernel
theorem dX0_changeHeat_21 : decode prog_2_method_15_code 21 = .ok (.iload_n 1, 1) := by decide +kernel
theorem dX0_changeHeat_22 : decode prog_2_method_15_code 22 = .ok (.bipush 9, 2) := by decide +kernel
theorem dX0_changeHeat_24 : decode prog_2_method_15_code 24 = .ok (.aload_n 2, 1) := by decide +kernel
theorem dX0_changeHeat_25 : decode prog_2_method_15_code 25 = .ok (.getfield 104, 3) := by decide +kernel
theorem dX0_changeHeat_28 : decode prog_2_method_15_code 28 = .ok (.iload_n 1, 1) := by decide +kernel
theorem dX0_changeHeat_29 : decode prog_2_method_15_code 29 = .ok (.iaload, 1) := by decide +kernel
theorem dX0_changeHeat_30 : decode prog_2_method_15_code 30 = .ok (.iconst 1, 1) := by decide +kernel
theorem dX0_changeHeat_31 : decode prog_2_method_15_code 31 = .ok (.iadd, 1) := by decide +kernel
theorem dX0_changeHeat_32 : decode prog_2_method_15_code 32 = .ok (.invokestatic 118, 3) := by decide +kernel
theorem dX0_changeHeat_35 : decode prog_2_method_15_code 35 = .ok (.iastore, 1) := by decide +kernel
theorem dX0_changeHeat_36 : decode prog_2_method_15_code 36 = .ok (.goto 39, 3) := by decide +kernel
theorem dX0_changeHeat_39 : decode prog_2_method_15_code 39 = .ok (.aload_n 2, 1) := by decide +kernel
theorem dX0_changeHeat_40 : decode prog_2_method_15_code 40 = .ok (.getfield 96, 3) := by decide +kernel
theorem dX0_changeHeat_43 : decode prog_2_method_15_code 43 = .ok (.iload_n 1, 1) := by decide +kernel
theorem dX0_changeHeat_44 : decode prog_2_method_15_code 44 = .ok (.iaload, 1) := by decide +kernel
theorem dX0_changeHeat_45 : decode prog_2_method_15_code 45 = .ok (.iconst 1, 1) := by decide +kernel
theorem dX0_changeHeat_46 : decode prog_2_method_15_code 46 = .ok (.if_icmp .ne 29, 3) := by decide +kernel
theorem dX0_changeHeat_49 : decode prog_2_method_15_code 49 = .ok (.aload_n 2, 1) := by decide +kernel
theorem dX0_changeHeat_50 : decode prog_2_method_15_code 50 = .ok (.getfield 132, 3) := by decide +kernel
theorem dX0_changeHeat_53 : decode prog_2_method_15_code 53 = .ok (.iconst 1, 1) := by decide +kernel
theorem dX0_changeHeat_54 : decode prog_2_method_15_code 54 = .ok (.if_icmp .ne 21, 3) := by decide +kernel
theorem dX0_changeHeat_57 : decode prog_2_method_15_code 57 = .ok (.aload_n 2, 1) := by decide +kernel
theorem dX0_changeHeat_58 : decode prog_2_method_15_code 58 = .ok (.getfield 104, 3) := by decide +kernel
theorem dX0_changeHeat_61 : decode prog_2_method_15_code 61 = .ok (.iload_n 1, 1) := by decide +kernel
theorem dX0_changeHeat_62 : decode prog_2_method_15_code 62 = .ok (.iconst 0, 1) := by decide +kernel
theorem dX0_changeHeat_63 : decode prog_2_method_15_code 63 = .ok (.aload_n 2, 1) := by decide +kernel
theorem dX0_changeHeat_64 : decode prog_2_method_15_code 64 = .ok (.getfield 104, 3) := by decide +kernel
theorem dX0_changeHeat_67 : decode prog_2_method_15_code 67 = .ok (.iload_n 1, 1) := by decide +kernel
theorem dX0_changeHeat_68 : decode prog_2_method_15_code 68 = .ok (.iaload, 1) := by decide +kernel
theorem dX0_changeHeat_69 : decode prog_2_method_15_code 69 = .ok (.iconst 1, 1) := by decide +kernel
theorem dX0_changeHeat_70 : decode prog_2_method_15_code 70 = .ok (.isub, 1) := by decide +kernel
theorem dX0_changeHeat_71 : decode prog_2_method_15_code 71 = .ok (.invokestatic 141, 3) := by decide +kernel
theorem dX0_changeHeat_74 : decode prog_2_method_15_code 74 = .ok (.iastore, 1) := by decide +kernel
theorem dX0_changeHeat_75 : decode prog_2_method_15_code 75 = .ok (.return_, 1) := by decide +kernel
theorem sp_X0_changeHeat {q : Int} (cs : CS S R) (hc : ClW I 1 A) (hb : BA A) (hq : 0 ≤ q ∧ q < 8) (hn : 1 ≤ n) (hp : ∀ I', ClW I' 1 (warmA A q) → Fw I I' → Post none S I' R) : Call n 0 0 mX0_changeHeat [.ref (S.2.1 282), .int (iI q)] S I R Post := by
  obtain ⟨⟨⟨c0, c7, c8, c9, c10, c11⟩, cq⟩, ⟨⟨t1, t2, t3, t4, t5, t6, t7, t8, t9⟩, tq, th, tb, ts, td⟩, cb, cp⟩ := id hc
  dsimp only [Nat.reduceAdd] at c0 c7 c8 c9 c10 c11 cq t1 t2 t3 t4 t5 t6 t7 t8 t9 tq th tb ts td
  obtain ⟨⟨b0, b1, b2, b3, b4, bq, bl⟩, ⟨d1, d2, d3, d4, d5, d6, d7⟩, dq, dh, db, ds, dd, dp⟩ := id hb
  have b7 : 0 ≤ A 7 ∧ A 7 ≤ 9999 := b1
  have b8 : 0 ≤ A 8 ∧ A 8 ≤ 30870 := b2
  have b9 : 0 ≤ A 9 ∧ A 9 ≤ 9999 := b3
  have b10 : 0 ≤ A 10 ∧ A 10 ≤ 1 := b4
  have b11 : 0 ≤ A 11 ∧ A 11 ≤ 16 := by have h1 := lns_b (fun q => A (6 + 6 + 3 * q)) (A 0).toNat; have h2 : A 11 = _ := bl; omega
  have w1 := dq q.toNat (by omega)
  have w2 := tq q.toNat (by omega)
  have w3 := cq q.toNat (by omega)
  have w4 := bq q.toNat (by omega)
  rw [show 6 + 6 + 3 * q.toNat = 12 + 3 * q.toNat by omega, show 6 + 7 + 3 * q.toNat = 13 + 3 * q.toNat by omega, show 6 + 8 + 3 * q.toNat = 14 + 3 * q.toNat by omega] at w4
  refine Call.of (by decide +kernel) (Nat.le_of_ble_eq_true rfl) ?_
  show WP _ _ _ _ _ 0 [(0, _), (1, _)] [] 0 0 _ _ _
  refine x_aload_n dX0_changeHeat_0 rfl ?_
  refine x_getR (b := 1) dX0_changeHeat_1 gf_RX0_18 (k_ob_282 cs) (fun _ _ => rfl) (k_r_282_0 cs) ?_
  refine x_getR (b := 6) dX0_changeHeat_4 gf_RX0_26 (k_ob_1 cs) (fun _ _ => rfl) (k_r_1_4 cs) ?_
  refine x_astore_n (lv2 := [(2, _), (0, _), (1, _)]) dX0_changeHeat_7 (by decide) rfl ?_
  refine x_aload_n dX0_changeHeat_8 rfl ?_
  refine x_getR (b := 7) dX0_changeHeat_9 gf_RX0_96 (k_ob_6 cs) (fun _ _ => rfl) (k_r_6_0 cs) ?_
  refine x_iload_n dX0_changeHeat_12 rfl ?_
  refine x_iaload dX0_changeHeat_13 (k_ar_7 cs) (by omega) (by omega) ?_
  refine x_if_ne 39 dX0_changeHeat_14 (by decide) (by omega) (fun w14 => ?_) (fun w14 => ?_)
  · refine x_aload_n dX0_changeHeat_39 rfl ?_
    refine x_getR (b := 7) dX0_changeHeat_40 gf_RX0_96 (k_ob_6 cs) (fun _ _ => rfl) (k_r_6_0 cs) ?_
    refine x_iload_n dX0_changeHeat_43 rfl ?_
    refine x_iaload dX0_changeHeat_44 (k_ar_7 cs) (by omega) (by omega) ?_
    refine x_iconst dX0_changeHeat_45 ?_
    refine x_icmp_ne 75 dX0_changeHeat_46 (by decide) ⟨(by omega), (by omega)⟩ (fun w46 => ?_) (fun w46 => ?_)
    · exact x_return dX0_changeHeat_75 rfl (by omega) (by omega) (by first | (rw [show warmA A q = upA A (14 + 3 * q.toNat) _ from if_pos (by omega)] at hp; exact hp _ (by rw [w3.2.2]; rw [show (if 9 ≤ I 9 q.toNat + 1 then (9 : Int) else I 9 q.toNat + 1) = r32 by split <;> omega]; exact cu_heat _ hc (by omega)) (Fw.rf.u (by omega))) | (rw [show warmA A q = upA A (14 + 3 * q.toNat) _ from (if_neg (by omega)).trans (if_pos (by omega))] at hp; exact hp _ (by rw [w3.2.2]; rw [show (if I 9 q.toNat - 1 ≤ 0 then (0 : Int) else I 9 q.toNat - 1) = r71 by split <;> omega]; exact cu_heat _ hc (by omega)) (Fw.rf.u (by omega))) | (rw [show warmA A q = A from (if_neg (by omega)).trans (if_neg (by omega))] at hp; exact hp _ hc Fw.rf))
    · refine x_aload_n dX0_changeHeat_49 rfl ?_
      refine x_getI dX0_changeHeat_50 gf_RX0_132 (k_ob_6 cs) (fun _ _ => rfl) ?_
      refine x_iconst dX0_changeHeat_53 ?_
      refine x_icmp_ne 75 dX0_changeHeat_54 (by decide) ⟨(by omega), (by omega)⟩ (fun w54 => ?_) (fun w54 => ?_)
      · exact x_return dX0_changeHeat_75 rfl (by omega) (by omega) (by first | (rw [show warmA A q = upA A (14 + 3 * q.toNat) _ from if_pos (by omega)] at hp; exact hp _ (by rw [w3.2.2]; rw [show (if 9 ≤ I 9 q.toNat + 1 then (9 : Int) else I 9 q.toNat + 1) = r32 by split <;> omega]; exact cu_heat _ hc (by omega)) (Fw.rf.u (by omega))) | (rw [show warmA A q = upA A (14 + 3 * q.toNat) _ from (if_neg (by omega)).trans (if_pos (by omega))] at hp; exact hp _ (by rw [w3.2.2]; rw [show (if I 9 q.toNat - 1 ≤ 0 then (0 : Int) else I 9 q.toNat - 1) = r71 by split <;> omega]; exact cu_heat _ hc (by omega)) (Fw.rf.u (by omega))) | (rw [show warmA A q = A from (if_neg (by omega)).trans (if_neg (by omega))] at hp; exact hp _ hc Fw.rf))
      · refine x_aload_n dX0_changeHeat_57 rfl ?_
        refine x_getR (b := 9) dX0_changeHeat_58 gf_RX0_104 (k_ob_6 cs) (fun _ _ => rfl) (k_r_6_2 cs) ?_
        refine x_iload_n dX0_changeHeat_61 rfl ?_
        refine x_iconst dX0_changeHeat_62 ?_
        refine x_aload_n dX0_changeHeat_63 rfl ?_
        refine x_getR (b := 9) dX0_changeHeat_64 gf_RX0_104 (k_ob_6 cs) (fun _ _ => rfl) (k_r_6_2 cs) ?_
        refine x_iload_n dX0_changeHeat_67 rfl ?_
        refine x_iaload dX0_changeHeat_68 (k_ar_9 cs) (by omega) (by omega) ?_
        refine x_iconst dX0_changeHeat_69 ?_
        refine x_isub dX0_changeHeat_70 ?_
        refine x_mmax dX0_changeHeat_71 cv_RX0_141 (by omega) (Nat.le_of_ble_eq_true rfl) (by omega) (by omega) (by omega) (fun r71 hr71 => ?_)
        refine x_iastore dX0_changeHeat_74 (k_ar_9 cs) (by omega) (by omega) ?_
        exact x_return dX0_changeHeat_75 rfl (by omega) (by omega) (by first | (rw [show warmA A q = upA A (14 + 3 * q.toNat) _ from if_pos (by omega)] at hp; exact hp _ (by rw [w3.2.2]; rw [show (if 9 ≤ I 9 q.toNat + 1 then (9 : Int) else I 9 q.toNat + 1) = r32 by split <;> omega]; exact cu_heat _ hc (by omega)) (Fw.rf.u (by omega))) | (rw [show warmA A q = upA A (14 + 3 * q.toNat) _ from (if_neg (by omega)).trans (if_pos (by omega))] at hp; exact hp _ (by rw [w3.2.2]; rw [show (if I 9 q.toNat - 1 ≤ 0 then (0 : Int) else I 9 q.toNat - 1) = r71 by split <;> omega]; exact cu_heat _ hc (by omega)) (Fw.rf.u (by omega))) | (rw [show warmA A q = A from (if_neg (by omega)).trans (if_neg (by omega))] at hp; exact hp _ hc Fw.rf))
  · refine x_aload_n dX0_changeHeat_17 rfl ?_
    refine x_getR (b := 9) dX0_changeHeat_18 gf_RX0_104 (k_ob_6 cs) (fun _ _ => rfl) (k_r_6_2 cs) ?_
    refine x_iload_n dX0_changeHeat_21 rfl ?_
    refine x_bipush dX0_changeHeat_22 (by decide) ?_
    refine x_aload_n dX0_changeHeat_24 rfl ?_
    refine x_getR (b := 9) dX0_changeHeat_25 gf_RX0_104 (k_ob_6 cs) (fun _ _ => rfl) (k_r_6_2 cs) ?_
    refine x_iload_n dX0_changeHeat_28 rfl ?_
    refine x_iaload dX0_changeHeat_29 (k_ar_9 cs) (by omega) (by omega) ?_
    refine x_iconst dX0_changeHeat_30 ?_
    refine x_iadd dX0_changeHeat_31 ?_
    refine x_mmin dX0_changeHeat_32 cv_RX0_118 (by omega) (Nat.le_of_ble_eq_true rfl) (by omega) (by omega) (by omega) (fun r32 hr32 => ?_)
    refine x_iastore dX0_changeHeat_35 (k_ar_9 cs) (by omega) (by omega) ?_
    refine x_goto 75 dX0_changeHeat_36 (by decide) ?_
    exact x_return dX0_changeHeat_75 rfl (by omega) (by omega) (by first | (rw [show warmA A q = upA A (14 + 3 * q.toNat) _ from if_pos (by omega)] at hp; exact hp _ (by rw [w3.2.2]; rw [show (if 9 ≤ I 9 q.toNat + 1 then (9 : Int) else I 9 q.toNat + 1) = r32 by split <;> omega]; exact cu_heat _ hc (by omega)) (Fw.rf.u (by omega))) | (rw [show warmA A q = upA A (14 + 3 * q.toNat) _ from (if_neg (by omega)).trans (if_pos (by omega))] at hp; exact hp _ (by rw [w3.2.2]; rw [show (if I 9 q.toNat - 1 ≤ 0 then (0 : Int) else I 9 q.toNat - 1) = r71 by split <;> omega]; exact cu_heat _ hc (by omega)) (Fw.rf.u (by omega))) | (rw [show warmA A q = A from (if_neg (by omega)).trans (if_neg (by omega))] at hp; exact hp _ hc Fw.rf))
def f_quarrel (A : Nat → Int) (a b w h : Int) : Int × (Nat → Int) := if (0 ≤ a ∧ a < 6 ∧ 0 ≤ b ∧ b < 6 ∧ a ≠ b) ∧ (1 ≤ w ∧ w ≤ 99) ∧ (0 ≤ h ∧ h ≤ 9) ∧ A 0 < 8 then (A 0, upA (upA (upA (upA (upA (upA (upA (upA A (36 + 2 * (A 0).toNat) a) (37 + 2 * (A 0).toNat) b) (52 + (A 0).toNat) w) (60 + (A 0).toNat) h) (12 + 3 * (A 0).toNat) 0) (13 + 3 * (A 0).toNat) 0) (14 + 3 * (A 0).toNat) h) 0 (A 0 + 1)) else (-1, A)
theorem cu_tell {I : CI} {A : Nat → Int} (a b w h : Int) (hc : ClW I 1 A) (h0 : 0 ≤ A 0 ∧ A 0 < 8) : ClW (uI (uI (uI (uI (uI (uI (uI (uI I 2 (I 6 3).toNat a) 3 (I 6 3).toNat b) 4 (I 6 3).toNat w) 5 (I 6 3).toNat h) 7 (I 6 3).toNat 0) 8 (I 6 3).toNat 0) 9 (I 6 3).toNat h) 6 3 (I 6 3 + 1)) 1 (upA (upA (upA (upA (upA (upA (upA (upA A (36 + 2 * (A 0).toNat) a) (37 + 2 * (A 0).toNat) b) (52 + (A 0).toNat) w) (60 + (A 0).toNat) h) (12 + 3 * (A 0).toNat) 0) (13 + 3 * (A 0).toNat) 0) (14 + 3 * (A 0).toNat) h) 0 (A 0 + 1)) := by
  have e : A 0 = I 6 3 := hc.1.1.1
  rw [← e]
  exact cu_quarrels _ (cu_heat _ (cu_since _ (cu_how _ (cu_told _ (cu_worth _ (cu_second _ (cu_first _ hc (by omega)) (by omega)) (by omega)) (by omega)) (by omega)) (by omega)) (by omega))
theorem dX10_tell_0 : decode prog_12_method_3_code 0 = .ok (.aload_n 0, 1) := by decide +kernel
theorem dX10_tell_1 : decode prog_12_method_3_code 1 = .ok (.getfield 27, 3) := by decide +kernel
theorem dX10_tell_4 : decode prog_12_method_3_code 4 = .ok (.getfield 77, 3) := by decide +kernel
theorem dX10_tell_7 : decode prog_12_method_3_code 7 = .ok (.istore 5, 2) := by decide +kernel
theorem dX10_tell_9 : decode prog_12_method_3_code 9 = .ok (.iload_n 1, 1) := by decide +kernel
theorem dX10_tell_10 : decode prog_12_method_3_code 10 = .ok (.iload_n 2, 1) := by decide +kernel
theorem dX10_tell_11 : decode prog_12_method_3_code 11 = .ok (.invokestatic 80, 3) := by decide +kernel
theorem dX10_tell_14 : decode prog_12_method_3_code 14 = .ok (.ifCond .eq 33, 3) := by decide +kernel
theorem dX10_tell_17 : decode prog_12_method_3_code 17 = .ok (.iload_n 3, 1) := by decide +kernel
theorem dX10_tell_18 : decode prog_12_method_3_code 18 = .ok (.iconst 1, 1) := by decide +kernel
theorem dX10_tell_19 : decode prog_12_method_3_code 19 = .ok (.if_icmp .lt 28, 3) := by decide +kernel
theorem dX10_tell_22 : decode prog_12_method_3_code 22 = .ok (.iload_n 3, 1) := by decide +kernel
theorem dX10_tell_23 : decode prog_12_method_3_code 23 = .ok (.bipush 99, 2) := by decide +kernel
theorem dX10_tell_25 : decode prog_12_method_3_code 25 = .ok (.if_icmp .gt 22, 3) := by decide +kernel
theorem dX10_tell_28 : decode prog_12_method_3_code 28 = .ok (.iload 4, 2) := by decide +kernel
theorem dX10_tell_30 : decode prog_12_method_3_code 30 = .ok (.ifCond .lt 17, 3) := by decide +kernel
theorem dX10_tell_33 : decode prog_12_method_3_code 33 = .ok (.iload 4, 2) := by decide +kernel
theorem dX10_tell_35 : decode prog_12_method_3_code 35 = .ok (.bipush 9, 2) := by decide +kernel
theorem dX10_tell_37 : decode prog_12_method_3_code 37 = .ok (.if_icmp .gt 10, 3) := by decide +kernel
theorem dX10_tell_40 : decode prog_12_method_3_code 40 = .ok (.iload 5, 2) := by decide +kernel
theorem dX10_tell_42 : decode prog_12_method_3_code 42 = .ok (.bipush 8, 2) := by decide +kernel
theorem dX10_tell_44 : decode prog_12_method_3_code 44 = .ok (.if_icmp .lt 5, 3) := by decide +kernel
theorem dX10_tell_47 : decode prog_12_method_3_code 47 = .ok (.iconst (-1), 1) := by decide +kernel
theorem dX10_tell_48 : decode prog_12_method_3_code 48 = .ok (.ireturn, 1) := by decide +kernel
theorem dX10_tell_49 : decode prog_12_method_3_code 49 = .ok (.aload_n 0, 1) := by decide +kernel
theorem dX10_tell_50 : decode prog_12_method_3_code 50 = .ok (.getfield 9, 3) := by decide +kernel
theorem dX10_tell_53 : decode prog_12_method_3_code 53 = .ok (.iload 5, 2) := by decide +kernel
theorem dX10_tell_55 : decode prog_12_method_3_code 55 = .ok (.iload_n 1, 1) := by decide +kernel
theorem dX10_tell_56 : decode prog_12_method_3_code 56 = .ok (.iastore, 1) := by decide +kernel
theorem dX10_tell_57 : decode prog_12_method_3_code 57 = .ok (.aload_n 0, 1) := by decide +kernel
theorem dX10_tell_58 : decode prog_12_method_3_code 58 = .ok (.getfield 15, 3) := by decide +kernel
theorem dX10_tell_61 : decode prog_12_method_3_code 61 = .ok (.iload 5, 2) := by decide +kernel
theorem dX10_tell_63 : decode prog_12_method_3_code 63 = .ok (.iload_n 2, 1) := by decide +kernel
theorem dX10_tell_64 : decode prog_12_method_3_code 64 = .ok (.iastore, 1) := by decide +kernel
theorem dX10_tell_65 : decode prog_12_method_3_code 65 = .ok (.aload_n 0, 1) := by decide +kernel
theorem dX10_tell_66 : decode prog_12_method_3_code 66 = .ok (.getfield 18, 3) := by decide +kernel
theorem dX10_tell_69 : decode prog_12_method_3_code 69 = .ok (.iload 5, 2) := by decide +kernel
theorem dX10_tell_71 : decode prog_12_method_3_code 71 = .ok (.iload_n 3, 1) := by decide +kernel
theorem dX10_tell_72 : decode prog_12_method_3_code 72 = .ok (.iastore, 1) := by decide +kernel
theorem dX10_tell_73 : decode prog_12_method_3_code 73 = .ok (.aload_n 0, 1) := by decide +kernel
theorem dX10_tell_74 : decode prog_12_method_3_code 74 = .ok (.getfield 21, 3) := by decide +kernel
theorem dX10_tell_77 : decode prog_12_method_3_code 77 = .ok (.iload 5, 2) := by decide +kernel
theorem dX10_tell_79 : decode prog_12_method_3_code 79 = .ok (.iload 4, 2) := by decide +kernel
theorem dX10_tell_81 : decode prog_12_method_3_code 81 = .ok (.iastore, 1) := by decide +kernel
theorem dX10_tell_82 : decode prog_12_method_3_code 82 = .ok (.aload_n 0, 1) := by decide +kernel
theorem dX10_tell_83 : decode prog_12_method_3_code 83 = .ok (.getfield 27, 3) := by decide +kernel
theorem dX10_tell_86 : decode prog_12_method_3_code 86 = .ok (.iload 5, 2) := by decide +kernel
theorem dX10_tell_88 : decode prog_12_method_3_code 88 = .ok (.iload 4, 2) := by decide +kernel
theorem dX10_tell_90 : decode prog_12_method_3_code 90 = .ok (.invokevirtual 84, 3) := by decide +kernel
theorem dX10_tell_93 : decode prog_12_method_3_code 93 = .ok (.aload_n 0, 1) := by decide +kernel
theorem dX10_tell_94 : decode prog_12_method_3_code 94 = .ok (.getfield 27, 3) := by decide +kernel
theorem dX10_tell_97 : decode prog_12_method_3_code 97 = .ok (.dup, 1) := by decide +kernel
theorem dX10_tell_98 : decode prog_12_method_3_code 98 = .ok (.getfield 77, 3) := by decide +kernel
theorem dX10_tell_101 : decode prog_12_method_3_code 101 = .ok (.iconst 1, 1) := by decide +kernel
theorem dX10_tell_102 : decode prog_12_method_3_code 102 = .ok (.iadd, 1) := by decide +kernel
theorem dX10_tell_103 : decode prog_12_method_3_code 103 = .ok (.putfield 77, 3) := by decide +kernel
theorem dX10_tell_106 : decode prog_12_method_3_code 106 = .ok (.iload 5, 2) := by decide +kernel
theorem dX10_tell_108 : decode prog_12_method_3_code 108 = .ok (.ireturn, 1) := by decide +kernel
theorem sp_X10_tell {a b w t : Int} (cs : CS S R) (hc : ClW I 1 A) (hb : BA A) (ha : Rg a) (hbb : Rg b) (hw : Rg w) (ht : Rg t) (hn : 2 ≤ n) (hp : ∀ I', ClW I' 1 (f_quarrel A a b w t).2 → Fw I I' → Post (some (.int (iI (f_quarrel A a b w t).1))) S I' R) : Call n 0 0 mX10_tell [.ref (S.2.1 1), .int (iI a), .int (iI b), .int (iI w), .int (iI t)] S I R Post := by
  obtain ⟨⟨⟨c0, c7, c8, c9, c10, c11⟩, cq⟩, ⟨⟨t1, t2, t3, t4, t5, t6, t7, t8, t9⟩, tq, th, tb, ts, td⟩, cb, cp⟩ := id hc
  dsimp only [Nat.reduceAdd] at c0 c7 c8 c9 c10 c11 cq t1 t2 t3 t4 t5 t6 t7 t8 t9 tq th tb ts td
  obtain ⟨⟨b0, b1, b2, b3, b4, bq, bl⟩, ⟨d1, d2, d3, d4, d5, d6, d7⟩, dq, dh, db, ds, dd, dp⟩ := id hb
  have b7 : 0 ≤ A 7 ∧ A 7 ≤ 9999 := b1
  have b8 : 0 ≤ A 8 ∧ A 8 ≤ 30870 := b2
  have b9 : 0 ≤ A 9 ∧ A 9 ≤ 9999 := b3
  have b10 : 0 ≤ A 10 ∧ A 10 ≤ 1 := b4
  have b11 : 0 ≤ A 11 ∧ A 11 ≤ 16 := by have h1 := lns_b (fun q => A (6 + 6 + 3 * q)) (A 0).toNat; have h2 : A 11 = _ := bl; omega
  refine Call.of (by decide +kernel) (Nat.le_of_ble_eq_true rfl) ?_
  show WP _ _ _ _ _ 0 [(0, _), (1, _), (2, _), (3, _), (4, _)] [] 0 0 _ _ _
  refine x_aload_n dX10_tell_0 rfl ?_
  refine x_getR (b := 6) dX10_tell_1 gf_RX10_27 (k_ob_1 cs) (fun _ _ => rfl) (k_r_1_4 cs) ?_
  refine x_getI dX10_tell_4 gf_RX10_77 (k_ob_6 cs) (fun _ _ => rfl) ?_
  refine x_istore (lv2 := [(5, _), (0, _), (1, _), (2, _), (3, _), (4, _)]) dX10_tell_7 (by decide) rfl ?_
  refine x_iload_n dX10_tell_9 rfl ?_
  refine x_iload_n dX10_tell_10 rfl ?_
  refine x_callSN2 (mc1 := 0) (ms1 := 0) dX10_tell_11 cv_RX10_80 (Nat.le_of_ble_eq_true rfl) (n1 := n - 1) (by omega) (by omega) (by omega) ?_
  refine sp_X11_areTwo (by omega) (by omega) (by omega) (fun r11 hr11 => ?_)
  refine x_if_eq 47 dX10_tell_14 (by decide) (by omega) (fun w14 => ?_) (fun w14 => ?_)
  · refine x_iconst dX10_tell_47 ?_
    exact x_ireturn dX10_tell_48 rfl (by omega) (by omega) (by first | (rw [show f_quarrel A a b w t = (-1, A) from if_neg (by omega)] at hp; exact hp _ hc Fw.rf) | (rw [show f_quarrel A a b w t = (A 0, _) from if_pos (by omega)] at hp; have hp2 := hp _ (cu_tell a b w t hc (by omega)) ((((((((Fw.rf.u (by omega)).u (by omega)).u (by omega)).u (by omega)).u (by omega)).u (by omega)).u (by omega)).u (by omega)); rw [c0] at hp2; exact hp2))
  · refine x_iload_n dX10_tell_17 rfl ?_
    refine x_iconst dX10_tell_18 ?_
    refine x_icmp_lt 47 dX10_tell_19 (by decide) ⟨(by omega), (by omega)⟩ (fun w19 => ?_) (fun w19 => ?_)
    · refine x_iconst dX10_tell_47 ?_
      exact x_ireturn dX10_tell_48 rfl (by omega) (by omega) (by first | (rw [show f_quarrel A a b w t = (-1, A) from if_neg (by omega)] at hp; exact hp _ hc Fw.rf) | (rw [show f_quarrel A a b w t = (A 0, _) from if_pos (by omega)] at hp; have hp2 := hp _ (cu_tell a b w t hc (by omega)) ((((((((Fw.rf.u (by omega)).u (by omega)).u (by omega)).u (by omega)).u (by omega)).u (by omega)).u (by omega)).u (by omega)); rw [c0] at hp2; exact hp2))
    · refine x_iload_n dX10_tell_22 rfl ?_
      refine x_bipush dX10_tell_23 (by decide) ?_
      refine x_icmp_gt 47 dX10_tell_25 (by decide) ⟨(by omega), (by omega)⟩ (fun w25 => ?_) (fun w25 => ?_)
      · refine x_iconst dX10_tell_47 ?_
        exact x_ireturn dX10_tell_48 rfl (by omega) (by omega) (by first | (rw [show f_quarrel A a b w t = (-1, A) from if_neg (by omega)] at hp; exact hp _ hc Fw.rf) | (rw [show f_quarrel A a b w t = (A 0, _) from if_pos (by omega)] at hp; have hp2 := hp _ (cu_tell a b w t hc (by omega)) ((((((((Fw.rf.u (by omega)).u (by omega)).u (by omega)).u (by omega)).u (by omega)).u (by omega)).u (by omega)).u (by omega)); rw [c0] at hp2; exact hp2))
      · refine x_iload dX10_tell_28 rfl ?_
        refine x_if_lt 47 dX10_tell_30 (by decide) (by omega) (fun w30 => ?_) (fun w30 => ?_)
        · refine x_iconst dX10_tell_47 ?_
          exact x_ireturn dX10_tell_48 rfl (by omega) (by omega) (by first | (rw [show f_quarrel A a b w t = (-1, A) from if_neg (by omega)] at hp; exact hp _ hc Fw.rf) | (rw [show f_quarrel A a b w t = (A 0, _) from if_pos (by omega)] at hp; have hp2 := hp _ (cu_tell a b w t hc (by omega)) ((((((((Fw.rf.u (by omega)).u (by omega)).u (by omega)).u (by omega)).u (by omega)).u (by omega)).u (by omega)).u (by omega)); rw [c0] at hp2; exact hp2))
        · refine x_iload dX10_tell_33 rfl ?_
          refine x_bipush dX10_tell_35 (by decide) ?_
          refine x_icmp_gt 47 dX10_tell_37 (by decide) ⟨(by omega), (by omega)⟩ (fun w37 => ?_) (fun w37 => ?_)
          · refine x_iconst dX10_tell_47 ?_
            exact x_ireturn dX10_tell_48 rfl (by omega) (by omega) (by first | (rw [show f_quarrel A a b w t = (-1, A) from if_neg (by omega)] at hp; exact hp _ hc Fw.rf) | (rw [show f_quarrel A a b w t = (A 0, _) from if_pos (by omega)] at hp; have hp2 := hp _ (cu_tell a b w t hc (by omega)) ((((((((Fw.rf.u (by omega)).u (by omega)).u (by omega)).u (by omega)).u (by omega)).u (by omega)).u (by omega)).u (by omega)); rw [c0] at hp2; exact hp2))
          · refine x_iload dX10_tell_40 rfl ?_
            refine x_bipush dX10_tell_42 (by decide) ?_
            refine x_icmp_lt 49 dX10_tell_44 (by decide) ⟨(by omega), (by omega)⟩ (fun w44 => ?_) (fun w44 => ?_)
            · refine x_aload_n dX10_tell_49 rfl ?_
              refine x_getR (b := 2) dX10_tell_50 gf_RX10_9 (k_ob_1 cs) (fun _ _ => rfl) (k_r_1_0 cs) ?_
              refine x_iload dX10_tell_53 rfl ?_
              refine x_iload_n dX10_tell_55 rfl ?_
              refine x_iastore dX10_tell_56 (k_ar_2 cs) (by omega) (by omega) ?_
              refine x_aload_n dX10_tell_57 rfl ?_
              refine x_getR (b := 3) dX10_tell_58 gf_RX10_15 (k_ob_1 cs) (fun _ _ => rfl) (k_r_1_1 cs) ?_
              refine x_iload dX10_tell_61 rfl ?_
              refine x_iload_n dX10_tell_63 rfl ?_
              refine x_iastore dX10_tell_64 (k_ar_3 cs) (by omega) (by omega) ?_
              refine x_aload_n dX10_tell_65 rfl ?_
              refine x_getR (b := 4) dX10_tell_66 gf_RX10_18 (k_ob_1 cs) (fun _ _ => rfl) (k_r_1_2 cs) ?_
              refine x_iload dX10_tell_69 rfl ?_
              refine x_iload_n dX10_tell_71 rfl ?_
              refine x_iastore dX10_tell_72 (k_ar_4 cs) (by omega) (by omega) ?_
              refine x_aload_n dX10_tell_73 rfl ?_
              refine x_getR (b := 5) dX10_tell_74 gf_RX10_21 (k_ob_1 cs) (fun _ _ => rfl) (k_r_1_3 cs) ?_
              refine x_iload dX10_tell_77 rfl ?_
              refine x_iload dX10_tell_79 rfl ?_
              refine x_iastore dX10_tell_81 (k_ar_5 cs) (by omega) (by omega) ?_
              refine x_aload_n dX10_tell_82 rfl ?_
              refine x_getR (b := 6) dX10_tell_83 gf_RX10_27 (k_ob_1 cs) (fun _ _ => rfl) (k_r_1_4 cs) ?_
              refine x_iload dX10_tell_86 rfl ?_
              refine x_iload dX10_tell_88 rfl ?_
              refine x_callV2 (mc1 := 0) (ms1 := 0) dX10_tell_90 cv_RX10_84 (ci := 6) (k_ob_6 cs) rfl (Nat.le_of_ble_eq_true rfl) (n1 := n - 1) (by omega) (by omega) (by omega) ?_
              refine sp_X6_goOn (k_st_6 cs) (by omega) ?_
              refine x_aload_n dX10_tell_93 rfl ?_
              refine x_getR (b := 6) dX10_tell_94 gf_RX10_27 (k_ob_1 cs) (fun _ _ => rfl) (k_r_1_4 cs) ?_
              refine x_dup dX10_tell_97 rfl ?_
              refine x_getIv (z := I 6 3) dX10_tell_98 gf_RX10_77 (k_ob_6 cs) (fun _ _ => rfl) (by (repeat first | rw [uI_s] | rw [uI_o (by omega)]); try rfl) ?_
              refine x_iconst dX10_tell_101 ?_
              refine x_iadd dX10_tell_102 ?_
              refine x_putI dX10_tell_103 gf_RX10_77 (k_ob_6 cs) rfl ?_
              refine x_iload dX10_tell_106 rfl ?_
              exact x_ireturn dX10_tell_108 rfl (by omega) (by omega) (by first | (rw [show f_quarrel A a b w t = (-1, A) from if_neg (by omega)] at hp; exact hp _ hc Fw.rf) | (rw [show f_quarrel A a b w t = (A 0, _) from if_pos (by omega)] at hp; have hp2 := hp _ (cu_tell a b w t hc (by omega)) ((((((((Fw.rf.u (by omega)).u (by omega)).u (by omega)).u (by omega)).u (by omega)).u (by omega)).u (by omega)).u (by omega)); rw [c0] at hp2; exact hp2))
            · refine x_iconst dX10_tell_47 ?_
              exact x_ireturn dX10_tell_48 rfl (by omega) (by omega) (by first | (rw [show f_quarrel A a b w t = (-1, A) from if_neg (by omega)] at hp; exact hp _ hc Fw.rf) | (rw [show f_quarrel A a b w t = (A 0, _) from if_pos (by omega)] at hp; have hp2 := hp _ (cu_tell a b w t hc (by omega)) ((((((((Fw.rf.u (by omega)).u (by omega)).u (by omega)).u (by omega)).u (by omega)).u (by omega)).u (by omega)).u (by omega)); rw [c0] at hp2; exact hp2))
theorem dX11_quarrel_0 : decode prog_1_method_2_code 0 = .ok (.aload_n 0, 1) := by decide +kernel
theorem dX11_quarrel_1 : decode prog_1_method_2_code 1 = .ok (.getfield 10, 3) := by decide +kernel
theorem dX11_quarrel_4 : decode prog_1_method_2_code 4 = .ok (.iload_n 1, 1) := by decide +kernel
theorem dX11_quarrel_5 : decode prog_1_method_2_code 5 = .ok (.iload_n 2, 1) := by decide +kernel
theorem dX11_quarrel_6 : decode prog_1_method_2_code 6 = .ok (.iload_n 3, 1) := by decide +kernel
theorem dX11_quarrel_7 : decode prog_1_method_2_code 7 = .ok (.iload 4, 2) := by decide +kernel
theorem dX11_quarrel_9 : decode prog_1_method_2_code 9 = .ok (.invokevirtual 81, 3) := by decide +kernel
theorem dX11_quarrel_12 : decode prog_1_method_2_code 12 = .ok (.ireturn, 1) := by decide +kernel
theorem sp_X11_quarrel {a b w t : Int} (cs : CS S R) (hc : ClW I 1 A) (hb : BA A) (ha : Rg a) (hbb : Rg b) (hw : Rg w) (ht : Rg t) (hn : 3 ≤ n) (hp : ∀ I', ClW I' 1 (f_quarrel A a b w t).2 → Fw I I' → Post (some (.int (iI (f_quarrel A a b w t).1))) S I' R) : Call n 0 0 mX11_quarrel [.ref (S.2.1 0), .int (iI a), .int (iI b), .int (iI w), .int (iI t)] S I R Post := by
  refine Call.of (by decide +kernel) (Nat.le_of_ble_eq_true rfl) ?_
  show WP _ _ _ _ _ 0 [(0, _), (1, _), (2, _), (3, _), (4, _)] [] 0 0 _ _ _
  refine x_aload_n dX11_quarrel_0 rfl ?_
  refine x_getR (b := 1) dX11_quarrel_1 gf_RX11_10 (k_ob_0 cs) (fun _ _ => rfl) (k_r_0_0 cs) ?_
  refine x_iload_n dX11_quarrel_4 rfl ?_
  refine x_iload_n dX11_quarrel_5 rfl ?_
  refine x_iload_n dX11_quarrel_6 rfl ?_
  refine x_iload dX11_quarrel_7 rfl ?_
  refine x_callV4 (mc1 := 0) (ms1 := 0) dX11_quarrel_9 cv_RX11_81 (ci := 10) (k_ob_1 cs) rfl (Nat.le_of_ble_eq_true rfl) (n1 := n - 1) (by omega) (by omega) (by omega) ?_
  refine sp_X10_tell cs (by assumption) (by assumption) (by omega) (by omega) (by omega) (by omega) (by omega) (fun I9 hI9 hF9 => ?_)
  exact x_ireturn dX11_quarrel_12 rfl (by omega) (by omega) (by apply hp <;> assumption)
end Cls3
