section Cls6
variable {n : Nat} {Post : PT} {S : Sh} {I : CI} {R : CR} {A : Nat → Int} {tx : Nat → Nat → Int}
/-- all that holds of the class's cells between two calls, but the reader -/
def CIv (S : Sh) (R : CR) (I : CI) (A : Nat → Int) (tx : Nat → Nat → Int) : Prop := ClW I 1 A ∧ BA A ∧ WTx S R I A tx ∧ SK I
def Fc (I I' : CI) : Prop := ∀ c, (c = 0 ∨ 140 ≤ c) → c ≠ 280 → c ≠ 281 → I' c = I c
theorem Fc.rf {I : CI} : Fc I I := fun _ _ _ _ => rfl
theorem Fl.c {I I' : CI} (h : Fl I I') : Fc I I' := fun c _ h1 h2 => h c h1 h2
theorem Fw.c {I I' : CI} (h : Fw I I') : Fc I I' := fun c h0 _ _ => h c h0
theorem Fc.tr {I I' I'' : CI} (h : Fc I I') (h2 : Fc I' I'') : Fc I I'' := fun c h0 h1 h3 => (h2 c h0 h1 h3).trans (h c h0 h1 h3)
theorem CIv.l {I I' : CI} (h : CIv S R I A tx) (hF : Fl I I') (hS : SK I') : CIv S R I' A tx := ⟨hF.W h.1, h.2.1, hF.X h.2.2.1, hS⟩
theorem WTx_A {B : Nat → Int} (h1 : B 1 = A 1) (hw : WTx S R I A tx) : WTx S R I B tx := fun t ht => hw t (by rw [← h1]; exact ht)
theorem CIv.w {I I' : CI} {B : Nat → Int} (h : CIv S R I A tx) (hF : Fw I I') (hc : ClW I' 1 B) (hb : BA B) (h1 : B 1 = A 1) : CIv S R I' B tx := ⟨hc, hb, WTx_fr (fun c h => hF c (by omega)) (WTx_A h1 h.2.2.1), by unfold SK; rw [hF 281 (by omega)]; exact h.2.2.2⟩
def priceP (A : Nat → Int) (tx : Nat → Nat → Int) (q : Int) : Int := if 0 ≤ q ∧ q < A 0 ∧ A (12 + 3 * q.toNat) = 1 ∧ duesP A tx (A 2) q.toNat 0 (A 9) ≤ A 9 then duesP A tx (A 2) q.toNat 0 (A 9) else -1
theorem duesP_b (A : Nat → Int) (tx : Nat → Nat → Int) (t : Int) (q : Nat) (l p : Int) : 0 ≤ duesP A tx t q l p ∧ duesP A tx t q l p ≤ 9999 := by unfold duesP clampI; split <;> first | omega | (split <;> omega)
def f_redeem (A : Nat → Int) (tx : Nat → Nat → Int) (q : Int) : Int × (Nat → Int) := if priceP A tx q = -1 then (-1, A) else (priceP A tx q, redeemA (keepA A) q (priceP A tx q))
theorem dX0_priceNow_0 : decode prog_2_method_11_code 0 = .ok (.aload_n 0, 1) := by decide +kernel
theorem dX0_priceNow_1 : decode prog_2_method_11_code 1 = .ok (.getfield 18, 3) := by decide +kernel
theorem dX0_priceNow_4 : decode prog_2_method_11_code 4 = .ok (.getfield 26, 3) := by decide +kernel
theorem dX0_priceNow_7 : decode prog_2_method_11_code 7 = .ok (.astore_n 2, 1) := by decide +kernel
theorem dX0_priceNow_8 : decode prog_2_method_11_code 8 = .ok (.aload_n 2, 1) := by decide +kernel
theorem dX0_priceNow_9 : decode prog_2_method_11_code 9 = .ok (.iload_n 1, 1) := by decide +kernel
theorem dX0_priceNow_10 : decode prog_2_method_11_code 10 = .ok (.iconst 1, 1) := by decide +kernel
theorem dX0_priceNow_11 : decode prog_2_method_11_code 11 = .ok (.invokevirtual 31, 3) := by decide +kernel
theorem dX0_priceNow_14 : decode prog_2_method_11_code 14 = .ok (.ifCond .ne 5, 3) := by decide +kernel
theorem dX0_priceNow_17 : decode prog_2_method_11_code 17 = .ok (.iconst (-1), 1) := by decide +kernel
theorem dX0_priceNow_18 : decode prog_2_method_11_code 18 = .ok (.ireturn, 1) := by decide +kernel
theorem dX0_priceNow_19 : decode prog_2_method_11_code 19 = .ok (.aload_n 0, 1) := by decide +kernel
theorem dX0_priceNow_20 : decode prog_2_method_11_code 20 = .ok (.getfield 22, 3) := by decide +kernel
theorem dX0_priceNow_23 : decode prog_2_method_11_code 23 = .ok (.aload_n 0, 1) := by decide +kernel
theorem dX0_priceNow_24 : decode prog_2_method_11_code 24 = .ok (.getfield 18, 3) := by decide +kernel
theorem dX0_priceNow_27 : decode prog_2_method_11_code 27 = .ok (.getfield 126, 3) := by decide +kernel
theorem dX0_priceNow_30 : decode prog_2_method_11_code 30 = .ok (.iload_n 1, 1) := by decide +kernel
theorem dX0_priceNow_31 : decode prog_2_method_11_code 31 = .ok (.iconst 0, 1) := by decide +kernel
theorem dX0_priceNow_32 : decode prog_2_method_11_code 32 = .ok (.aload_n 2, 1) := by decide +kernel
theorem dX0_priceNow_33 : decode prog_2_method_11_code 33 = .ok (.getfield 54, 3) := by decide +kernel
theorem dX0_priceNow_36 : decode prog_2_method_11_code 36 = .ok (.invokevirtual 129, 3) := by decide +kernel
theorem dX0_priceNow_39 : decode prog_2_method_11_code 39 = .ok (.istore_n 3, 1) := by decide +kernel
theorem dX0_priceNow_40 : decode prog_2_method_11_code 40 = .ok (.iload_n 3, 1) := by decide +kernel
theorem dX0_priceNow_41 : decode prog_2_method_11_code 41 = .ok (.aload_n 2, 1) := by decide +kernel
theorem dX0_priceNow_42 : decode prog_2_method_11_code 42 = .ok (.getfield 54, 3) := by decide +kernel
theorem dX0_priceNow_45 : decode prog_2_method_11_code 45 = .ok (.if_icmp .gt 7, 3) := by decide +kernel
theorem dX0_priceNow_48 : decode prog_2_method_11_code 48 = .ok (.iload_n 3, 1) := by decide +kernel
theorem dX0_priceNow_49 : decode prog_2_method_11_code 49 = .ok (.goto 4, 3) := by decide +kernel
theorem dX0_priceNow_52 : decode prog_2_method_11_code 52 = .ok (.iconst (-1), 1) := by decide +kernel
theorem dX0_priceNow_53 : decode prog_2_method_11_code 53 = .ok (.ireturn, 1) := by decide +kernel
theorem sp_X0_priceNow {q : Int} (cs : CS S R) (hv : CIv S R I A tx) (hq : Rg q) (hn : 4 ≤ n) (hp : ∀ I', Fl I I' → SK I' → Post (some (.int (iI (priceP A tx q)))) S I' R) : Call n 0 0 mX0_priceNow [.ref (S.2.1 282), .int (iI q)] S I R Post := by
  obtain ⟨hc, hb, hw, hk⟩ := id hv
  obtain ⟨⟨⟨c0, c7, c8, c9, c10, c11⟩, cq⟩, ⟨⟨t1, t2, t3, t4, t5, t6, t7, t8, t9⟩, tq, th, tb, ts, td⟩, cb, cp⟩ := id hc
  dsimp only [Nat.reduceAdd] at c0 c7 c8 c9 c10 c11 cq t1 t2 t3 t4 t5 t6 t7 t8 t9 tq th tb ts td
  obtain ⟨⟨b0, b1, b2, b3, b4, bq, bl⟩, ⟨d1, d2, d3, d4, d5, d6, d7⟩, dq, dh, db, ds, dd, dp⟩ := id hb
  have b7 : 0 ≤ A 7 ∧ A 7 ≤ 9999 := b1
  have b8 : 0 ≤ A 8 ∧ A 8 ≤ 30870 := b2
  have b9 : 0 ≤ A 9 ∧ A 9 ≤ 9999 := b3
  have b10 : 0 ≤ A 10 ∧ A 10 ≤ 1 := b4
  have b11 : 0 ≤ A 11 ∧ A 11 ≤ 16 := by have h1 := lns_b (fun q => A (6 + 6 + 3 * q)) (A 0).toNat; have h2 : A 11 = _ := bl; omega
  have hsb : SB I 6 := SB_now hc hb
  have hx : 0 ≤ q ∧ q < A 0 → A (12 + 3 * q.toNat) = I 7 q.toNat := fun h => (cq q.toNat (by omega)).1
  have db2 := duesP_b A tx (A 2) q.toNat 0 (A 9)
  refine Call.of (by decide +kernel) (Nat.le_of_ble_eq_true rfl) ?_
  show WP _ _ _ _ _ 0 [(0, _), (1, _)] [] 0 0 _ _ _
  refine x_aload_n dX0_priceNow_0 rfl ?_
  refine x_getR (b := 1) dX0_priceNow_1 gf_RX0_18 (k_ob_282 cs) (fun _ _ => rfl) (k_r_282_0 cs) ?_
  refine x_getR (b := 6) dX0_priceNow_4 gf_RX0_26 (k_ob_1 cs) (fun _ _ => rfl) (k_r_1_4 cs) ?_
  refine x_astore_n (lv2 := [(2, _), (0, _), (1, _)]) dX0_priceNow_7 (by decide) rfl ?_
  refine x_aload_n dX0_priceNow_8 rfl ?_
  refine x_iload_n dX0_priceNow_9 rfl ?_
  refine x_iconst dX0_priceNow_10 ?_
  refine x_callV2 (mc1 := 0) (ms1 := 0) dX0_priceNow_11 cv_RX0_31 (ci := 6) (k_ob_6 cs) rfl (Nat.le_of_ble_eq_true rfl) (n1 := n - 1) (by omega) (by omega) (by omega) ?_
  refine sp_X6_isHow (k_st_6 cs) (by omega) (by omega) (by assumption) (by omega) (fun r11 hr11 => ?_)
  dsimp only [Nat.reduceAdd] at hr11
  refine x_if_ne 19 dX0_priceNow_14 (by decide) (by omega) (fun w14 => ?_) (fun w14 => ?_)
  · refine x_aload_n dX0_priceNow_19 rfl ?_
    refine x_getR (b := 279) dX0_priceNow_20 gf_RX0_22 (k_ob_282 cs) (fun _ _ => rfl) (k_r_282_1 cs) ?_
    refine x_aload_n dX0_priceNow_23 rfl ?_
    refine x_getR (b := 1) dX0_priceNow_24 gf_RX0_18 (k_ob_282 cs) (fun _ _ => rfl) (k_r_282_0 cs) ?_
    refine x_getI dX0_priceNow_27 gf_RX0_126 (k_ob_1 cs) (fun _ _ => rfl) ?_
    refine x_iload_n dX0_priceNow_30 rfl ?_
    refine x_iconst dX0_priceNow_31 ?_
    refine x_aload_n dX0_priceNow_32 rfl ?_
    refine x_getI dX0_priceNow_33 gf_RX0_54 (k_ob_6 cs) (fun _ _ => rfl) ?_
    refine x_callV4 (mc1 := 0) (ms1 := 0) dX0_priceNow_36 cv_RX0_129 (ci := 3) (k_ob_279 cs) rfl (Nat.le_of_ble_eq_true rfl) (n1 := n - 1) (by omega) (by omega) (by omega) ?_
    refine sp_X3_duesBy cs hc hb hw hk (by omega) (by omega) (by omega) (by omega) (by omega) (fun I36 hF36 hS36 => ?_)
    rw [← t2, ← c9]
    refine x_istore_n (lv2 := [(3, _), (2, _), (0, _), (1, _)]) dX0_priceNow_39 (by decide) rfl ?_
    refine x_iload_n dX0_priceNow_40 rfl ?_
    refine x_aload_n dX0_priceNow_41 rfl ?_
    refine x_getIv (z := A 9) dX0_priceNow_42 gf_RX0_54 (k_ob_6 cs) (fun _ _ => rfl) (by rw [hF36 6 (by omega) (by omega)]; exact c9.symm) ?_
    refine x_icmp_gt 52 dX0_priceNow_45 (by decide) ⟨(by omega), (by omega)⟩ (fun w45 => ?_) (fun w45 => ?_)
    · refine x_iconst dX0_priceNow_52 ?_
      exact x_ireturn dX0_priceNow_53 rfl (by omega) (by omega) (by first | (rw [show priceP A tx q = duesP A tx (A 2) q.toNat 0 (A 9) from if_pos (by omega)] at hp; exact hp _ hF36 hS36) | (rw [show priceP A tx q = -1 from if_neg (by omega)] at hp; first | exact hp _ hF36 hS36 | exact hp _ Fl.rf hk))
    · refine x_iload_n dX0_priceNow_48 rfl ?_
      refine x_goto 53 dX0_priceNow_49 (by decide) ?_
      exact x_ireturn dX0_priceNow_53 rfl (by omega) (by omega) (by first | (rw [show priceP A tx q = duesP A tx (A 2) q.toNat 0 (A 9) from if_pos (by omega)] at hp; exact hp _ hF36 hS36) | (rw [show priceP A tx q = -1 from if_neg (by omega)] at hp; first | exact hp _ hF36 hS36 | exact hp _ Fl.rf hk))
  · refine x_iconst dX0_priceNow_17 ?_
    exact x_ireturn dX0_priceNow_18 rfl (by omega) (by omega) (by first | (rw [show priceP A tx q = duesP A tx (A 2) q.toNat 0 (A 9) from if_pos (by omega)] at hp; exact hp _ hF36 hS36) | (rw [show priceP A tx q = -1 from if_neg (by omega)] at hp; first | exact hp _ hF36 hS36 | exact hp _ Fl.rf hk))
theorem priceP_b {q : Int} (h : priceP A tx q ≠ -1) : (0 ≤ q ∧ q < A 0) ∧ A (12 + 3 * q.toNat) = 1 ∧ 0 ≤ priceP A tx q ∧ priceP A tx q ≤ A 9 := by
  have db2 := duesP_b A tx (A 2) q.toNat 0 (A 9)
  unfold priceP at h ⊢
  split
  · rename_i hh; exact ⟨⟨hh.1, hh.2.1⟩, hh.2.2.1, db2.1, hh.2.2.2⟩
  · rename_i hh; rw [if_neg hh] at h; exact absurd rfl h
theorem priceP_r (q : Int) : -1 ≤ priceP A tx q ∧ priceP A tx q ≤ 9999 := by
  have db2 := duesP_b A tx (A 2) q.toNat 0 (A 9)
  unfold priceP; split <;> omega
theorem dX0_redeemByHand_0 : decode prog_2_method_3_code 0 = .ok (.aload_n 0, 1) := by decide +kernel
theorem dX0_redeemByHand_1 : decode prog_2_method_3_code 1 = .ok (.iload_n 1, 1) := by decide +kernel
theorem dX0_redeemByHand_2 : decode prog_2_method_3_code 2 = .ok (.invokevirtual 42, 3) := by decide +kernel
theorem dX0_redeemByHand_5 : decode prog_2_method_3_code 5 = .ok (.istore_n 2, 1) := by decide +kernel
theorem dX0_redeemByHand_6 : decode prog_2_method_3_code 6 = .ok (.iload_n 2, 1) := by decide +kernel
theorem dX0_redeemByHand_7 : decode prog_2_method_3_code 7 = .ok (.iconst (-1), 1) := by decide +kernel
theorem dX0_redeemByHand_8 : decode prog_2_method_3_code 8 = .ok (.if_icmp .eq 16, 3) := by decide +kernel
theorem dX0_redeemByHand_11 : decode prog_2_method_3_code 11 = .ok (.aload_n 0, 1) := by decide +kernel
theorem dX0_redeemByHand_12 : decode prog_2_method_3_code 12 = .ok (.getfield 18, 3) := by decide +kernel
theorem dX0_redeemByHand_15 : decode prog_2_method_3_code 15 = .ok (.invokevirtual 35, 3) := by decide +kernel
theorem dX0_redeemByHand_18 : decode prog_2_method_3_code 18 = .ok (.aload_n 0, 1) := by decide +kernel
theorem dX0_redeemByHand_19 : decode prog_2_method_3_code 19 = .ok (.iload_n 1, 1) := by decide +kernel
theorem dX0_redeemByHand_20 : decode prog_2_method_3_code 20 = .ok (.iload_n 2, 1) := by decide +kernel
theorem dX0_redeemByHand_21 : decode prog_2_method_3_code 21 = .ok (.invokevirtual 46, 3) := by decide +kernel
theorem dX0_redeemByHand_24 : decode prog_2_method_3_code 24 = .ok (.iload_n 2, 1) := by decide +kernel
theorem dX0_redeemByHand_25 : decode prog_2_method_3_code 25 = .ok (.ireturn, 1) := by decide +kernel
theorem sp_X0_redeemByHand {q : Int} (cs : CS S R) (hv : CIv S R I A tx) (hq : Rg q) (hn : 5 ≤ n) (hp : ∀ I', CIv S R I' (f_redeem A tx q).2 tx → Fc I I' → Post (some (.int (iI (f_redeem A tx q).1))) S I' R) : Call n 0 0 mX0_redeemByHand [.ref (S.2.1 282), .int (iI q)] S I R Post := by
  obtain ⟨hc, hb, hw, hk⟩ := id hv
  obtain ⟨⟨⟨c0, c7, c8, c9, c10, c11⟩, cq⟩, ⟨⟨t1, t2, t3, t4, t5, t6, t7, t8, t9⟩, tq, th, tb, ts, td⟩, cb, cp⟩ := id hc
  dsimp only [Nat.reduceAdd] at c0 c7 c8 c9 c10 c11 cq t1 t2 t3 t4 t5 t6 t7 t8 t9 tq th tb ts td
  obtain ⟨⟨b0, b1, b2, b3, b4, bq, bl⟩, ⟨d1, d2, d3, d4, d5, d6, d7⟩, dq, dh, db, ds, dd, dp⟩ := id hb
  have b7 : 0 ≤ A 7 ∧ A 7 ≤ 9999 := b1
  have b8 : 0 ≤ A 8 ∧ A 8 ≤ 30870 := b2
  have b9 : 0 ≤ A 9 ∧ A 9 ≤ 9999 := b3
  have b10 : 0 ≤ A 10 ∧ A 10 ≤ 1 := b4
  have b11 : 0 ≤ A 11 ∧ A 11 ≤ 16 := by have h1 := lns_b (fun q => A (6 + 6 + 3 * q)) (A 0).toNat; have h2 : A 11 = _ := bl; omega
  have pr := priceP_r (A := A) (tx := tx) q
  refine Call.of (by decide +kernel) (Nat.le_of_ble_eq_true rfl) ?_
  show WP _ _ _ _ _ 0 [(0, _), (1, _)] [] 0 0 _ _ _
  refine x_aload_n dX0_redeemByHand_0 rfl ?_
  refine x_iload_n dX0_redeemByHand_1 rfl ?_
  refine x_callV1 (mc1 := 0) (ms1 := 0) dX0_redeemByHand_2 cv_RX0_42 (ci := 0) (k_ob_282 cs) rfl (Nat.le_of_ble_eq_true rfl) (n1 := n - 1) (by omega) (by omega) (by omega) ?_
  refine sp_X0_priceNow cs hv (by omega) (by omega) (fun I2 hF2 hS2 => ?_)
  refine x_istore_n (lv2 := [(2, _), (0, _), (1, _)]) dX0_redeemByHand_5 (by decide) rfl ?_
  refine x_iload_n dX0_redeemByHand_6 rfl ?_
  refine x_iconst dX0_redeemByHand_7 ?_
  refine x_icmp_eq 24 dX0_redeemByHand_8 (by decide) ⟨(by omega), (by omega)⟩ (fun w8 => ?_) (fun w8 => ?_)
  · refine x_iload_n dX0_redeemByHand_24 rfl ?_
    exact x_ireturn dX0_redeemByHand_25 rfl (by omega) (by omega) (by first | (rw [show f_redeem A tx q = (-1, A) from if_pos (by omega)] at hp; rw [show priceP A tx q = -1 by omega]; exact hp _ (hv.l hF2 hS2) hF2.c) | (rw [show f_redeem A tx q = (priceP A tx q, redeemA (keepA A) q (priceP A tx q)) from if_neg (by omega)] at hp; exact hp _ ((hv.l hF2 hS2).w (hF15.tr hF21) hI21 (BA_redeem (BA_keep hb) (by rw [kl 0 (by decide) (by decide)]; exact pb.1) (by rw [kl _ (by omega) (by omega)]; exact pb.2.1) (by rw [kl 9 (by decide) (by decide)]; exact pb.2.2)) (by show redeemA (keepA A) q (priceP A tx q) 1 = A 1; unfold redeemA wrA; rw [upA_o (by omega), upA_o (by omega), upA_o (by omega), upA_o (by omega), upA_o (by omega), kl 1 (by decide) (by decide)])) (hF2.c.tr (hF15.tr hF21).c)))
  · have pb := priceP_b (A := A) (tx := tx) (q := q) (by omega)
    have kl : ∀ i : Nat, i ≠ 3 → i < 115 → keepA A i = A i := fun i h1 h2 => kp_lo h1 (Or.inl h2)
    refine x_aload_n dX0_redeemByHand_11 rfl ?_
    refine x_getR (b := 1) dX0_redeemByHand_12 gf_RX0_18 (k_ob_282 cs) (fun _ _ => rfl) (k_r_282_0 cs) ?_
    refine x_callV0 (mc1 := 0) (ms1 := 0) dX0_redeemByHand_15 cv_RX0_35 (ci := 10) (k_ob_1 cs) rfl (Nat.le_of_ble_eq_true rfl) (n1 := n - 1) (by omega) (by omega) (by omega) ?_
    refine sp_X10_keepStep cs (Fl.W hF2 hc) hb (by omega) (fun I15 hI15 hF15 => ?_)
    refine x_aload_n dX0_redeemByHand_18 rfl ?_
    refine x_iload_n dX0_redeemByHand_19 rfl ?_
    refine x_iload_n dX0_redeemByHand_20 rfl ?_
    refine x_callV2 (mc1 := 0) (ms1 := 0) dX0_redeemByHand_21 cv_RX0_46 (ci := 0) (k_ob_282 cs) rfl (Nat.le_of_ble_eq_true rfl) (n1 := n - 1) (by omega) (by omega) (by omega) ?_
    refine sp_X0_giveBack cs hI15 (BA_keep hb) (by omega) (by rw [kl 9 (by decide) (by decide)]; omega) (by omega) (fun I21 hI21 hF21 => ?_)
    refine x_iload_n dX0_redeemByHand_24 rfl ?_
    exact x_ireturn dX0_redeemByHand_25 rfl (by omega) (by omega) (by first | (rw [show f_redeem A tx q = (-1, A) from if_pos (by omega)] at hp; rw [show priceP A tx q = -1 by omega]; exact hp _ (hv.l hF2 hS2) hF2.c) | (rw [show f_redeem A tx q = (priceP A tx q, redeemA (keepA A) q (priceP A tx q)) from if_neg (by omega)] at hp; exact hp _ ((hv.l hF2 hS2).w (hF15.tr hF21) hI21 (BA_redeem (BA_keep hb) (by rw [kl 0 (by decide) (by decide)]; exact pb.1) (by rw [kl _ (by omega) (by omega)]; exact pb.2.1) (by rw [kl 9 (by decide) (by decide)]; exact pb.2.2)) (by show redeemA (keepA A) q (priceP A tx q) 1 = A 1; unfold redeemA wrA; rw [upA_o (by omega), upA_o (by omega), upA_o (by omega), upA_o (by omega), upA_o (by omega), kl 1 (by decide) (by decide)])) (hF2.c.tr (hF15.tr hF21).c)))
theorem dX11_redeem_0 : decode prog_1_method_9_code 0 = .ok (.aload_n 0, 1) := by decide +kernel
theorem dX11_redeem_1 : decode prog_1_method_9_code 1 = .ok (.getfield 33, 3) := by decide +kernel
theorem dX11_redeem_4 : decode prog_1_method_9_code 4 = .ok (.iload_n 1, 1) := by decide +kernel
theorem dX11_redeem_5 : decode prog_1_method_9_code 5 = .ok (.invokevirtual 120, 3) := by decide +kernel
theorem dX11_redeem_8 : decode prog_1_method_9_code 8 = .ok (.ireturn, 1) := by decide +kernel
theorem sp_X11_redeem {q : Int} (cs : CS S R) (hv : CIv S R I A tx) (hq : Rg q) (hn : 6 ≤ n) (hp : ∀ I', CIv S R I' (f_redeem A tx q).2 tx → Fc I I' → Post (some (.int (iI (f_redeem A tx q).1))) S I' R) : Call n 0 0 mX11_redeem [.ref (S.2.1 0), .int (iI q)] S I R Post := by
  refine Call.of (by decide +kernel) (Nat.le_of_ble_eq_true rfl) ?_
  show WP _ _ _ _ _ 0 [(0, _), (1, _)] [] 0 0 _ _ _
  refine x_aload_n dX11_redeem_0 rfl ?_
  refine x_getR (b := 282) dX11_redeem_1 gf_RX11_33 (k_ob_0 cs) (fun _ _ => rfl) (k_r_0_3 cs) ?_
  refine x_iload_n dX11_redeem_4 rfl ?_
  refine x_callV1 (mc1 := 0) (ms1 := 0) dX11_redeem_5 cv_RX11_120 (ci := 0) (k_ob_282 cs) rfl (Nat.le_of_ble_eq_true rfl) (n1 := n - 1) (by omega) (by omega) (by omega) ?_
  refine sp_X0_redeemByHand cs hv (by omega) (by omega) (fun I5 hI5 hF5 => ?_)
  exact x_ireturn dX11_redeem_8 rfl (by omega) (by omega) (hp _ hI5 hF5)
def anx (x : Int) : Int := (x * 619 + 493) % 30871
def saleA (A : Nat → Int) (tx : Nat → Nat → Int) : Nat → (Nat → Int) × Int
  | 0 => (A, 0)
  | k + 1 =>
    let p := saleA A tx k
    if p.1 (12 + 3 * k) = 1 ∧ 0 < sellsP p.1 tx k then (wrA (upA p.1 (12 + 3 * k) 3) k 2, p.2 + 1) else p
theorem saleA_k {B : Nat → Int} (hb : BA B) : ∀ k : Nat, (k : Int) ≤ B 0 → BA (saleA B tx k).1 ∧ (∀ i : Nat, i < 11 → (saleA B tx k).1 i = B i) ∧ 0 ≤ (saleA B tx k).2 ∧ (saleA B tx k).2 ≤ k := by
  intro k
  induction k with
  | zero => intro _; exact ⟨hb, fun _ _ => rfl, Int.le_refl _, Int.le_refl _⟩
  | succ k ih =>
    intro hk
    obtain ⟨i1, i2, i3, i4⟩ := ih (by omega)
    simp only [saleA]
    split
    · rename_i h
      refine ⟨BA_sale i1 (by rw [i2 0 (by omega)]; omega) h.1, fun i hi => ?_, by show 0 ≤ _ + (1 : Int); omega, by show _ + (1 : Int) ≤ _; omega⟩
      show wrA _ _ _ i = _
      unfold wrA
      rw [upA_o (by omega), upA_o (by omega), upA_o (by omega), upA_o (by omega)]
      exact i2 i hi
    · exact ⟨i1, i2, i3, by omega⟩
def heatD (B : Nat → Int) : Nat → Int := if 0 < B 0 then warmA (upA B 8 (anx (B 8))) (B 8 % B 0) else B
def rainD (A : Nat → Int) : Nat → Int := upA (upA A 8 (anx (A 8))) 10 (if A 8 % 10 < 4 then 1 else 0)
def sellD (B : Nat → Int) (tx : Nat → Nat → Int) : (Nat → Int) × Int := (upA (saleA B tx (B 0).toNat).1 7 (B 7 + 1), (saleA B tx (B 0).toNat).2)
def passA (A : Nat → Int) (tx : Nat → Nat → Int) : (Nat → Int) × Int := sellD (heatD (rainD A)) tx
theorem anx_b (x : Int) : 0 ≤ anx x ∧ anx x ≤ 30870 := by unfold anx; omega
theorem dX0_passDay_0 : decode prog_2_method_14_code 0 = .ok (.aload_n 0, 1) := by decide +kernel
theorem dX0_passDay_1 : decode prog_2_method_14_code 1 = .ok (.getfield 18, 3) := by decide +kernel
theorem dX0_passDay_4 : decode prog_2_method_14_code 4 = .ok (.getfield 26, 3) := by decide +kernel
theorem dX0_passDay_7 : decode prog_2_method_14_code 7 = .ok (.astore_n 1, 1) := by decide +kernel
theorem dX0_passDay_8 : decode prog_2_method_14_code 8 = .ok (.aload_n 1, 1) := by decide +kernel
theorem dX0_passDay_9 : decode prog_2_method_14_code 9 = .ok (.aload_n 1, 1) := by decide +kernel
theorem dX0_passDay_10 : decode prog_2_method_14_code 10 = .ok (.bipush 10, 2) := by decide +kernel
theorem dX0_passDay_12 : decode prog_2_method_14_code 12 = .ok (.invokevirtual 90, 3) := by decide +kernel
theorem dX0_passDay_15 : decode prog_2_method_14_code 15 = .ok (.iconst 4, 1) := by decide +kernel
theorem dX0_passDay_16 : decode prog_2_method_14_code 16 = .ok (.if_icmp .ge 7, 3) := by decide +kernel
theorem dX0_passDay_19 : decode prog_2_method_14_code 19 = .ok (.iconst 1, 1) := by decide +kernel
theorem dX0_passDay_20 : decode prog_2_method_14_code 20 = .ok (.goto 4, 3) := by decide +kernel
theorem dX0_passDay_23 : decode prog_2_method_14_code 23 = .ok (.iconst 0, 1) := by decide +kernel
theorem dX0_passDay_24 : decode prog_2_method_14_code 24 = .ok (.putfield 132, 3) := by decide +kernel
theorem dX0_passDay_27 : decode prog_2_method_14_code 27 = .ok (.aload_n 1, 1) := by decide +kernel
theorem dX0_passDay_28 : decode prog_2_method_14_code 28 = .ok (.getfield 93, 3) := by decide +kernel
theorem dX0_passDay_31 : decode prog_2_method_14_code 31 = .ok (.ifCond .le 15, 3) := by decide +kernel
theorem dX0_passDay_34 : decode prog_2_method_14_code 34 = .ok (.aload_n 0, 1) := by decide +kernel
theorem dX0_passDay_35 : decode prog_2_method_14_code 35 = .ok (.aload_n 1, 1) := by decide +kernel
theorem dX0_passDay_36 : decode prog_2_method_14_code 36 = .ok (.aload_n 1, 1) := by decide +kernel
theorem dX0_passDay_37 : decode prog_2_method_14_code 37 = .ok (.getfield 93, 3) := by decide +kernel
theorem dX0_passDay_40 : decode prog_2_method_14_code 40 = .ok (.invokevirtual 90, 3) := by decide +kernel
theorem dX0_passDay_43 : decode prog_2_method_14_code 43 = .ok (.invokevirtual 135, 3) := by decide +kernel
theorem dX0_passDay_46 : decode prog_2_method_14_code 46 = .ok (.iconst 0, 1) := by decide +kernel
theorem dX0_passDay_47 : decode prog_2_method_14_code 47 = .ok (.istore_n 2, 1) := by decide +kernel
theorem dX0_passDay_48 : decode prog_2_method_14_code 48 = .ok (.iconst 0, 1) := by decide +kernel
theorem dX0_passDay_49 : decode prog_2_method_14_code 49 = .ok (.istore_n 3, 1) := by decide +kernel
theorem dX0_passDay_50 : decode prog_2_method_14_code 50 = .ok (.iload_n 3, 1) := by decide +kernel
theorem dX0_passDay_51 : decode prog_2_method_14_code 51 = .ok (.aload_n 1, 1) := by decide +kernel
theorem dX0_passDay_52 : decode prog_2_method_14_code 52 = .ok (.getfield 93, 3) := by decide +kernel
theorem dX0_passDay_55 : decode prog_2_method_14_code 55 = .ok (.if_icmp .ge 49, 3) := by decide +kernel
theorem dX0_passDay_58 : decode prog_2_method_14_code 58 = .ok (.aload_n 1, 1) := by decide +kernel
theorem dX0_passDay_59 : decode prog_2_method_14_code 59 = .ok (.getfield 96, 3) := by decide +kernel
theorem dX0_passDay_62 : decode prog_2_method_14_code 62 = .ok (.iload_n 3, 1) := by decide +kernel
theorem dX0_passDay_63 : decode prog_2_method_14_code 63 = .ok (.iaload, 1) := by decide +kernel
theorem dX0_passDay_64 : decode prog_2_method_14_code 64 = .ok (.iconst 1, 1) := by decide +kernel
theorem dX0_passDay_65 : decode prog_2_method_14_code 65 = .ok (.if_icmp .ne 33, 3) := by decide +kernel
theorem dX0_passDay_68 : decode prog_2_method_14_code 68 = .ok (.aload_n 0, 1) := by decide +kernel
theorem dX0_passDay_69 : decode prog_2_method_14_code 69 = .ok (.getfield 22, 3) := by decide +kernel
theorem dX0_passDay_72 : decode prog_2_method_14_code 72 = .ok (.iload_n 3, 1) := by decide +kernel
theorem dX0_passDay_73 : decode prog_2_method_14_code 73 = .ok (.invokevirtual 138, 3) := by decide +kernel
theorem dX0_passDay_76 : decode prog_2_method_14_code 76 = .ok (.ifCond .le 22, 3) := by decide +kernel
theorem dX0_passDay_79 : decode prog_2_method_14_code 79 = .ok (.aload_n 1, 1) := by decide +kernel
theorem dX0_passDay_80 : decode prog_2_method_14_code 80 = .ok (.getfield 96, 3) := by decide +kernel
theorem dX0_passDay_83 : decode prog_2_method_14_code 83 = .ok (.iload_n 3, 1) := by decide +kernel
theorem dX0_passDay_84 : decode prog_2_method_14_code 84 = .ok (.iconst 3, 1) := by decide +kernel
theorem dX0_passDay_85 : decode prog_2_method_14_code 85 = .ok (.iastore, 1) := by decide +kernel
theorem dX0_passDay_86 : decode prog_2_method_14_code 86 = .ok (.aload_n 0, 1) := by decide +kernel
theorem dX0_passDay_87 : decode prog_2_method_14_code 87 = .ok (.getfield 18, 3) := by decide +kernel
theorem dX0_passDay_90 : decode prog_2_method_14_code 90 = .ok (.iload_n 3, 1) := by decide +kernel
theorem dX0_passDay_91 : decode prog_2_method_14_code 91 = .ok (.iconst 2, 1) := by decide +kernel
theorem dX0_passDay_92 : decode prog_2_method_14_code 92 = .ok (.invokevirtual 123, 3) := by decide +kernel
theorem dX0_passDay_95 : decode prog_2_method_14_code 95 = .ok (.iinc 2 1, 3) := by decide +kernel
theorem dX0_passDay_98 : decode prog_2_method_14_code 98 = .ok (.iinc 3 1, 3) := by decide +kernel
theorem dX0_passDay_101 : decode prog_2_method_14_code 101 = .ok (.goto (-51), 3) := by decide +kernel
theorem dX0_passDay_104 : decode prog_2_method_14_code 104 = .ok (.aload_n 1, 1) := by decide +kernel
theorem dX0_passDay_105 : decode prog_2_method_14_code 105 = .ok (.dup, 1) := by decide +kernel
theorem dX0_passDay_106 : decode prog_2_method_14_code 106 = .ok (.getfield 84, 3) := by decide +kernel
theorem dX0_passDay_109 : decode prog_2_method_14_code 109 = .ok (.iconst 1, 1) := by decide +kernel
theorem dX0_passDay_110 : decode prog_2_method_14_code 110 = .ok (.iadd, 1) := by decide +kernel
theorem dX0_passDay_111 : decode prog_2_method_14_code 111 = .ok (.putfield 84, 3) := by decide +kernel
theorem dX0_passDay_114 : decode prog_2_method_14_code 114 = .ok (.iload_n 2, 1) := by decide +kernel
theorem dX0_passDay_115 : decode prog_2_method_14_code 115 = .ok (.ireturn, 1) := by decide +kernel
theorem lp_X0_passDay {B : Nat → Int} (cs : CS S R) (hn : 4 ≤ n) (hbB : BA B) (h7 : B 7 < 9999) (hp : ∀ I', CIv S R I' (sellD B tx).1 tx → Fc I I' → Post (some (.int (iI (sellD B tx).2))) S I' R) : ∀ (m k : Nat) (J : CI), (k : Int) ≤ B 0 → (B 0).toNat - k = m → CIv S R J (saleA B tx k).1 tx → Fc I J → WP n 0 0 mX0_passDay Post 50 [(0, .ref (S.2.1 282)), (1, .ref (S.2.1 6)), (2, .int (iI (saleA B tx k).2)), (3, .int (iI (k : Int)))] [] 0 0 S J R := by
  intro m
  induction m using Nat.strongRecOn with
  | ind m ih =>
    intro k J k1 k2 hv hF
    obtain ⟨z1, z2, z3, z4⟩ := saleA_k (tx := tx) hbB k k1
    have B0 := hbB.1.1
    have e0 := z2 0 (by omega)
    have e7 := z2 7 (by omega)
    obtain ⟨hc, hb, hw, hk⟩ := id hv
    obtain ⟨A, hA⟩ : ∃ A, A = (saleA B tx k).1 := ⟨_, rfl⟩
    rw [← hA] at hc hb hw hv e0 e7
    obtain ⟨⟨⟨c0, c7, c8, c9, c10, c11⟩, cq⟩, ⟨⟨t1, t2, t3, t4, t5, t6, t7, t8, t9⟩, tq, th, tb, ts, td⟩, cb, cp⟩ := id hc
    dsimp only [Nat.reduceAdd] at c0 c7 c8 c9 c10 c11 cq t1 t2 t3 t4 t5 t6 t7 t8 t9 tq th tb ts td
    obtain ⟨⟨b0, b1, b2, b3, b4, bq, bl⟩, ⟨d1, d2, d3, d4, d5, d6, d7⟩, dq, dh, db, ds, dd, dp⟩ := id hb
    have b7 : 0 ≤ A 7 ∧ A 7 ≤ 9999 := b1
    have b8 : 0 ≤ A 8 ∧ A 8 ≤ 30870 := b2
    have b9 : 0 ≤ A 9 ∧ A 9 ≤ 9999 := b3
    have b10 : 0 ≤ A 10 ∧ A 10 ≤ 1 := b4
    have b11 : 0 ≤ A 11 ∧ A 11 ≤ 16 := by have h1 := lns_b (fun q => A (6 + 6 + 3 * q)) (A 0).toNat; have h2 : A 11 = _ := bl; omega
    have hsb := SB_now hc hb
    by_cases hkk : (k : Int) < B 0
    · have w3 := cq k (by omega)
      have w4 := (hsb.2.2.2.2.2.2.1 k (by omega))
      dsimp only [Nat.reduceAdd] at w4
      have es : saleA B tx (k + 1) = if A (12 + 3 * k) = 1 ∧ 0 < sellsP A tx k then (wrA (upA A (12 + 3 * k) 3) k 2, (saleA B tx k).2 + 1) else saleA B tx k := by rw [hA]; rfl
      have sb2 : -99 ≤ sellsP A tx k ∧ sellsP A tx k ≤ 99 := by unfold sellsP clampI; split <;> first | omega | (split <;> omega)
      refine x_iload_n dX0_passDay_50 rfl ?_
      refine x_aload_n dX0_passDay_51 rfl ?_
      refine x_getI dX0_passDay_52 gf_RX0_93 (k_ob_6 cs) (fun _ _ => rfl) ?_
      refine x_icmp_ge 104 dX0_passDay_55 (by decide) ⟨(by omega), (by omega)⟩ (fun w55 => ?_) (fun w55 => ?_)
      · exfalso; omega
      · refine x_aload_n dX0_passDay_58 rfl ?_
        refine x_getR (b := 7) dX0_passDay_59 gf_RX0_96 (k_ob_6 cs) (fun _ _ => rfl) (k_r_6_0 cs) ?_
        refine x_iload_n dX0_passDay_62 rfl ?_
        refine x_iaload dX0_passDay_63 (k_ar_7 cs) (by omega) (by omega) ?_
        rw [show ((k : Nat) : Int).toNat = k by omega, ← w3.1]
        refine x_iconst dX0_passDay_64 ?_
        refine x_icmp_ne 98 dX0_passDay_65 (by decide) ⟨(by omega), (by omega)⟩ (fun w65 => ?_) (fun w65 => ?_)
        · refine x_iinc (lv2 := [(3, _), (0, _), (1, _), (2, _)]) dX0_passDay_98 rfl (by decide) rfl ?_
          refine x_goto 50 dX0_passDay_101 (by decide) ?_
          refine x_sub [1, 2, 3, 0] rfl ?_
          first
            | (have ek : saleA B tx (k + 1) = saleA B tx k := (by rw [es]; exact if_neg (by omega))
               have hg := ih _ (by omega) (k + 1) J (by omega) rfl (by rw [ek, ← hA]; exact hv) hF
               rw [ek] at hg
               exact hg)
            | (have ek : saleA B tx (k + 1) = saleA B tx k := (by rw [es]; exact if_neg (by omega))
               have hg := ih _ (by omega) (k + 1) I73 (by omega) rfl (by rw [ek, ← hA]; exact hv.l hF73 hS73) (hF.tr hF73.c)
               rw [ek] at hg
               exact hg)
            | (have ek : saleA B tx (k + 1) = (wrA (upA A (12 + 3 * k) 3) k 2, (saleA B tx k).2 + 1) := (by rw [es]; exact if_pos (by omega))
               have hg := ih _ (by omega) (k + 1) I92 (by omega) rfl (by rw [ek]; exact (hv.l hF73 hS73).w hF92' hI92 (BA_sale hb (by omega) (by omega)) (by show wrA (upA A (12 + 3 * k) 3) k 2 1 = A 1; unfold wrA; rw [upA_o (by omega), upA_o (by omega), upA_o (by omega), upA_o (by omega)])) ((hF.tr hF73.c).tr hF92'.c)
               rw [ek] at hg
               exact hg)
        · refine x_aload_n dX0_passDay_68 rfl ?_
          refine x_getR (b := 279) dX0_passDay_69 gf_RX0_22 (k_ob_282 cs) (fun _ _ => rfl) (k_r_282_1 cs) ?_
          refine x_iload_n dX0_passDay_72 rfl ?_
          refine x_callV1 (mc1 := 0) (ms1 := 0) dX0_passDay_73 cv_RX0_138 (ci := 3) (k_ob_279 cs) rfl (Nat.le_of_ble_eq_true rfl) (n1 := n - 1) (by omega) (by omega) (by omega) ?_
          refine sp_X3_sells cs hc hb hw hk (by omega) (by omega) (fun I73 hF73 hS73 => ?_)
          rw [show ((k : Nat) : Int).toNat = k by omega]
          refine x_if_le 98 dX0_passDay_76 (by decide) (by omega) (fun w76 => ?_) (fun w76 => ?_)
          · refine x_iinc (lv2 := [(3, _), (0, _), (1, _), (2, _)]) dX0_passDay_98 rfl (by decide) rfl ?_
            refine x_goto 50 dX0_passDay_101 (by decide) ?_
            refine x_sub [1, 2, 3, 0] rfl ?_
            first
              | (have ek : saleA B tx (k + 1) = saleA B tx k := (by rw [es]; exact if_neg (by omega))
                 have hg := ih _ (by omega) (k + 1) J (by omega) rfl (by rw [ek, ← hA]; exact hv) hF
                 rw [ek] at hg
                 exact hg)
              | (have ek : saleA B tx (k + 1) = saleA B tx k := (by rw [es]; exact if_neg (by omega))
                 have hg := ih _ (by omega) (k + 1) I73 (by omega) rfl (by rw [ek, ← hA]; exact hv.l hF73 hS73) (hF.tr hF73.c)
                 rw [ek] at hg
                 exact hg)
              | (have ek : saleA B tx (k + 1) = (wrA (upA A (12 + 3 * k) 3) k 2, (saleA B tx k).2 + 1) := (by rw [es]; exact if_pos (by omega))
                 have hg := ih _ (by omega) (k + 1) I92 (by omega) rfl (by rw [ek]; exact (hv.l hF73 hS73).w hF92' hI92 (BA_sale hb (by omega) (by omega)) (by show wrA (upA A (12 + 3 * k) 3) k 2 1 = A 1; unfold wrA; rw [upA_o (by omega), upA_o (by omega), upA_o (by omega), upA_o (by omega)])) ((hF.tr hF73.c).tr hF92'.c)
                 rw [ek] at hg
                 exact hg)
          · refine x_aload_n dX0_passDay_79 rfl ?_
            refine x_getR (b := 7) dX0_passDay_80 gf_RX0_96 (k_ob_6 cs) (fun _ _ => rfl) (k_r_6_0 cs) ?_
            refine x_iload_n dX0_passDay_83 rfl ?_
            refine x_iconst dX0_passDay_84 ?_
            refine x_iastore dX0_passDay_85 (k_ar_7 cs) (by omega) (by omega) ?_
            refine x_aload_n dX0_passDay_86 rfl ?_
            refine x_getR (b := 1) dX0_passDay_87 gf_RX0_18 (k_ob_282 cs) (fun _ _ => rfl) (k_r_282_0 cs) ?_
            refine x_iload_n dX0_passDay_90 rfl ?_
            refine x_iconst dX0_passDay_91 ?_
            refine x_callV2 (mc1 := 0) (ms1 := 0) dX0_passDay_92 cv_RX0_123 (ci := 10) (k_ob_1 cs) rfl (Nat.le_of_ble_eq_true rfl) (n1 := n - 1) (by omega) (by omega) (by omega) ?_
            refine sp_X10_write cs (cu_how 3 (hF73.W hc) (by omega)) (by rw [upA_o (by omega)]; omega) (by rw [upA_o (by omega)]; omega) (by omega) (by omega) (by rw [upA_o (by omega)]; omega) (fun I92 hI92 hF92 => ?_)
            rw [show ((k : Nat) : Int).toNat = k by omega] at hI92
            have hF92' : Fw I73 I92 := Fw.tr2 hF92 (Fw.rf.u (by omega))
            refine x_iinc (lv2 := [(2, _), (0, _), (1, _), (3, _)]) dX0_passDay_95 rfl (by decide) rfl ?_
            refine x_iinc (lv2 := [(3, _), (2, _), (0, _), (1, _)]) dX0_passDay_98 rfl (by decide) rfl ?_
            refine x_goto 50 dX0_passDay_101 (by decide) ?_
            refine x_sub [2, 3, 1, 0] rfl ?_
            first
              | (have ek : saleA B tx (k + 1) = saleA B tx k := (by rw [es]; exact if_neg (by omega))
                 have hg := ih _ (by omega) (k + 1) J (by omega) rfl (by rw [ek, ← hA]; exact hv) hF
                 rw [ek] at hg
                 exact hg)
              | (have ek : saleA B tx (k + 1) = saleA B tx k := (by rw [es]; exact if_neg (by omega))
                 have hg := ih _ (by omega) (k + 1) I73 (by omega) rfl (by rw [ek, ← hA]; exact hv.l hF73 hS73) (hF.tr hF73.c)
                 rw [ek] at hg
                 exact hg)
              | (have ek : saleA B tx (k + 1) = (wrA (upA A (12 + 3 * k) 3) k 2, (saleA B tx k).2 + 1) := (by rw [es]; exact if_pos (by omega))
                 have hg := ih _ (by omega) (k + 1) I92 (by omega) rfl (by rw [ek]; exact (hv.l hF73 hS73).w hF92' hI92 (BA_sale hb (by omega) (by omega)) (by show wrA (upA A (12 + 3 * k) 3) k 2 1 = A 1; unfold wrA; rw [upA_o (by omega), upA_o (by omega), upA_o (by omega), upA_o (by omega)])) ((hF.tr hF73.c).tr hF92'.c)
                 rw [ek] at hg
                 exact hg)
    · have hkK : k = (B 0).toNat := by omega
      subst hkK
      refine x_iload_n dX0_passDay_50 rfl ?_
      refine x_aload_n dX0_passDay_51 rfl ?_
      refine x_getI dX0_passDay_52 gf_RX0_93 (k_ob_6 cs) (fun _ _ => rfl) ?_
      refine x_icmp_ge 104 dX0_passDay_55 (by decide) ⟨(by omega), (by omega)⟩ (fun w55 => ?_) (fun w55 => ?_)
      · refine x_aload_n dX0_passDay_104 rfl ?_
        refine x_dup dX0_passDay_105 rfl ?_
        refine x_getIv (z := B 7) dX0_passDay_106 gf_RX0_84 (k_ob_6 cs) (fun _ _ => rfl) (by rw [← e7]; exact c7.symm) ?_
        refine x_iconst dX0_passDay_109 ?_
        refine x_iadd dX0_passDay_110 ?_
        refine x_putI dX0_passDay_111 gf_RX0_84 (k_ob_6 cs) rfl ?_
        refine x_iload_n dX0_passDay_114 rfl ?_
        exact x_ireturn dX0_passDay_115 rfl (by omega) (by omega) (hp _ (by
        have hd : BA (upA A 7 (B 7 + 1)) := BA_day hb (by omega)
        have := hv.w (Fw.rf.u (a := 6) (k := 6) (v := B 7 + 1) (by omega)) (cu_day (B 7 + 1) hc) hd (upA_o (by omega))
        rw [hA] at this
        exact this) (hF.tr (Fw.rf.u (by omega)).c))
      · exfalso; omega
theorem lp2_X0_passDay {B : Nat → Int} (cs : CS S R) (hn : 4 ≤ n) (hv : CIv S R I B tx) (h7 : B 7 < 9999) (hp : ∀ I', CIv S R I' (sellD (heatD B) tx).1 tx → Fc I I' → Post (some (.int (iI (sellD (heatD B) tx).2))) S I' R) : WP n 0 0 mX0_passDay Post 27 [(1, .ref (S.2.1 6)), (0, .ref (S.2.1 282))] [] 0 0 S I R := by
  obtain ⟨hc, hb, hw, hk⟩ := id hv
  obtain ⟨⟨⟨c0, c7, c8, c9, c10, c11⟩, cq⟩, ⟨⟨t1, t2, t3, t4, t5, t6, t7, t8, t9⟩, tq, th, tb, ts, td⟩, cb, cp⟩ := id hc
  dsimp only [Nat.reduceAdd] at c0 c7 c8 c9 c10 c11 cq t1 t2 t3 t4 t5 t6 t7 t8 t9 tq th tb ts td
  obtain ⟨⟨b0, b1, b2, b3, b4, bq, bl⟩, ⟨d1, d2, d3, d4, d5, d6, d7⟩, dq, dh, db, ds, dd, dp⟩ := id hb
  have b7 : 0 ≤ B 7 ∧ B 7 ≤ 9999 := b1
  have b8 : 0 ≤ B 8 ∧ B 8 ≤ 30870 := b2
  have b9 : 0 ≤ B 9 ∧ B 9 ≤ 9999 := b3
  have b10 : 0 ≤ B 10 ∧ B 10 ≤ 1 := b4
  have b11 : 0 ≤ B 11 ∧ B 11 ≤ 16 := by have h1 := lns_b (fun q => B (6 + 6 + 3 * q)) (B 0).toNat; have h2 : B 11 = _ := bl; omega
  have hsb := SB_now hc hb
  have ax := anx_b (B 8)
  refine x_aload_n dX0_passDay_27 rfl ?_
  refine x_getI dX0_passDay_28 gf_RX0_93 (k_ob_6 cs) (fun _ _ => rfl) ?_
  refine x_if_le 46 dX0_passDay_31 (by decide) (by omega) (fun w31 => ?_) (fun w31 => ?_)
  · refine x_iconst dX0_passDay_46 ?_
    refine x_istore_n (lv2 := [(2, _), (1, _), (0, _)]) dX0_passDay_47 (by decide) rfl ?_
    refine x_iconst dX0_passDay_48 ?_
    refine x_istore_n (lv2 := [(3, _), (2, _), (1, _), (0, _)]) dX0_passDay_49 (by decide) rfl ?_
    refine x_sub [3, 2, 1, 0] rfl ?_
    first
      | (have eh : heatD B = B := if_neg (by omega)
         rw [eh] at hp
         exact lp_X0_passDay cs hn hb h7 hp _ 0 I (by omega) rfl hv Fc.rf)
      | (have eh : heatD B = warmA (upA B 8 (anx (B 8))) (B 8 % B 0) := if_pos (by omega)
         rw [eh] at hp
         have hbw : BA (warmA (upA B 8 (anx (B 8))) (B 8 % B 0)) := BA_warm (BA_x hb ax) (by omega)
         have wm : ∀ i : Nat, i ≠ 8 → i < 14 → warmA (upA B 8 (anx (B 8))) (B 8 % B 0) i = B i := fun i h1 h2 => (by unfold warmA; split <;> first | rw [upA_o (by omega), upA_o h1] | (split <;> first | rw [upA_o (by omega), upA_o h1] | rw [upA_o h1]))
         have hFw : Fw I I43 := Fw.tr2 hF43 (Fw.rf.u (by omega))
         exact lp_X0_passDay cs hn hbw (by rw [wm 7 (by omega) (by omega)]; exact h7) (fun I2 h1 h2 => hp I2 h1 (hFw.c.tr h2)) _ 0 I43 (by rw [wm 0 (by omega) (by omega)]; omega) rfl (hv.w hFw hI43 hbw (wm 1 (by omega) (by omega))) Fc.rf)
  · refine x_aload_n dX0_passDay_34 rfl ?_
    refine x_aload_n dX0_passDay_35 rfl ?_
    refine x_aload_n dX0_passDay_36 rfl ?_
    refine x_getI dX0_passDay_37 gf_RX0_93 (k_ob_6 cs) (fun _ _ => rfl) ?_
    refine x_callV1 (mc1 := 0) (ms1 := 0) dX0_passDay_40 cv_RX0_90 (ci := 6) (k_ob_6 cs) rfl (Nat.le_of_ble_eq_true rfl) (n1 := n - 1) (by omega) (by omega) (by omega) ?_
    refine sp_X6_draw (k_st_6 cs) hsb (by omega) (fun r40 x40 hx40 hr40 => ?_)
    have q0 : r40 = B 8 % B 0 ∧ 0 ≤ r40 ∧ r40 < B 0 := by rw [c8, c0]; have := Int.emod_nonneg (I 6 7) (show I 6 3 ≠ 0 by omega); have := Int.emod_lt_of_pos (I 6 7) (show 0 < I 6 3 by omega); omega
    have q1 : x40 = anx (B 8) := by rw [c8]; exact hx40
    refine x_callV1 (mc1 := 0) (ms1 := 0) dX0_passDay_43 cv_RX0_135 (ci := 0) (k_ob_282 cs) rfl (Nat.le_of_ble_eq_true rfl) (n1 := n - 1) (by omega) (by omega) (by omega) ?_
    refine sp_X0_changeHeat cs (cu_x x40 hc) (q1 ▸ BA_x hb ax) (by omega) (by omega) (fun I43 hI43 hF43 => ?_)
    rw [q1, q0.1] at hI43
    refine x_iconst dX0_passDay_46 ?_
    refine x_istore_n (lv2 := [(2, _), (1, _), (0, _)]) dX0_passDay_47 (by decide) rfl ?_
    refine x_iconst dX0_passDay_48 ?_
    refine x_istore_n (lv2 := [(3, _), (2, _), (1, _), (0, _)]) dX0_passDay_49 (by decide) rfl ?_
    refine x_sub [3, 2, 1, 0] rfl ?_
    first
      | (have eh : heatD B = B := if_neg (by omega)
         rw [eh] at hp
         exact lp_X0_passDay cs hn hb h7 hp _ 0 I (by omega) rfl hv Fc.rf)
      | (have eh : heatD B = warmA (upA B 8 (anx (B 8))) (B 8 % B 0) := if_pos (by omega)
         rw [eh] at hp
         have hbw : BA (warmA (upA B 8 (anx (B 8))) (B 8 % B 0)) := BA_warm (BA_x hb ax) (by omega)
         have wm : ∀ i : Nat, i ≠ 8 → i < 14 → warmA (upA B 8 (anx (B 8))) (B 8 % B 0) i = B i := fun i h1 h2 => (by unfold warmA; split <;> first | rw [upA_o (by omega), upA_o h1] | (split <;> first | rw [upA_o (by omega), upA_o h1] | rw [upA_o h1]))
         have hFw : Fw I I43 := Fw.tr2 hF43 (Fw.rf.u (by omega))
         exact lp_X0_passDay cs hn hbw (by rw [wm 7 (by omega) (by omega)]; exact h7) (fun I2 h1 h2 => hp I2 h1 (hFw.c.tr h2)) _ 0 I43 (by rw [wm 0 (by omega) (by omega)]; omega) rfl (hv.w hFw hI43 hbw (wm 1 (by omega) (by omega))) Fc.rf)
theorem sp_X0_passDay (cs : CS S R) (hv : CIv S R I A tx) (h7 : A 7 < 9999) (hn : 4 ≤ n) (hp : ∀ I', CIv S R I' (passA A tx).1 tx → Fc I I' → Post (some (.int (iI (passA A tx).2))) S I' R) : Call n 0 0 mX0_passDay [.ref (S.2.1 282)] S I R Post := by
  obtain ⟨hc, hb, hw, hk⟩ := id hv
  obtain ⟨⟨⟨c0, c7, c8, c9, c10, c11⟩, cq⟩, ⟨⟨t1, t2, t3, t4, t5, t6, t7, t8, t9⟩, tq, th, tb, ts, td⟩, cb, cp⟩ := id hc
  dsimp only [Nat.reduceAdd] at c0 c7 c8 c9 c10 c11 cq t1 t2 t3 t4 t5 t6 t7 t8 t9 tq th tb ts td
  obtain ⟨⟨b0, b1, b2, b3, b4, bq, bl⟩, ⟨d1, d2, d3, d4, d5, d6, d7⟩, dq, dh, db, ds, dd, dp⟩ := id hb
  have b7 : 0 ≤ A 7 ∧ A 7 ≤ 9999 := b1
  have b8 : 0 ≤ A 8 ∧ A 8 ≤ 30870 := b2
  have b9 : 0 ≤ A 9 ∧ A 9 ≤ 9999 := b3
  have b10 : 0 ≤ A 10 ∧ A 10 ≤ 1 := b4
  have b11 : 0 ≤ A 11 ∧ A 11 ≤ 16 := by have h1 := lns_b (fun q => A (6 + 6 + 3 * q)) (A 0).toNat; have h2 : A 11 = _ := bl; omega
  have hsb := SB_now hc hb
  have ax := anx_b (A 8)
  refine Call.of (by decide +kernel) (Nat.le_of_ble_eq_true rfl) ?_
  show WP _ _ _ _ _ 0 [(0, _)] [] 0 0 _ _ _
  refine x_aload_n dX0_passDay_0 rfl ?_
  refine x_getR (b := 1) dX0_passDay_1 gf_RX0_18 (k_ob_282 cs) (fun _ _ => rfl) (k_r_282_0 cs) ?_
  refine x_getR (b := 6) dX0_passDay_4 gf_RX0_26 (k_ob_1 cs) (fun _ _ => rfl) (k_r_1_4 cs) ?_
  refine x_astore_n (lv2 := [(1, _), (0, _)]) dX0_passDay_7 (by decide) rfl ?_
  refine x_aload_n dX0_passDay_8 rfl ?_
  refine x_aload_n dX0_passDay_9 rfl ?_
  refine x_bipush dX0_passDay_10 (by decide) ?_
  refine x_callV1 (mc1 := 0) (ms1 := 0) dX0_passDay_12 cv_RX0_90 (ci := 6) (k_ob_6 cs) rfl (Nat.le_of_ble_eq_true rfl) (n1 := n - 1) (by omega) (by omega) (by omega) ?_
  refine sp_X6_draw (k_st_6 cs) hsb (by omega) (fun r12 x12 hx12 hr12 => ?_)
  have q0 : r12 = A 8 % 10 := by rw [c8]; omega
  have q1 : x12 = anx (A 8) := by rw [c8]; exact hx12
  refine x_iconst dX0_passDay_15 ?_
  refine x_icmp_ge 23 dX0_passDay_16 (by decide) ⟨(by omega), (by omega)⟩ (fun w16 => ?_) (fun w16 => ?_)
  · refine x_iconst dX0_passDay_23 ?_
    refine x_putI dX0_passDay_24 gf_RX0_132 (k_ob_6 cs) rfl ?_
    first
      | (have er : rainD A = upA (upA A 8 (anx (A 8))) 10 1 := congrArg _ (if_pos (by omega))
         have hcr : ClW (uI (uI I 6 7 x12) 6 5 1) 1 (rainD A) := (by rw [er, ← q1]; exact cu_rain 1 (cu_x x12 hc))
         have hbr : BA (rainD A) := (by rw [er]; exact BA_rain (BA_x hb ax) (by omega))
         exact lp2_X0_passDay cs hn (hv.w ((Fw.rf.u (by omega)).u (by omega)) hcr hbr (by rw [er, upA_o (by omega), upA_o (by omega)])) (by rw [er, upA_o (by omega), upA_o (by omega)]; exact h7) (fun I2 h1 h2 => hp I2 h1 (((Fw.rf.u (by omega)).u (by omega)).c.tr h2)))
      | (have er : rainD A = upA (upA A 8 (anx (A 8))) 10 0 := congrArg _ (if_neg (by omega))
         have hcr : ClW (uI (uI I 6 7 x12) 6 5 0) 1 (rainD A) := (by rw [er, ← q1]; exact cu_rain 0 (cu_x x12 hc))
         have hbr : BA (rainD A) := (by rw [er]; exact BA_rain (BA_x hb ax) (by omega))
         exact lp2_X0_passDay cs hn (hv.w ((Fw.rf.u (by omega)).u (by omega)) hcr hbr (by rw [er, upA_o (by omega), upA_o (by omega)])) (by rw [er, upA_o (by omega), upA_o (by omega)]; exact h7) (fun I2 h1 h2 => hp I2 h1 (((Fw.rf.u (by omega)).u (by omega)).c.tr h2)))
  · refine x_iconst dX0_passDay_19 ?_
    refine x_goto 24 dX0_passDay_20 (by decide) ?_
    refine x_putI dX0_passDay_24 gf_RX0_132 (k_ob_6 cs) rfl ?_
    first
      | (have er : rainD A = upA (upA A 8 (anx (A 8))) 10 1 := congrArg _ (if_pos (by omega))
         have hcr : ClW (uI (uI I 6 7 x12) 6 5 1) 1 (rainD A) := (by rw [er, ← q1]; exact cu_rain 1 (cu_x x12 hc))
         have hbr : BA (rainD A) := (by rw [er]; exact BA_rain (BA_x hb ax) (by omega))
         exact lp2_X0_passDay cs hn (hv.w ((Fw.rf.u (by omega)).u (by omega)) hcr hbr (by rw [er, upA_o (by omega), upA_o (by omega)])) (by rw [er, upA_o (by omega), upA_o (by omega)]; exact h7) (fun I2 h1 h2 => hp I2 h1 (((Fw.rf.u (by omega)).u (by omega)).c.tr h2)))
      | (have er : rainD A = upA (upA A 8 (anx (A 8))) 10 0 := congrArg _ (if_neg (by omega))
         have hcr : ClW (uI (uI I 6 7 x12) 6 5 0) 1 (rainD A) := (by rw [er, ← q1]; exact cu_rain 0 (cu_x x12 hc))
         have hbr : BA (rainD A) := (by rw [er]; exact BA_rain (BA_x hb ax) (by omega))
         exact lp2_X0_passDay cs hn (hv.w ((Fw.rf.u (by omega)).u (by omega)) hcr hbr (by rw [er, upA_o (by omega), upA_o (by omega)])) (by rw [er, upA_o (by omega), upA_o (by omega)]; exact h7) (fun I2 h1 h2 => hp I2 h1 (((Fw.rf.u (by omega)).u (by omega)).c.tr h2)))
end Cls6
