section Ref11
variable {n mc ms : Nat} {M : Md} {pc : Nat} {lv : List (Nat × Value)} {st : List Value} {k j : Nat} {Post : PT} {S : Sh} {I : CI} {R : CR} {A : Nat → Int} {tx : Nat → Nat → Int}
theorem dX12_canRedeem_0 : decode prog_14_method_81_code 0 = .ok (.aload_n 0, 1) := by decide +kernel
theorem dX12_canRedeem_1 : decode prog_14_method_81_code 1 = .ok (.iload_n 1, 1) := by decide +kernel
theorem dX12_canRedeem_2 : decode prog_14_method_81_code 2 = .ok (.invokevirtual 342, 3) := by decide +kernel
theorem dX12_canRedeem_5 : decode prog_14_method_81_code 5 = .ok (.ifCond .eq 30, 3) := by decide +kernel
theorem dX12_canRedeem_8 : decode prog_14_method_81_code 8 = .ok (.aload_n 0, 1) := by decide +kernel
theorem dX12_canRedeem_9 : decode prog_14_method_81_code 9 = .ok (.iload_n 1, 1) := by decide +kernel
theorem dX12_canRedeem_10 : decode prog_14_method_81_code 10 = .ok (.invokevirtual 89, 3) := by decide +kernel
theorem dX12_canRedeem_13 : decode prog_14_method_81_code 13 = .ok (.ifCond .eq 22, 3) := by decide +kernel
theorem dX12_canRedeem_16 : decode prog_14_method_81_code 16 = .ok (.aload_n 0, 1) := by decide +kernel
theorem dX12_canRedeem_17 : decode prog_14_method_81_code 17 = .ok (.getfield 7, 3) := by decide +kernel
theorem dX12_canRedeem_20 : decode prog_14_method_81_code 20 = .ok (.bipush 9, 2) := by decide +kernel
theorem dX12_canRedeem_22 : decode prog_14_method_81_code 22 = .ok (.iaload, 1) := by decide +kernel
theorem dX12_canRedeem_23 : decode prog_14_method_81_code 23 = .ok (.aload_n 0, 1) := by decide +kernel
theorem dX12_canRedeem_24 : decode prog_14_method_81_code 24 = .ok (.iload_n 1, 1) := by decide +kernel
theorem dX12_canRedeem_25 : decode prog_14_method_81_code 25 = .ok (.invokevirtual 330, 3) := by decide +kernel
theorem dX12_canRedeem_28 : decode prog_14_method_81_code 28 = .ok (.if_icmp .lt 7, 3) := by decide +kernel
theorem dX12_canRedeem_31 : decode prog_14_method_81_code 31 = .ok (.iconst 1, 1) := by decide +kernel
theorem dX12_canRedeem_32 : decode prog_14_method_81_code 32 = .ok (.goto 4, 3) := by decide +kernel
theorem dX12_canRedeem_35 : decode prog_14_method_81_code 35 = .ok (.iconst 0, 1) := by decide +kernel
theorem dX12_canRedeem_36 : decode prog_14_method_81_code 36 = .ok (.ireturn, 1) := by decide +kernel
theorem sp_X12_canRedeem {q : Int} (cs : CS S R) (hA : I 307 = A) (hN : BN A) (hT : RTx (I 309) A tx) (hq : Rg q) (hn : 6 ≤ n) (hp : ∀ I' r, FD I I' → (r = 1 ∧ (0 ≤ q ∧ q < A 0 ∧ A (12 + 3 * q.toNat) = 1 ∧ duesP A tx (A 2) q.toNat 0 (A 9) ≤ A 9) ∨ r = 0 ∧ ¬ (0 ≤ q ∧ q < A 0 ∧ A (12 + 3 * q.toNat) = 1 ∧ duesP A tx (A 2) q.toNat 0 (A 9) ≤ A 9)) → Post (some (.int (iI r))) S I' R) : Call n 0 0 mX12_canRedeem [.ref (S.2.1 306), .int (iI q)] S I R Post := by
  obtain ⟨b0, b1, b2, b7, b8, b9, b10, bq⟩ := id hN

  refine Call.of (by decide +kernel) (Nat.le_of_ble_eq_true rfl) ?_
  show WP _ _ _ _ _ 0 [(0, _), (1, _)] [] 0 0 _ _ _
  refine x_aload_n dX12_canRedeem_0 rfl ?_
  refine x_iload_n dX12_canRedeem_1 rfl ?_
  refine x_callV1 (mc1 := 0) (ms1 := 0) dX12_canRedeem_2 cv_RX12_342 (ci := 12) (k_ob_306 cs) rfl (Nat.le_of_ble_eq_true rfl) (n1 := n - 1) (by omega) (by omega) (by omega) ?_
  refine sp_X12_isQuarrel cs hA (by omega) (by omega) (by omega) (fun r2 hr2 => ?_)
  refine x_if_eq 35 dX12_canRedeem_5 (by decide) (by omega) (fun w5 => ?_) (fun w5 => ?_)
  · refine x_iconst dX12_canRedeem_35 ?_
    exact x_zreturn (by omega) dX12_canRedeem_36 rfl (by omega) (by omega) (by first | exact hp _ 1 hF25 (Or.inl ⟨rfl, by omega⟩) | exact hp _ 0 hF25 (Or.inr ⟨rfl, by omega⟩) | exact hp _ 0 FD.rf (Or.inr ⟨rfl, by omega⟩))
  · refine x_aload_n dX12_canRedeem_8 rfl ?_
    refine x_iload_n dX12_canRedeem_9 rfl ?_
    refine x_callV1 (mc1 := 0) (ms1 := 0) dX12_canRedeem_10 cv_RX12_89 (ci := 12) (k_ob_306 cs) rfl (Nat.le_of_ble_eq_true rfl) (n1 := n - 1) (by omega) (by omega) (by omega) ?_
    have bqq := bq q.toNat (by omega)
    refine sp_X12_isPawned_z cs hA (by omega) (by omega) (by omega) (fun r10 hr10 => ?_)
    refine x_if_eq 35 dX12_canRedeem_13 (by decide) (by omega) (fun w13 => ?_) (fun w13 => ?_)
    · refine x_iconst dX12_canRedeem_35 ?_
      exact x_zreturn (by omega) dX12_canRedeem_36 rfl (by omega) (by omega) (by first | exact hp _ 1 hF25 (Or.inl ⟨rfl, by omega⟩) | exact hp _ 0 hF25 (Or.inr ⟨rfl, by omega⟩) | exact hp _ 0 FD.rf (Or.inr ⟨rfl, by omega⟩))
    · refine x_aload_n dX12_canRedeem_16 rfl ?_
      refine x_getR (b := 307) dX12_canRedeem_17 gf_RX12_7 (k_ob_306 cs) (fun _ _ => rfl) (k_r_306_0 cs) ?_
      refine x_bipush dX12_canRedeem_20 (by decide) ?_
      refine x_ald7 (kk := 9) (v := A 9) dX12_canRedeem_22 cs (by omega) (by omega) (by rw [hA]; repeat (first | rfl | rw [upA_s] | rw [upA_o (by omega)])) ?_
      refine x_aload_n dX12_canRedeem_23 rfl ?_
      refine x_iload_n dX12_canRedeem_24 rfl ?_
      refine x_callV1 (mc1 := 0) (ms1 := 0) dX12_canRedeem_25 cv_RX12_330 (ci := 12) (k_ob_306 cs) rfl (Nat.le_of_ble_eq_true rfl) (n1 := n - 1) (by omega) (by omega) (by omega) ?_
      have hdb := duesP_b A tx (A 2) q.toNat 0 (A 9)
      refine sp_X12_duesOf_z cs hA hN hT (by omega) (by omega) (fun J25 hF25 => ?_)
      refine x_icmp_lt 35 dX12_canRedeem_28 (by decide) ⟨(by omega), (by omega)⟩ (fun w28 => ?_) (fun w28 => ?_)
      · refine x_iconst dX12_canRedeem_35 ?_
        exact x_zreturn (by omega) dX12_canRedeem_36 rfl (by omega) (by omega) (by first | exact hp _ 1 hF25 (Or.inl ⟨rfl, by omega⟩) | exact hp _ 0 hF25 (Or.inr ⟨rfl, by omega⟩) | exact hp _ 0 FD.rf (Or.inr ⟨rfl, by omega⟩))
      · refine x_iconst dX12_canRedeem_31 ?_
        refine x_goto 36 dX12_canRedeem_32 (by decide) ?_
        exact x_zreturn (by omega) dX12_canRedeem_36 rfl (by omega) (by omega) (by first | exact hp _ 1 hF25 (Or.inl ⟨rfl, by omega⟩) | exact hp _ 0 hF25 (Or.inr ⟨rfl, by omega⟩) | exact hp _ 0 FD.rf (Or.inr ⟨rfl, by omega⟩))
def FR (I I' : CI) : Prop := ∀ c, c ≠ 307 → c ≠ 312 → c ≠ 313 → c ≠ 314 → I' c = I c
theorem FR.rf {I : CI} : FR I I := fun _ _ _ _ _ => rfl
theorem FR.tr {I I' I'' : CI} (h : FR I I') (h2 : FR I' I'') : FR I I'' := fun c h1 h3 h4 h5 => (h2 c h1 h3 h4 h5).trans (h c h1 h3 h4 h5)
theorem F7.r {I I' : CI} (h : F7 I I') : FR I I' := fun c h1 _ _ _ => h c h1
theorem FD.r {I I' : CI} (h : FD I I') : FR I I' := fun c _ h1 h2 h3 => h c h1 h2 h3
theorem dX12_redeemNow_0 : decode prog_14_method_82_code 0 = .ok (.aload_n 0, 1) := by decide +kernel
theorem dX12_redeemNow_1 : decode prog_14_method_82_code 1 = .ok (.iload_n 1, 1) := by decide +kernel
theorem dX12_redeemNow_2 : decode prog_14_method_82_code 2 = .ok (.invokevirtual 330, 3) := by decide +kernel
theorem dX12_redeemNow_5 : decode prog_14_method_82_code 5 = .ok (.istore_n 2, 1) := by decide +kernel
theorem dX12_redeemNow_6 : decode prog_14_method_82_code 6 = .ok (.aload_n 0, 1) := by decide +kernel
theorem dX12_redeemNow_7 : decode prog_14_method_82_code 7 = .ok (.getfield 7, 3) := by decide +kernel
theorem dX12_redeemNow_10 : decode prog_14_method_82_code 10 = .ok (.bipush 9, 2) := by decide +kernel
theorem dX12_redeemNow_12 : decode prog_14_method_82_code 12 = .ok (.dup2, 1) := by decide +kernel
theorem dX12_redeemNow_13 : decode prog_14_method_82_code 13 = .ok (.iaload, 1) := by decide +kernel
theorem dX12_redeemNow_14 : decode prog_14_method_82_code 14 = .ok (.iload_n 2, 1) := by decide +kernel
theorem dX12_redeemNow_15 : decode prog_14_method_82_code 15 = .ok (.isub, 1) := by decide +kernel
theorem dX12_redeemNow_16 : decode prog_14_method_82_code 16 = .ok (.iastore, 1) := by decide +kernel
theorem dX12_redeemNow_17 : decode prog_14_method_82_code 17 = .ok (.aload_n 0, 1) := by decide +kernel
theorem dX12_redeemNow_18 : decode prog_14_method_82_code 18 = .ok (.getfield 7, 3) := by decide +kernel
theorem dX12_redeemNow_21 : decode prog_14_method_82_code 21 = .ok (.bipush 12, 2) := by decide +kernel
theorem dX12_redeemNow_23 : decode prog_14_method_82_code 23 = .ok (.iconst 3, 1) := by decide +kernel
theorem dX12_redeemNow_24 : decode prog_14_method_82_code 24 = .ok (.iload_n 1, 1) := by decide +kernel
theorem dX12_redeemNow_25 : decode prog_14_method_82_code 25 = .ok (.imul, 1) := by decide +kernel
theorem dX12_redeemNow_26 : decode prog_14_method_82_code 26 = .ok (.iadd, 1) := by decide +kernel
theorem dX12_redeemNow_27 : decode prog_14_method_82_code 27 = .ok (.iconst 2, 1) := by decide +kernel
theorem dX12_redeemNow_28 : decode prog_14_method_82_code 28 = .ok (.iastore, 1) := by decide +kernel
theorem dX12_redeemNow_29 : decode prog_14_method_82_code 29 = .ok (.aload_n 0, 1) := by decide +kernel
theorem dX12_redeemNow_30 : decode prog_14_method_82_code 30 = .ok (.iload_n 1, 1) := by decide +kernel
theorem dX12_redeemNow_31 : decode prog_14_method_82_code 31 = .ok (.iconst 1, 1) := by decide +kernel
theorem dX12_redeemNow_32 : decode prog_14_method_82_code 32 = .ok (.invokevirtual 345, 3) := by decide +kernel
theorem dX12_redeemNow_35 : decode prog_14_method_82_code 35 = .ok (.iload_n 2, 1) := by decide +kernel
theorem dX12_redeemNow_36 : decode prog_14_method_82_code 36 = .ok (.ireturn, 1) := by decide +kernel
theorem sp_X12_redeemNow {q : Int} (cs : CS S R) (hA : I 307 = A) (hN : BN A) (hT : RTx (I 309) A tx) (h11 : 0 ≤ A 11 ∧ A 11 < 30) (hz : I 306 23 = 1) (hq : 0 ≤ q ∧ q < 8) (hn : 6 ≤ n) (hp : ∀ I', I' 307 = redeemA A q (duesP A tx (A 2) q.toNat 0 (A 9)) → FR I I' → Post (some (.int (iI (duesP A tx (A 2) q.toNat 0 (A 9))))) S I' R) : Call n 0 0 mX12_redeemNow [.ref (S.2.1 306), .int (iI q)] S I R Post := by
  obtain ⟨b0, b1, b2, b7, b8, b9, b10, bq⟩ := id hN
  have hdb := duesP_b A tx (A 2) q.toNat 0 (A 9)
  refine Call.of (by decide +kernel) (Nat.le_of_ble_eq_true rfl) ?_
  show WP _ _ _ _ _ 0 [(0, _), (1, _)] [] 0 0 _ _ _
  refine x_aload_n dX12_redeemNow_0 rfl ?_
  refine x_iload_n dX12_redeemNow_1 rfl ?_
  refine x_callV1 (mc1 := 0) (ms1 := 0) dX12_redeemNow_2 cv_RX12_330 (ci := 12) (k_ob_306 cs) rfl (Nat.le_of_ble_eq_true rfl) (n1 := n - 1) (by omega) (by omega) (by omega) ?_
  refine sp_X12_duesOf_z cs hA hN hT (by omega) (by omega) (fun J2 hF2 => ?_)
  have a2 : J2 307 = A := by rw [hF2 307 (by omega) (by omega) (by omega)]; exact hA
  have z2 : J2 306 23 = 1 := by rw [hF2 306 (by omega) (by omega) (by omega)]; exact hz
  refine x_istore_n (lv2 := [(2, _), (0, _), (1, _)]) dX12_redeemNow_5 (by decide) rfl ?_
  refine x_aload_n dX12_redeemNow_6 rfl ?_
  refine x_getR (b := 307) dX12_redeemNow_7 gf_RX12_7 (k_ob_306 cs) (fun _ _ => rfl) (k_r_306_0 cs) ?_
  refine x_bipush dX12_redeemNow_10 (by decide) ?_
  refine x_dup2 dX12_redeemNow_12 rfl rfl ?_
  refine x_ald7 (kk := 9) (v := A 9) dX12_redeemNow_13 cs (by omega) (by omega) (by rw [a2]; repeat (first | rfl | rw [upA_s] | rw [upA_o (by omega)])) ?_
  refine x_iload_n dX12_redeemNow_14 rfl ?_
  refine x_isub dX12_redeemNow_15 ?_
  refine x_ast7 (kk := 9) dX12_redeemNow_16 cs (by omega) (by omega) a2 (fun J16 a16 f16 => ?_)
  refine x_aload_n dX12_redeemNow_17 rfl ?_
  refine x_getR (b := 307) dX12_redeemNow_18 gf_RX12_7 (k_ob_306 cs) (fun _ _ => rfl) (k_r_306_0 cs) ?_
  refine x_bipush dX12_redeemNow_21 (by decide) ?_
  refine x_iconst dX12_redeemNow_23 ?_
  refine x_iload_n dX12_redeemNow_24 rfl ?_
  refine x_imul dX12_redeemNow_25 ?_
  refine x_iadd dX12_redeemNow_26 ?_
  refine x_iconst dX12_redeemNow_27 ?_
  refine x_ast7 (kk := 12 + 3 * q.toNat) dX12_redeemNow_28 cs (by omega) (by omega) a16 (fun J28 a28 f28 => ?_)
  refine x_aload_n dX12_redeemNow_29 rfl ?_
  refine x_iload_n dX12_redeemNow_30 rfl ?_
  refine x_iconst dX12_redeemNow_31 ?_
  refine x_callV2 (mc1 := 0) (ms1 := 0) dX12_redeemNow_32 cv_RX12_345 (ci := 12) (k_ob_306 cs) rfl (Nat.le_of_ble_eq_true rfl) (n1 := n - 1) (by omega) (by omega) (by omega) ?_
  refine sp_X12_write cs a28 (by repeat (first | omega | rw [upA_o (by omega)])) (Or.inr (by rw [f28 306 (by omega), f16 306 (by omega)]; exact z2)) (fun J32 a32 f32 => ?_)
  rw [show J28 306 23 = 1 from (by rw [f28 306 (by omega), f16 306 (by omega)]; exact z2)] at a32
  refine x_iload_n dX12_redeemNow_35 rfl ?_
  exact x_ireturn dX12_redeemNow_36 rfl (by omega) (by omega) (by
    refine hp _ ?_ (hF2.r.tr (F7.r ((F7.tr f16 f28).tr f32)))
    rw [a32]
    rfl)
theorem dX12_redeem_0 : decode prog_14_method_89_code 0 = .ok (.aload_n 0, 1) := by decide +kernel
theorem dX12_redeem_1 : decode prog_14_method_89_code 1 = .ok (.iload_n 1, 1) := by decide +kernel
theorem dX12_redeem_2 : decode prog_14_method_89_code 2 = .ok (.invokevirtual 369, 3) := by decide +kernel
theorem dX12_redeem_5 : decode prog_14_method_89_code 5 = .ok (.ifCond .ne 5, 3) := by decide +kernel
theorem dX12_redeem_8 : decode prog_14_method_89_code 8 = .ok (.iconst (-1), 1) := by decide +kernel
theorem dX12_redeem_9 : decode prog_14_method_89_code 9 = .ok (.ireturn, 1) := by decide +kernel
theorem dX12_redeem_10 : decode prog_14_method_89_code 10 = .ok (.aload_n 0, 1) := by decide +kernel
theorem dX12_redeem_11 : decode prog_14_method_89_code 11 = .ok (.invokevirtual 363, 3) := by decide +kernel
theorem dX12_redeem_14 : decode prog_14_method_89_code 14 = .ok (.aload_n 0, 1) := by decide +kernel
theorem dX12_redeem_15 : decode prog_14_method_89_code 15 = .ok (.iload_n 1, 1) := by decide +kernel
theorem dX12_redeem_16 : decode prog_14_method_89_code 16 = .ok (.invokevirtual 372, 3) := by decide +kernel
theorem dX12_redeem_19 : decode prog_14_method_89_code 19 = .ok (.ireturn, 1) := by decide +kernel
theorem sp_X12_redeem {q : Int} (cs : CS S R) (hA : I 307 = A) (hb : BA A) (hT : RTx (I 309) A tx) (hz : I 306 23 = 1) (hq : Rg q) (hn : 7 ≤ n) (hp : ∀ I', I' 307 = (f_redeem A tx q).2 → FR I I' → Post (some (.int (iI (f_redeem A tx q).1))) S I' R) : Call n 0 0 mX12_redeem [.ref (S.2.1 306), .int (iI q)] S I R Post := by
  have b0 := hb.1.1
  have b1 := hb.2.1.1
  have b2 := hb.2.1.2.1
  have b3 := hb.2.1.2.2.1
  have b4 := hb.2.1.2.2.2.1
  have b5 := hb.2.1.2.2.2.2.1
  have b6 := hb.2.1.2.2.2.2.2.1
  have b114 := hb.2.1.2.2.2.2.2.2
  have b7 : 0 ≤ A 7 ∧ A 7 ≤ 9999 := hb.1.2.1
  have b8 : 0 ≤ A 8 ∧ A 8 ≤ 30870 := hb.1.2.2.1
  have b9 : 0 ≤ A 9 ∧ A 9 ≤ 9999 := hb.1.2.2.2.1
  have b10 : 0 ≤ A 10 ∧ A 10 ≤ 1 := hb.1.2.2.2.2.1
  have b11 := BA_11 hb
  unfold f_redeem priceP at hp
  have hdb := duesP_b A tx (A 2) q.toNat 0 (A 9)
  refine Call.of (by decide +kernel) (Nat.le_of_ble_eq_true rfl) ?_
  show WP _ _ _ _ _ 0 [(0, _), (1, _)] [] 0 0 _ _ _
  refine x_aload_n dX12_redeem_0 rfl ?_
  refine x_iload_n dX12_redeem_1 rfl ?_
  refine x_callV1 (mc1 := 0) (ms1 := 0) dX12_redeem_2 cv_RX12_369 (ci := 12) (k_ob_306 cs) rfl (Nat.le_of_ble_eq_true rfl) (n1 := n - 1) (by omega) (by omega) (by omega) ?_
  refine sp_X12_canRedeem cs hA (BA_bn hb) hT (by omega) (by omega) (fun J2 r2 hF2 hr2 => ?_)
  have a2 : J2 307 = A := by rw [hF2 307 (by omega) (by omega) (by omega)]; exact hA
  refine x_if_ne 10 dX12_redeem_5 (by decide) (by omega) (fun w5 => ?_) (fun w5 => ?_)
  · refine x_aload_n dX12_redeem_10 rfl ?_
    refine x_callV0 (mc1 := 0) (ms1 := 0) dX12_redeem_11 cv_RX12_363 (ci := 12) (k_ob_306 cs) rfl (Nat.le_of_ble_eq_true rfl) (n1 := n - 1) (by omega) (by omega) (by omega) ?_
    refine sp_X12_keep cs a2 hb (fun J11 a11 f11 => ?_)
    refine x_aload_n dX12_redeem_14 rfl ?_
    refine x_iload_n dX12_redeem_15 rfl ?_
    refine x_callV1 (mc1 := 0) (ms1 := 0) dX12_redeem_16 cv_RX12_372 (ci := 12) (k_ob_306 cs) rfl (Nat.le_of_ble_eq_true rfl) (n1 := n - 1) (by omega) (by omega) (by omega) ?_
    have ea := keep_ag A
    refine sp_X12_redeemNow cs a11 (BA_bn (BA_keep hb)) (by rw [f11 309 (by omega), hF2 309 (by omega) (by omega) (by omega)]; exact fun t ht => hT t (by rw [← ea 1 (by omega) (by omega) (by omega)]; exact ht)) (by have := BA_11 (BA_keep hb); omega) (by rw [f11 306 (by omega), hF2 306 (by omega) (by omega) (by omega)]; exact hz) (by omega) (by omega) (fun J16 a16 f16 => ?_)
    rw [du_ag ea b0.2 (by omega), ea 2 (by omega) (by omega) (by omega), ea 9 (by omega) (by omega) (by omega)] at a16
    rw [du_ag ea b0.2 (by omega), ea 2 (by omega) (by omega) (by omega), ea 9 (by omega) (by omega) (by omega)]
    exact x_ireturn dX12_redeem_19 rfl (by omega) (by omega) (by first | (rw [if_neg (show ¬ (0 ≤ q ∧ q < A 0 ∧ A (12 + 3 * q.toNat) = 1 ∧ duesP A tx (A 2) q.toNat 0 (A 9) ≤ A 9) by omega), if_pos rfl] at hp; exact hp _ a2 hF2.r) | (rw [if_pos (show 0 ≤ q ∧ q < A 0 ∧ A (12 + 3 * q.toNat) = 1 ∧ duesP A tx (A 2) q.toNat 0 (A 9) ≤ A 9 by omega), if_neg (by omega)] at hp; exact hp _ a16 ((hF2.r.tr (F7.r f11)).tr f16)))
  · refine x_iconst dX12_redeem_8 ?_
    exact x_ireturn dX12_redeem_9 rfl (by omega) (by omega) (by first | (rw [if_neg (show ¬ (0 ≤ q ∧ q < A 0 ∧ A (12 + 3 * q.toNat) = 1 ∧ duesP A tx (A 2) q.toNat 0 (A 9) ≤ A 9) by omega), if_pos rfl] at hp; exact hp _ a2 hF2.r) | (rw [if_pos (show 0 ≤ q ∧ q < A 0 ∧ A (12 + 3 * q.toNat) = 1 ∧ duesP A tx (A 2) q.toNat 0 (A 9) ≤ A 9 by omega), if_neg (by omega)] at hp; exact hp _ a16 ((hF2.r.tr (F7.r f11)).tr f16)))
def FP (I I' : CI) : Prop := (∀ c, c ≠ 306 → c ≠ 307 → c ≠ 312 → c ≠ 313 → c ≠ 314 → I' c = I c) ∧ ∀ k, k ≠ 24 → I' 306 k = I 306 k
theorem FP.rf {I : CI} : FP I I := ⟨fun _ _ _ _ _ _ => rfl, fun _ _ => rfl⟩
theorem FP.tr {I I' I'' : CI} (h : FP I I') (h2 : FP I' I'') : FP I I'' := ⟨fun c h1 h3 h4 h5 h6 => (h2.1 c h1 h3 h4 h5 h6).trans (h.1 c h1 h3 h4 h5 h6), fun k hk => (h2.2 k hk).trans (h.2 k hk)⟩
theorem FR.p {I I' : CI} (h : FR I I') : FP I I' := ⟨fun c _ h1 h2 h3 h4 => h c h1 h2 h3 h4, fun k _ => by rw [h 306 (by omega) (by omega) (by omega) (by omega)]⟩
theorem FP.s {I : CI} {v : Int} : FP I (uI I 306 24 v) := ⟨fun c h1 _ _ _ _ => uI_row h1, fun k hk => uI_o (Or.inr hk)⟩
/-- the sales of a day, written or not -/
def saleR (z : Int) (A : Nat → Int) (tx : Nat → Nat → Int) : Nat → (Nat → Int) × Int
  | 0 => (A, 0)
  | k + 1 =>
    let p := saleR z A tx k
    if p.1 (12 + 3 * k) = 1 ∧ 0 < sellsP p.1 tx k then (wrB z (upA p.1 (12 + 3 * k) 3) k 2, p.2 + 1) else p
theorem saleR_1 : ∀ k : Nat, saleR 1 A tx k = saleA A tx k := by
  intro k
  induction k with
  | zero => rfl
  | succ k ih => simp only [saleR, saleA]; rw [ih]; rfl
theorem wrB_o {z : Int} {q w : Int} {i : Nat} (h : i ≠ 11) (h2 : i < 2815) : wrB z A q w i = A i := by
  unfold wrB
  split
  · unfold wrA; rw [upA_o h, upA_o (by omega), upA_o (by omega)]
  · rfl
theorem wrB_11 {z : Int} {q w : Int} : A 11 ≤ wrB z A q w 11 ∧ wrB z A q w 11 ≤ A 11 + 1 := by
  unfold wrB
  split
  · unfold wrA; rw [upA_s]; omega
  · omega
theorem BN_how (hN : BN A) {B : Nat → Int} {q : Nat} {v : Int} (hv : 0 ≤ v ∧ v ≤ 3) (h : ∀ i, i < 60 → i ≠ 3 → i ≠ 11 → B i = upA A (12 + 3 * q) v i) (hq : q < 8) : BN B := by
  obtain ⟨b0, b1, b2, b7, b8, b9, b10, bq⟩ := hN
  have e : ∀ i, i < 60 → i ≠ 3 → i ≠ 11 → i ≠ 12 + 3 * q → B i = A i := fun i h1 h2 h3 h4 => by rw [h i h1 h2 h3, upA_o h4]
  refine ⟨by rw [e 0 (by omega) (by omega) (by omega) (by omega)]; exact b0, by rw [e 1 (by omega) (by omega) (by omega) (by omega)]; exact b1, by rw [e 1 (by omega) (by omega) (by omega) (by omega), e 2 (by omega) (by omega) (by omega) (by omega)]; exact b2, by rw [e 7 (by omega) (by omega) (by omega) (by omega)]; exact b7, by rw [e 8 (by omega) (by omega) (by omega) (by omega)]; exact b8, by rw [e 9 (by omega) (by omega) (by omega) (by omega)]; exact b9, by rw [e 10 (by omega) (by omega) (by omega) (by omega)]; exact b10, fun p hp => ?_⟩
  have hb := bq p hp
  rw [e 7 (by omega) (by omega) (by omega) (by omega), e (13 + 3 * p) (by omega) (by omega) (by omega) (by omega), e (14 + 3 * p) (by omega) (by omega) (by omega) (by omega), e (36 + 2 * p) (by omega) (by omega) (by omega) (by omega), e (37 + 2 * p) (by omega) (by omega) (by omega) (by omega), e (52 + p) (by omega) (by omega) (by omega) (by omega)]
  refine ⟨?_, hb.2⟩
  by_cases hpq : p = q
  · rw [hpq, h _ (by omega) (by omega) (by omega), upA_s]; exact hv
  · rw [e _ (by omega) (by omega) (by omega) (by omega)]; exact hb.1
theorem saleR_k {B : Nat → Int} {z : Int} (hN : BN B) : ∀ k : Nat, (k : Int) ≤ B 0 → BN (saleR z B tx k).1 ∧ (∀ i : Nat, i < 11 → (saleR z B tx k).1 i = B i) ∧ (B 11 ≤ (saleR z B tx k).1 11 ∧ (saleR z B tx k).1 11 ≤ B 11 + k) ∧ 0 ≤ (saleR z B tx k).2 ∧ (saleR z B tx k).2 ≤ k := by
  intro k
  induction k with
  | zero => intro _; exact ⟨hN, fun _ _ => rfl, by show B 11 ≤ B 11 ∧ B 11 ≤ B 11 + ((0 : Nat) : Int); omega, Int.le_refl _, Int.le_refl _⟩
  | succ k ih =>
    intro hk
    have h0 := hN.1
    obtain ⟨i1, i2, i3, i4, i5⟩ := ih (by omega)
    simp only [saleR]
    split
    · have hw := wrB_11 (A := upA (saleR z B tx k).1 (12 + 3 * k) 3) (z := z) (q := k) (w := 2)
      rw [upA_o (show 11 ≠ 12 + 3 * k by omega)] at hw
      refine ⟨BN_how i1 (q := k) (v := 3) (by omega) (fun i h1 _ h2 => wrB_o h2 (by omega)) (by omega), fun i hi => ?_, by show _ ≤ wrB z _ _ _ 11 ∧ wrB z _ _ _ 11 ≤ _; omega, by show 0 ≤ _ + (1 : Int); omega, by show _ + (1 : Int) ≤ _; omega⟩
      show wrB z _ _ _ i = _
      rw [wrB_o (by omega) (by omega), upA_o (by omega)]
      exact i2 i hi
    · exact ⟨i1, i2, by omega, i4, by omega⟩
def passR (z : Int) (A : Nat → Int) (tx : Nat → Nat → Int) : (Nat → Int) × Int := (upA (saleR z (heatD (rainD A)) tx (heatD (rainD A) 0).toNat).1 7 (heatD (rainD A) 7 + 1), (saleR z (heatD (rainD A)) tx (heatD (rainD A) 0).toNat).2)
theorem passR_1 : passR 1 A tx = passA A tx := by unfold passR passA sellD; rw [saleR_1]
theorem dX12_pass_0 : decode prog_14_method_85_code 0 = .ok (.aload_n 0, 1) := by decide +kernel
theorem dX12_pass_1 : decode prog_14_method_85_code 1 = .ok (.getfield 7, 3) := by decide +kernel
theorem dX12_pass_4 : decode prog_14_method_85_code 4 = .ok (.bipush 10, 2) := by decide +kernel
theorem dX12_pass_6 : decode prog_14_method_85_code 6 = .ok (.aload_n 0, 1) := by decide +kernel
theorem dX12_pass_7 : decode prog_14_method_85_code 7 = .ok (.bipush 10, 2) := by decide +kernel
theorem dX12_pass_9 : decode prog_14_method_85_code 9 = .ok (.invokevirtual 348, 3) := by decide +kernel
theorem dX12_pass_12 : decode prog_14_method_85_code 12 = .ok (.iconst 4, 1) := by decide +kernel
theorem dX12_pass_13 : decode prog_14_method_85_code 13 = .ok (.if_icmp .ge 7, 3) := by decide +kernel
theorem dX12_pass_16 : decode prog_14_method_85_code 16 = .ok (.iconst 1, 1) := by decide +kernel
theorem dX12_pass_17 : decode prog_14_method_85_code 17 = .ok (.goto 4, 3) := by decide +kernel
theorem dX12_pass_20 : decode prog_14_method_85_code 20 = .ok (.iconst 0, 1) := by decide +kernel
theorem dX12_pass_21 : decode prog_14_method_85_code 21 = .ok (.iastore, 1) := by decide +kernel
theorem dX12_pass_22 : decode prog_14_method_85_code 22 = .ok (.aload_n 0, 1) := by decide +kernel
theorem dX12_pass_23 : decode prog_14_method_85_code 23 = .ok (.getfield 7, 3) := by decide +kernel
theorem dX12_pass_26 : decode prog_14_method_85_code 26 = .ok (.iconst 0, 1) := by decide +kernel
theorem dX12_pass_27 : decode prog_14_method_85_code 27 = .ok (.iaload, 1) := by decide +kernel
theorem dX12_pass_28 : decode prog_14_method_85_code 28 = .ok (.ifCond .le 17, 3) := by decide +kernel
theorem dX12_pass_31 : decode prog_14_method_85_code 31 = .ok (.aload_n 0, 1) := by decide +kernel
theorem dX12_pass_32 : decode prog_14_method_85_code 32 = .ok (.aload_n 0, 1) := by decide +kernel
theorem dX12_pass_33 : decode prog_14_method_85_code 33 = .ok (.aload_n 0, 1) := by decide +kernel
theorem dX12_pass_34 : decode prog_14_method_85_code 34 = .ok (.getfield 7, 3) := by decide +kernel
theorem dX12_pass_37 : decode prog_14_method_85_code 37 = .ok (.iconst 0, 1) := by decide +kernel
theorem dX12_pass_38 : decode prog_14_method_85_code 38 = .ok (.iaload, 1) := by decide +kernel
theorem dX12_pass_39 : decode prog_14_method_85_code 39 = .ok (.invokevirtual 348, 3) := by decide +kernel
theorem dX12_pass_42 : decode prog_14_method_85_code 42 = .ok (.invokevirtual 351, 3) := by decide +kernel
theorem dX12_pass_45 : decode prog_14_method_85_code 45 = .ok (.iconst 0, 1) := by decide +kernel
theorem dX12_pass_46 : decode prog_14_method_85_code 46 = .ok (.istore_n 1, 1) := by decide +kernel
theorem dX12_pass_47 : decode prog_14_method_85_code 47 = .ok (.iload_n 1, 1) := by decide +kernel
theorem dX12_pass_48 : decode prog_14_method_85_code 48 = .ok (.aload_n 0, 1) := by decide +kernel
theorem dX12_pass_49 : decode prog_14_method_85_code 49 = .ok (.getfield 7, 3) := by decide +kernel
theorem dX12_pass_52 : decode prog_14_method_85_code 52 = .ok (.iconst 0, 1) := by decide +kernel
theorem dX12_pass_53 : decode prog_14_method_85_code 53 = .ok (.iaload, 1) := by decide +kernel
theorem dX12_pass_54 : decode prog_14_method_85_code 54 = .ok (.if_icmp .ge 56, 3) := by decide +kernel
theorem dX12_pass_57 : decode prog_14_method_85_code 57 = .ok (.aload_n 0, 1) := by decide +kernel
theorem dX12_pass_58 : decode prog_14_method_85_code 58 = .ok (.iload_n 1, 1) := by decide +kernel
theorem dX12_pass_59 : decode prog_14_method_85_code 59 = .ok (.invokevirtual 89, 3) := by decide +kernel
theorem dX12_pass_62 : decode prog_14_method_85_code 62 = .ok (.ifCond .eq 42, 3) := by decide +kernel
theorem dX12_pass_65 : decode prog_14_method_85_code 65 = .ok (.aload_n 0, 1) := by decide +kernel
theorem dX12_pass_66 : decode prog_14_method_85_code 66 = .ok (.iload_n 1, 1) := by decide +kernel
theorem dX12_pass_67 : decode prog_14_method_85_code 67 = .ok (.invokevirtual 354, 3) := by decide +kernel
theorem dX12_pass_70 : decode prog_14_method_85_code 70 = .ok (.ifCond .gt 6, 3) := by decide +kernel
theorem dX12_pass_73 : decode prog_14_method_85_code 73 = .ok (.goto 31, 3) := by decide +kernel
theorem dX12_pass_76 : decode prog_14_method_85_code 76 = .ok (.aload_n 0, 1) := by decide +kernel
theorem dX12_pass_77 : decode prog_14_method_85_code 77 = .ok (.getfield 7, 3) := by decide +kernel
theorem dX12_pass_80 : decode prog_14_method_85_code 80 = .ok (.bipush 12, 2) := by decide +kernel
theorem dX12_pass_82 : decode prog_14_method_85_code 82 = .ok (.iconst 3, 1) := by decide +kernel
theorem dX12_pass_83 : decode prog_14_method_85_code 83 = .ok (.iload_n 1, 1) := by decide +kernel
theorem dX12_pass_84 : decode prog_14_method_85_code 84 = .ok (.imul, 1) := by decide +kernel
theorem dX12_pass_85 : decode prog_14_method_85_code 85 = .ok (.iadd, 1) := by decide +kernel
theorem dX12_pass_86 : decode prog_14_method_85_code 86 = .ok (.iconst 3, 1) := by decide +kernel
theorem dX12_pass_87 : decode prog_14_method_85_code 87 = .ok (.iastore, 1) := by decide +kernel
theorem dX12_pass_88 : decode prog_14_method_85_code 88 = .ok (.aload_n 0, 1) := by decide +kernel
theorem dX12_pass_89 : decode prog_14_method_85_code 89 = .ok (.dup, 1) := by decide +kernel
theorem dX12_pass_90 : decode prog_14_method_85_code 90 = .ok (.getfield 357, 3) := by decide +kernel
theorem dX12_pass_93 : decode prog_14_method_85_code 93 = .ok (.iconst 1, 1) := by decide +kernel
theorem dX12_pass_94 : decode prog_14_method_85_code 94 = .ok (.iadd, 1) := by decide +kernel
theorem dX12_pass_95 : decode prog_14_method_85_code 95 = .ok (.putfield 357, 3) := by decide +kernel
theorem dX12_pass_98 : decode prog_14_method_85_code 98 = .ok (.aload_n 0, 1) := by decide +kernel
theorem dX12_pass_99 : decode prog_14_method_85_code 99 = .ok (.iload_n 1, 1) := by decide +kernel
theorem dX12_pass_100 : decode prog_14_method_85_code 100 = .ok (.iconst 2, 1) := by decide +kernel
theorem dX12_pass_101 : decode prog_14_method_85_code 101 = .ok (.invokevirtual 345, 3) := by decide +kernel
theorem dX12_pass_104 : decode prog_14_method_85_code 104 = .ok (.iinc 1 1, 3) := by decide +kernel
theorem dX12_pass_107 : decode prog_14_method_85_code 107 = .ok (.goto (-60), 3) := by decide +kernel
theorem dX12_pass_110 : decode prog_14_method_85_code 110 = .ok (.aload_n 0, 1) := by decide +kernel
theorem dX12_pass_111 : decode prog_14_method_85_code 111 = .ok (.getfield 7, 3) := by decide +kernel
theorem dX12_pass_114 : decode prog_14_method_85_code 114 = .ok (.bipush 7, 2) := by decide +kernel
theorem dX12_pass_116 : decode prog_14_method_85_code 116 = .ok (.dup2, 1) := by decide +kernel
theorem dX12_pass_117 : decode prog_14_method_85_code 117 = .ok (.iaload, 1) := by decide +kernel
theorem dX12_pass_118 : decode prog_14_method_85_code 118 = .ok (.iconst 1, 1) := by decide +kernel
theorem dX12_pass_119 : decode prog_14_method_85_code 119 = .ok (.iadd, 1) := by decide +kernel
theorem dX12_pass_120 : decode prog_14_method_85_code 120 = .ok (.iastore, 1) := by decide +kernel
theorem dX12_pass_121 : decode prog_14_method_85_code 121 = .ok (.return_, 1) := by decide +kernel
theorem lp_X12_pass {B : Nat → Int} {z : Int} (cs : CS S R) (hz : I 306 23 = z ∧ (z = 0 ∨ z = 1)) (hN : BN B) (h11 : 0 ≤ B 11 ∧ B 11 ≤ 16) (hT : RTx (I 309) B tx) (hn : 5 ≤ n) (hp : ∀ I', I' 307 = upA (saleR z B tx (B 0).toNat).1 7 (B 7 + 1) → I' 306 24 = I 306 24 + (saleR z B tx (B 0).toNat).2 → FP I I' → Post none S I' R) : ∀ (d k : Nat) (J : CI), (k : Int) ≤ B 0 → (B 0).toNat - k = d → J 307 = (saleR z B tx k).1 → J 306 24 = I 306 24 + (saleR z B tx k).2 → FP I J → WP n 0 0 mX12_pass Post 47 [(0, .ref (S.2.1 306)), (1, .int (iI (k : Int)))] [] 0 0 S J R := by
  intro d
  induction d using Nat.strongRecOn with
  | ind d ih =>
    intro k J k1 k2 hA hs hF
    obtain ⟨A, hAe⟩ : ∃ A, A = (saleR z B tx k).1 := ⟨_, rfl⟩
    obtain ⟨i1, i2, i3, i4, i5⟩ := saleR_k (tx := tx) (z := z) hN k k1
    rw [← hAe] at hA i1 i2 i3
    have e0 := i2 0 (by omega)
    have e7 := i2 7 (by omega)
    have B0 := hN.1
    obtain ⟨b0, b1, b2, b7, b8, b9, b10, bq⟩ := id i1
    have hzJ : J 306 23 = z := by rw [hF.2 23 (by omega)]; exact hz.1
    have hTJ : RTx (J 309) A tx := by rw [hF.1 309 (by omega) (by omega) (by omega) (by omega) (by omega)]; exact fun t ht => hT t (by rw [← i2 1 (by omega)]; exact ht)
    have es : saleR z B tx (k + 1) = if A (12 + 3 * k) = 1 ∧ 0 < sellsP A tx k then (wrB z (upA A (12 + 3 * k) 3) k 2, (saleR z B tx k).2 + 1) else saleR z B tx k := by rw [hAe]; rfl
    have sb2 : -99 ≤ sellsP A tx k ∧ sellsP A tx k ≤ 99 := by unfold sellsP clampI; split <;> first | omega | (split <;> omega)
    by_cases hkk : (k : Int) < B 0
    · have bqk := bq k (by omega)
      refine x_iload_n dX12_pass_47 rfl ?_
      refine x_aload_n dX12_pass_48 rfl ?_
      refine x_getR (b := 307) dX12_pass_49 gf_RX12_7 (k_ob_306 cs) (fun _ _ => rfl) (k_r_306_0 cs) ?_
      refine x_iconst dX12_pass_52 ?_
      refine x_ald7 (kk := 0) (v := A 0) dX12_pass_53 cs (by omega) (by omega) (by rw [hA]; repeat (first | rfl | rw [upA_s] | rw [upA_o (by omega)])) ?_
      refine x_icmp_ge 110 dX12_pass_54 (by decide) ⟨(by omega), (by omega)⟩ (fun w54 => ?_) (fun w54 => ?_)
      · exfalso; omega
      · refine x_aload_n dX12_pass_57 rfl ?_
        refine x_iload_n dX12_pass_58 rfl ?_
        refine x_callV1 (mc1 := 0) (ms1 := 0) dX12_pass_59 cv_RX12_89 (ci := 12) (k_ob_306 cs) rfl (Nat.le_of_ble_eq_true rfl) (n1 := n - 1) (by omega) (by omega) (by omega) ?_
        refine sp_X12_isPawned cs hA (by omega) (by omega) (by omega) (fun r59 hr59 => ?_)
        refine x_if_eq 104 dX12_pass_62 (by decide) (by omega) (fun w62 => ?_) (fun w62 => ?_)
        · refine x_iinc (lv2 := [(1, _), (0, _)]) dX12_pass_104 rfl (by decide) rfl ?_
          refine x_goto 47 dX12_pass_107 (by decide) ?_
          refine x_sub [1, 0] rfl ?_
          first
            | (have ek : saleR z B tx (k + 1) = saleR z B tx k := (by rw [es]; exact if_neg (by omega))
               exact ih _ (by omega) (k + 1) J (by omega) rfl (by rw [ek, ← hAe]; exact hA) (by rw [ek]; exact hs) hF)
            | (have ek : saleR z B tx (k + 1) = saleR z B tx k := (by rw [es]; exact if_neg (by omega))
               exact ih _ (by omega) (k + 1) J67 (by omega) rfl (by rw [ek, ← hAe, hF67 307 (by omega) (by omega) (by omega)]; exact hA) (by rw [ek, hF67 306 (by omega) (by omega) (by omega)]; exact hs) (hF.tr hF67.r.p))
            | (have ek : saleR z B tx (k + 1) = (wrB z (upA A (12 + 3 * k) 3) k 2, (saleR z B tx k).2 + 1) := (by rw [es]; exact if_pos (by omega))
               refine ih _ (by omega) (k + 1) J101 (by omega) rfl (by rw [ek]; exact a101) ?_ (hF.tr (((hF67.r.tr (F7.r f87)).p.tr FP.s).tr (F7.r f101).p))
               rw [ek, f101 306 (by omega), uI_s]
               show _ = I 306 24 + ((saleR z B tx k).2 + 1)
               omega)
        · refine x_aload_n dX12_pass_65 rfl ?_
          refine x_iload_n dX12_pass_66 rfl ?_
          refine x_callV1 (mc1 := 0) (ms1 := 0) dX12_pass_67 cv_RX12_354 (ci := 12) (k_ob_306 cs) rfl (Nat.le_of_ble_eq_true rfl) (n1 := n - 1) (by omega) (by omega) (by omega) ?_
          refine sp_X12_sellsOf cs hA i1 hTJ (by omega) (by omega) (fun J67 hF67 => ?_)
          have a67 : J67 307 = A := by rw [hF67 307 (by omega) (by omega) (by omega)]; exact hA
          refine x_if_gt 76 dX12_pass_70 (by decide) (by omega) (fun w70 => ?_) (fun w70 => ?_)
          · refine x_aload_n dX12_pass_76 rfl ?_
            refine x_getR (b := 307) dX12_pass_77 gf_RX12_7 (k_ob_306 cs) (fun _ _ => rfl) (k_r_306_0 cs) ?_
            refine x_bipush dX12_pass_80 (by decide) ?_
            refine x_iconst dX12_pass_82 ?_
            refine x_iload_n dX12_pass_83 rfl ?_
            refine x_imul dX12_pass_84 ?_
            refine x_iadd dX12_pass_85 ?_
            refine x_iconst dX12_pass_86 ?_
            refine x_ast7 (kk := 12 + 3 * k) dX12_pass_87 cs (by omega) (by omega) a67 (fun J87 a87 f87 => ?_)
            refine x_aload_n dX12_pass_88 rfl ?_
            refine x_dup dX12_pass_89 rfl ?_
            refine x_getIv (z := I 306 24 + (saleR z B tx k).2) dX12_pass_90 gf_RX12_357 (k_ob_306 cs) (fun _ _ => rfl) (by rw [f87 306 (by omega), hF67 306 (by omega) (by omega) (by omega)]; exact hs) ?_
            refine x_iconst dX12_pass_93 ?_
            refine x_iadd dX12_pass_94 ?_
            refine x_putI dX12_pass_95 gf_RX12_357 (k_ob_306 cs) rfl ?_
            refine x_aload_n dX12_pass_98 rfl ?_
            refine x_iload_n dX12_pass_99 rfl ?_
            refine x_iconst dX12_pass_100 ?_
            refine x_callV2 (mc1 := 0) (ms1 := 0) dX12_pass_101 cv_RX12_345 (ci := 12) (k_ob_306 cs) rfl (Nat.le_of_ble_eq_true rfl) (n1 := n - 1) (by omega) (by omega) (by omega) ?_
            have au : uI J87 306 24 (I 306 24 + (saleR z B tx k).2 + 1) 307 = upA A (12 + 3 * k) 3 := by rw [uI_row (by omega)]; exact a87
            have zu : uI J87 306 24 (I 306 24 + (saleR z B tx k).2 + 1) 306 23 = z := by rw [uI_o (by omega), f87 306 (by omega), hF67 306 (by omega) (by omega) (by omega)]; exact hzJ
            refine sp_X12_write cs au (by rw [upA_o (by omega)]; omega) (by rw [zu]; exact hz.2) (fun J101 a101 f101 => ?_)
            rw [zu] at a101
            refine x_iinc (lv2 := [(1, _), (0, _)]) dX12_pass_104 rfl (by decide) rfl ?_
            refine x_goto 47 dX12_pass_107 (by decide) ?_
            refine x_sub [1, 0] rfl ?_
            first
              | (have ek : saleR z B tx (k + 1) = saleR z B tx k := (by rw [es]; exact if_neg (by omega))
                 exact ih _ (by omega) (k + 1) J (by omega) rfl (by rw [ek, ← hAe]; exact hA) (by rw [ek]; exact hs) hF)
              | (have ek : saleR z B tx (k + 1) = saleR z B tx k := (by rw [es]; exact if_neg (by omega))
                 exact ih _ (by omega) (k + 1) J67 (by omega) rfl (by rw [ek, ← hAe, hF67 307 (by omega) (by omega) (by omega)]; exact hA) (by rw [ek, hF67 306 (by omega) (by omega) (by omega)]; exact hs) (hF.tr hF67.r.p))
              | (have ek : saleR z B tx (k + 1) = (wrB z (upA A (12 + 3 * k) 3) k 2, (saleR z B tx k).2 + 1) := (by rw [es]; exact if_pos (by omega))
                 refine ih _ (by omega) (k + 1) J101 (by omega) rfl (by rw [ek]; exact a101) ?_ (hF.tr (((hF67.r.tr (F7.r f87)).p.tr FP.s).tr (F7.r f101).p))
                 rw [ek, f101 306 (by omega), uI_s]
                 show _ = I 306 24 + ((saleR z B tx k).2 + 1)
                 omega)
          · refine x_goto 104 dX12_pass_73 (by decide) ?_
            refine x_iinc (lv2 := [(1, _), (0, _)]) dX12_pass_104 rfl (by decide) rfl ?_
            refine x_goto 47 dX12_pass_107 (by decide) ?_
            refine x_sub [1, 0] rfl ?_
            first
              | (have ek : saleR z B tx (k + 1) = saleR z B tx k := (by rw [es]; exact if_neg (by omega))
                 exact ih _ (by omega) (k + 1) J (by omega) rfl (by rw [ek, ← hAe]; exact hA) (by rw [ek]; exact hs) hF)
              | (have ek : saleR z B tx (k + 1) = saleR z B tx k := (by rw [es]; exact if_neg (by omega))
                 exact ih _ (by omega) (k + 1) J67 (by omega) rfl (by rw [ek, ← hAe, hF67 307 (by omega) (by omega) (by omega)]; exact hA) (by rw [ek, hF67 306 (by omega) (by omega) (by omega)]; exact hs) (hF.tr hF67.r.p))
              | (have ek : saleR z B tx (k + 1) = (wrB z (upA A (12 + 3 * k) 3) k 2, (saleR z B tx k).2 + 1) := (by rw [es]; exact if_pos (by omega))
                 refine ih _ (by omega) (k + 1) J101 (by omega) rfl (by rw [ek]; exact a101) ?_ (hF.tr (((hF67.r.tr (F7.r f87)).p.tr FP.s).tr (F7.r f101).p))
                 rw [ek, f101 306 (by omega), uI_s]
                 show _ = I 306 24 + ((saleR z B tx k).2 + 1)
                 omega)
    · obtain rfl : k = (B 0).toNat := by omega
      refine x_iload_n dX12_pass_47 rfl ?_
      refine x_aload_n dX12_pass_48 rfl ?_
      refine x_getR (b := 307) dX12_pass_49 gf_RX12_7 (k_ob_306 cs) (fun _ _ => rfl) (k_r_306_0 cs) ?_
      refine x_iconst dX12_pass_52 ?_
      refine x_ald7 (kk := 0) (v := A 0) dX12_pass_53 cs (by omega) (by omega) (by rw [hA]; repeat (first | rfl | rw [upA_s] | rw [upA_o (by omega)])) ?_
      refine x_icmp_ge 110 dX12_pass_54 (by decide) ⟨(by omega), (by omega)⟩ (fun w54 => ?_) (fun w54 => ?_)
      · refine x_aload_n dX12_pass_110 rfl ?_
        refine x_getR (b := 307) dX12_pass_111 gf_RX12_7 (k_ob_306 cs) (fun _ _ => rfl) (k_r_306_0 cs) ?_
        refine x_bipush dX12_pass_114 (by decide) ?_
        refine x_dup2 dX12_pass_116 rfl rfl ?_
        refine x_ald7 (kk := 7) (v := B 7) dX12_pass_117 cs (by omega) (by omega) (by rw [hA]; exact e7) ?_
        refine x_iconst dX12_pass_118 ?_
        refine x_iadd dX12_pass_119 ?_
        refine x_ast7 (kk := 7) dX12_pass_120 cs (by omega) (by omega) hA (fun J120 a120 f120 => ?_)
        exact x_return dX12_pass_121 rfl (by omega) (by omega) (by refine hp _ ?_ ?_ (hF.tr (F7.r (F7.rf.tr f120)).p); (rw [a120, hAe]); (rw [(F7.rf.tr f120) 306 (by omega)]; exact hs))
      · exfalso; omega
end Ref11
