section Ref12
variable {n mc ms : Nat} {M : Md} {pc : Nat} {lv : List (Nat × Value)} {st : List Value} {k j : Nat} {Post : PT} {S : Sh} {I : CI} {R : CR} {A : Nat → Int} {tx : Nat → Nat → Int}
theorem BA_passA (hb : BA A) (h7 : A 7 < 9999) : BA (passA A tx).1 := by
  have hB := BA_heatD (BA_rainD hb)
  have h0 := hB.1.1
  have hk := saleA_k (tx := tx) hB (heatD (rainD A) 0).toNat (by omega)
  have e7 : heatD (rainD A) 7 = A 7 := by rw [heat_lo (BA_rainD hb) (by omega), rain_lo (by omega)]
  unfold passA sellD
  exact BA_day hk.1 (by rw [hk.2.1 7 (by omega)]; omega)
theorem BA_redeemF (hb : BA A) {q : Int} : BA (f_redeem A tx q).2 := by
  unfold f_redeem
  split
  · exact hb
  · rename_i h
    have pb := priceP_b (A := A) (tx := tx) (q := q) h
    have kl : ∀ i : Nat, i ≠ 3 → i < 115 → keepA A i = A i := fun i h1 h2 => kp_lo h1 (Or.inl h2)
    exact BA_redeem (BA_keep hb) (by rw [kl 0 (by decide) (by decide)]; exact pb.1) (by have := hb.1.1; rw [kl _ (by omega) (by omega)]; exact pb.2.1) (by rw [kl 9 (by decide) (by decide)]; exact pb.2.2)
theorem BA_dstep (hb : BA A) (h7 : A 7 < 9999) : BA (dstep A tx).1 := BA_passA (BA_keep hb) (by rw [kp_lo (by omega) (by omega)]; exact h7)
theorem dstep_7 (hb : BA A) : (dstep A tx).1 7 = A 7 + 1 := by
  show (passA (keepA A) tx).1 7 = _
  rw [pass_7 (BA_keep hb), kp_lo (by omega) (by omega)]
theorem dstep_1 (hb : BA A) : (dstep A tx).1 1 = A 1 := by
  show (passA (keepA A) tx).1 1 = _
  rw [pass_lo (BA_keep hb) (by omega), kp_lo (by omega) (by omega)]
theorem dstep_2b (hb : BA A) : 0 ≤ (dstep A tx).2 ∧ (dstep A tx).2 ≤ 8 := by
  have hB := BA_heatD (BA_rainD (BA_keep hb))
  have h0 := hB.1.1
  have hk := saleA_k (tx := tx) hB (heatD (rainD (keepA A)) 0).toNat (by omega)
  have : (dstep A tx).2 = (saleA (heatD (rainD (keepA A))) tx (heatD (rainD (keepA A)) 0).toNat).2 := rfl
  omega
theorem BA_live (hb : BA A) : BA (liveA A tx) := by
  have hB : BA (upA A 8 (anx (A 8))) := BA_x hb (anx_b _)
  have h0 := hb.1.1
  have h8 : 0 ≤ A 8 ∧ A 8 ≤ 30870 := hb.1.2.2.1
  have h9 : 0 ≤ A 9 ∧ A 9 ≤ 9999 := hb.1.2.2.2.1
  have u0 : upA A 8 (anx (A 8)) 0 = A 0 := upA_o (by omega)
  have u7 : upA A 8 (anx (A 8)) 7 = A 7 := upA_o (by omega)
  unfold liveA
  dsimp only
  split
  · split
    · exact BA_passA hB (by rw [u7]; assumption)
    · exact hB
  · split
    · split
      · exact BA_purse hB (by omega)
      · exact hB
    · split
      · rename_i hq
        have r1 := Int.emod_nonneg (A 8 / 6) (show A 0 ≠ 0 by omega)
        have r2 := Int.emod_lt_of_pos (A 8 / 6) hq
        split
        · split
          · rename_i hh
            exact BA_pawn hB (by rw [u0]; omega) (by rw [upA_o (by omega)]; exact hh)
          · exact hB
        · split
          · exact hB
          · rename_i hpr
            have pb := priceP_b (A := upA A 8 (anx (A 8))) (tx := tx) hpr
            exact BA_redeem hB pb.1 pb.2.1 pb.2.2
      · exact hB
theorem BN_rainD (hN : BN A) : BN (rainD A) := by
  obtain ⟨b0, b1, b2, b7, b8, b9, b10, bq⟩ := id hN
  have e : ∀ i, i ≠ 8 → i ≠ 10 → rainD A i = A i := fun i h1 h2 => rain_lo ⟨h1, h2⟩
  have e8 : rainD A 8 = anx (A 8) := by unfold rainD; rw [upA_o (by omega), upA_s]
  have e10 : rainD A 10 = if A 8 % 10 < 4 then 1 else 0 := by unfold rainD; rw [upA_s]
  refine ⟨by rw [e 0 (by omega) (by omega)]; exact b0, by rw [e 1 (by omega) (by omega)]; exact b1, by rw [e 1 (by omega) (by omega), e 2 (by omega) (by omega)]; exact b2, by rw [e 7 (by omega) (by omega)]; exact b7, by rw [e8]; exact anx_b _, by rw [e 9 (by omega) (by omega)]; exact b9, by rw [e10]; split <;> omega, fun p hp => ?_⟩
  rw [e 7 (by omega) (by omega), e (12 + 3 * p) (by omega) (by omega), e (13 + 3 * p) (by omega) (by omega), e (14 + 3 * p) (by omega) (by omega), e (36 + 2 * p) (by omega) (by omega), e (37 + 2 * p) (by omega) (by omega), e (52 + p) (by omega) (by omega)]
  exact bq p hp
theorem warm_at {q : Int} {i : Nat} (hq : 0 ≤ q ∧ q < 8) (h : i ≠ 14 + 3 * q.toNat) : warmA A q i = A i := by unfold warmA; split <;> first | rw [upA_o h] | (split <;> first | rw [upA_o h] | rfl)
theorem warm_in {q : Int} (hq : 0 ≤ q ∧ q < 8) (h : 0 ≤ A (14 + 3 * q.toNat) ∧ A (14 + 3 * q.toNat) ≤ 9) : 0 ≤ warmA A q (14 + 3 * q.toNat) ∧ warmA A q (14 + 3 * q.toNat) ≤ 9 := by
  unfold warmA
  split
  · rw [upA_s]; split <;> omega
  · split
    · rw [upA_s]; split <;> omega
    · exact h
theorem BN_heatD (hN : BN A) : BN (heatD A) := by
  obtain ⟨b0, b1, b2, b7, b8, b9, b10, bq⟩ := id hN
  unfold heatD
  split
  · rename_i hq
    have r1 := Int.emod_nonneg (A 8) (show A 0 ≠ 0 by omega)
    have r2 := Int.emod_lt_of_pos (A 8) hq
    have e : ∀ i, i ≠ 8 → i ≠ 14 + 3 * (A 8 % A 0).toNat → warmA (upA A 8 (anx (A 8))) (A 8 % A 0) i = A i := fun i h1 h2 => by rw [warm_at (by omega) h2, upA_o h1]
    have e8 : warmA (upA A 8 (anx (A 8))) (A 8 % A 0) 8 = anx (A 8) := by rw [warm_at (by omega) (by omega), upA_s]
    refine ⟨by rw [e 0 (by omega) (by omega)]; exact b0, by rw [e 1 (by omega) (by omega)]; exact b1, by rw [e 1 (by omega) (by omega), e 2 (by omega) (by omega)]; exact b2, by rw [e 7 (by omega) (by omega)]; exact b7, by rw [e8]; exact anx_b _, by rw [e 9 (by omega) (by omega)]; exact b9, by rw [e 10 (by omega) (by omega)]; exact b10, fun p hp => ?_⟩
    have hb := bq p hp
    rw [e 7 (by omega) (by omega), e (12 + 3 * p) (by omega) (by omega), e (13 + 3 * p) (by omega) (by omega), e (36 + 2 * p) (by omega) (by omega), e (37 + 2 * p) (by omega) (by omega), e (52 + p) (by omega) (by omega)]
    refine ⟨hb.1, hb.2.1, ?_, hb.2.2.2⟩
    by_cases hpq : p = (A 8 % A 0).toNat
    · rw [hpq]
      exact warm_in (by omega) (by rw [upA_o (by omega)]; rw [← hpq]; exact hb.2.2.1)
    · rw [e _ (by omega) (by omega)]; exact hb.2.2.1
  · exact hN
theorem heat_at {i : Nat} (hN : BN A) (h : i ≠ 8 ∧ (i < 14 ∨ 36 ≤ i)) : heatD A i = A i := by
  obtain ⟨b0, -⟩ := id hN
  unfold heatD
  split
  · rename_i hq
    have r1 := Int.emod_nonneg (A 8) (show A 0 ≠ 0 by omega)
    have r2 := Int.emod_lt_of_pos (A 8) hq
    rw [warm_at (by omega) (by omega), upA_o h.1]
  · rfl
theorem lp2_X12_pass {B : Nat → Int} {z : Int} (cs : CS S R) (hA : I 307 = B) (hz : I 306 23 = z ∧ (z = 0 ∨ z = 1)) (hN : BN B) (h11 : 0 ≤ B 11 ∧ B 11 ≤ 16) (hT : RTx (I 309) B tx) (hn : 5 ≤ n) (hp : ∀ I', I' 307 = upA (saleR z (heatD B) tx (heatD B 0).toNat).1 7 (heatD B 7 + 1) → I' 306 24 = I 306 24 + (saleR z (heatD B) tx (heatD B 0).toNat).2 → FP I I' → Post none S I' R) : WP n 0 0 mX12_pass Post 22 [(0, .ref (S.2.1 306))] [] 0 0 S I R := by
  obtain ⟨b0, b1, b2, b7, b8, b9, b10, bq⟩ := id hN
  have hNh := BN_heatD hN
  have h1h := heat_at hN (i := 1) (by omega)
  have h11h := heat_at hN (i := 11) (by omega)
  have hz0 : heatD B 0 = B 0 := heat_at hN (by omega)
  refine x_aload_n dX12_pass_22 rfl ?_
  refine x_getR (b := 307) dX12_pass_23 gf_RX12_7 (k_ob_306 cs) (fun _ _ => rfl) (k_r_306_0 cs) ?_
  refine x_iconst dX12_pass_26 ?_
  refine x_ald7 (kk := 0) (v := B 0) dX12_pass_27 cs (by omega) (by omega) (by rw [hA]; repeat (first | rfl | rw [upA_s] | rw [upA_o (by omega)])) ?_
  refine x_if_le 45 dX12_pass_28 (by decide) (by omega) (fun w28 => ?_) (fun w28 => ?_)
  · refine x_iconst dX12_pass_45 ?_
    refine x_istore_n (lv2 := [(1, _), (0, _)]) dX12_pass_46 (by decide) rfl ?_
    refine x_sub [1, 0] rfl ?_
    first
      | (have fh : F7 I J42 := F7.tr f39 f42
         exact lp_X12_pass (I := J42) (B := heatD B) cs ⟨by rw [fh 306 (by omega)]; exact hz.1, hz.2⟩ hNh (by omega) (by rw [fh 309 (by omega)]; exact fun t ht => hT t (by rw [← h1h]; exact ht)) hn (fun I' q1 q2 q3 => hp I' q1 (by rw [q2, fh 306 (by omega)]) ((F7.r fh).p.tr q3)) _ 0 J42 (by omega) rfl a42 (by simp [saleR]) FP.rf)
      | (have eh : heatD B = B := if_neg (by omega)
         rw [eh] at hp
         exact lp_X12_pass (I := I) (B := B) cs hz hN h11 hT hn hp _ 0 I (by omega) rfl hA (by simp [saleR]) FP.rf)
  · refine x_aload_n dX12_pass_31 rfl ?_
    refine x_aload_n dX12_pass_32 rfl ?_
    refine x_aload_n dX12_pass_33 rfl ?_
    refine x_getR (b := 307) dX12_pass_34 gf_RX12_7 (k_ob_306 cs) (fun _ _ => rfl) (k_r_306_0 cs) ?_
    refine x_iconst dX12_pass_37 ?_
    refine x_ald7 (kk := 0) (v := B 0) dX12_pass_38 cs (by omega) (by omega) (by rw [hA]; repeat (first | rfl | rw [upA_s] | rw [upA_o (by omega)])) ?_
    refine x_callV1 (mc1 := 0) (ms1 := 0) dX12_pass_39 cv_RX12_348 (ci := 12) (k_ob_306 cs) rfl (Nat.le_of_ble_eq_true rfl) (n1 := n - 1) (by omega) (by omega) (by omega) ?_
    have r1 := Int.emod_nonneg (B 8) (show B 0 ≠ 0 by omega)
    have r2 := Int.emod_lt_of_pos (B 8) (show 0 < B 0 by omega)
    refine sp_X12_drawnBy cs hA (by omega) (by omega) (by omega) (fun J39 a39 f39 => ?_)
    refine x_callV1 (mc1 := 0) (ms1 := 0) dX12_pass_42 cv_RX12_351 (ci := 12) (k_ob_306 cs) rfl (Nat.le_of_ble_eq_true rfl) (n1 := n - 1) (by omega) (by omega) (by omega) ?_
    have bqq := bq (B 8 % B 0).toNat (by omega)
    refine sp_X12_warm cs a39 (by omega) (by rw [upA_o (by omega)]; exact bqq.1) (by rw [upA_o (by omega)]; exact bqq.2.2.1) (by rw [upA_o (by omega)]; exact b10) (by omega) (fun J42 a42 f42 => ?_)
    rw [show warmA (upA B 8 (anx (B 8))) (B 8 % B 0) = heatD B from (if_pos (by omega)).symm] at a42
    refine x_iconst dX12_pass_45 ?_
    refine x_istore_n (lv2 := [(1, _), (0, _)]) dX12_pass_46 (by decide) rfl ?_
    refine x_sub [1, 0] rfl ?_
    first
      | (have fh : F7 I J42 := F7.tr f39 f42
         exact lp_X12_pass (I := J42) (B := heatD B) cs ⟨by rw [fh 306 (by omega)]; exact hz.1, hz.2⟩ hNh (by omega) (by rw [fh 309 (by omega)]; exact fun t ht => hT t (by rw [← h1h]; exact ht)) hn (fun I' q1 q2 q3 => hp I' q1 (by rw [q2, fh 306 (by omega)]) ((F7.r fh).p.tr q3)) _ 0 J42 (by omega) rfl a42 (by simp [saleR]) FP.rf)
      | (have eh : heatD B = B := if_neg (by omega)
         rw [eh] at hp
         exact lp_X12_pass (I := I) (B := B) cs hz hN h11 hT hn hp _ 0 I (by omega) rfl hA (by simp [saleR]) FP.rf)
theorem sp_X12_pass {z : Int} (cs : CS S R) (hA : I 307 = A) (hN : BN A) (hT : RTx (I 309) A tx) (h11 : 0 ≤ A 11 ∧ A 11 ≤ 16) (hz : I 306 23 = z ∧ (z = 0 ∨ z = 1)) (hn : 5 ≤ n) (hp : ∀ I', I' 307 = (passR z A tx).1 → I' 306 24 = I 306 24 + (passR z A tx).2 → FP I I' → Post none S I' R) : Call n 0 0 mX12_pass [.ref (S.2.1 306)] S I R Post := by
  obtain ⟨b0, b1, b2, b7, b8, b9, b10, bq⟩ := id hN
  have hNr := BN_rainD hN
  have e1 := rain_lo (A := A) (i := 1) (by omega)
  have e11 := rain_lo (A := A) (i := 11) (by omega)
  refine Call.of (by decide +kernel) (Nat.le_of_ble_eq_true rfl) ?_
  show WP _ _ _ _ _ 0 [(0, _)] [] 0 0 _ _ _
  refine x_aload_n dX12_pass_0 rfl ?_
  refine x_getR (b := 307) dX12_pass_1 gf_RX12_7 (k_ob_306 cs) (fun _ _ => rfl) (k_r_306_0 cs) ?_
  refine x_bipush dX12_pass_4 (by decide) ?_
  refine x_aload_n dX12_pass_6 rfl ?_
  refine x_bipush dX12_pass_7 (by decide) ?_
  refine x_callV1 (mc1 := 0) (ms1 := 0) dX12_pass_9 cv_RX12_348 (ci := 12) (k_ob_306 cs) rfl (Nat.le_of_ble_eq_true rfl) (n1 := n - 1) (by omega) (by omega) (by omega) ?_
  refine sp_X12_drawnBy cs hA (by omega) (by omega) (by omega) (fun J9 a9 f9 => ?_)
  refine x_iconst dX12_pass_12 ?_
  refine x_icmp_ge 20 dX12_pass_13 (by decide) ⟨(by omega), (by omega)⟩ (fun w13 => ?_) (fun w13 => ?_)
  · refine x_iconst dX12_pass_20 ?_
    refine x_ast7 (kk := 10) dX12_pass_21 cs (by omega) (by omega) a9 (fun J21 a21 f21 => ?_)
    have er : J21 307 = rainD A := by
      rw [a21]
      unfold rainD
      congr 1
      first | rw [if_pos (by omega)] | rw [if_neg (by omega)]
    have fh : F7 I J21 := F7.tr f9 f21
    exact lp2_X12_pass cs er ⟨by rw [fh 306 (by omega)]; exact hz.1, hz.2⟩ hNr (by omega) (by rw [fh 309 (by omega)]; exact fun t ht => hT t (by rw [← e1]; exact ht)) hn (fun I' q1 q2 q3 => hp I' q1 (by rw [q2, fh 306 (by omega)]; rfl) ((F7.r fh).p.tr q3))
  · refine x_iconst dX12_pass_16 ?_
    refine x_goto 21 dX12_pass_17 (by decide) ?_
    refine x_ast7 (kk := 10) dX12_pass_21 cs (by omega) (by omega) a9 (fun J21 a21 f21 => ?_)
    have er : J21 307 = rainD A := by
      rw [a21]
      unfold rainD
      congr 1
      first | rw [if_pos (by omega)] | rw [if_neg (by omega)]
    have fh : F7 I J21 := F7.tr f9 f21
    exact lp2_X12_pass cs er ⟨by rw [fh 306 (by omega)]; exact hz.1, hz.2⟩ hNr (by omega) (by rw [fh 309 (by omega)]; exact fun t ht => hT t (by rw [← e1]; exact ht)) hn (fun I' q1 q2 q3 => hp I' q1 (by rw [q2, fh 306 (by omega)]; rfl) ((F7.r fh).p.tr q3))
theorem dX12_arePassed_0 : decode prog_14_method_91_code 0 = .ok (.aload_n 0, 1) := by decide +kernel
theorem dX12_arePassed_1 : decode prog_14_method_91_code 1 = .ok (.iconst 0, 1) := by decide +kernel
theorem dX12_arePassed_2 : decode prog_14_method_91_code 2 = .ok (.putfield 357, 3) := by decide +kernel
theorem dX12_arePassed_5 : decode prog_14_method_91_code 5 = .ok (.iconst 0, 1) := by decide +kernel
theorem dX12_arePassed_6 : decode prog_14_method_91_code 6 = .ok (.istore_n 2, 1) := by decide +kernel
theorem dX12_arePassed_7 : decode prog_14_method_91_code 7 = .ok (.iload_n 2, 1) := by decide +kernel
theorem dX12_arePassed_8 : decode prog_14_method_91_code 8 = .ok (.iload_n 1, 1) := by decide +kernel
theorem dX12_arePassed_9 : decode prog_14_method_91_code 9 = .ok (.if_icmp .ge 32, 3) := by decide +kernel
theorem dX12_arePassed_12 : decode prog_14_method_91_code 12 = .ok (.aload_n 0, 1) := by decide +kernel
theorem dX12_arePassed_13 : decode prog_14_method_91_code 13 = .ok (.getfield 7, 3) := by decide +kernel
theorem dX12_arePassed_16 : decode prog_14_method_91_code 16 = .ok (.bipush 7, 2) := by decide +kernel
theorem dX12_arePassed_18 : decode prog_14_method_91_code 18 = .ok (.iaload, 1) := by decide +kernel
theorem dX12_arePassed_19 : decode prog_14_method_91_code 19 = .ok (.sipush 9999, 3) := by decide +kernel
theorem dX12_arePassed_22 : decode prog_14_method_91_code 22 = .ok (.if_icmp .ne 5, 3) := by decide +kernel
theorem dX12_arePassed_25 : decode prog_14_method_91_code 25 = .ok (.iconst 0, 1) := by decide +kernel
theorem dX12_arePassed_26 : decode prog_14_method_91_code 26 = .ok (.ireturn, 1) := by decide +kernel
theorem dX12_arePassed_27 : decode prog_14_method_91_code 27 = .ok (.aload_n 0, 1) := by decide +kernel
theorem dX12_arePassed_28 : decode prog_14_method_91_code 28 = .ok (.invokevirtual 363, 3) := by decide +kernel
theorem dX12_arePassed_31 : decode prog_14_method_91_code 31 = .ok (.aload_n 0, 1) := by decide +kernel
theorem dX12_arePassed_32 : decode prog_14_method_91_code 32 = .ok (.invokevirtual 378, 3) := by decide +kernel
theorem dX12_arePassed_35 : decode prog_14_method_91_code 35 = .ok (.iinc 2 1, 3) := by decide +kernel
theorem dX12_arePassed_38 : decode prog_14_method_91_code 38 = .ok (.goto (-31), 3) := by decide +kernel
theorem dX12_arePassed_41 : decode prog_14_method_91_code 41 = .ok (.iconst 1, 1) := by decide +kernel
theorem dX12_arePassed_42 : decode prog_14_method_91_code 42 = .ok (.ireturn, 1) := by decide +kernel
theorem dayL_pd : ∀ k : Nat, (pdA A tx k).2 = 1 → (dayL A tx k).1 = (pdA A tx k).1 := by
  intro k
  induction k with
  | zero => intro _; rfl
  | succ k ih =>
    intro h
    simp only [pdA] at h ⊢
    by_cases hc : (pdA A tx k).2 = 1 ∧ (pdA A tx k).1 7 < 9999
    · rw [if_pos hc]
      simp only [dayL]
      rw [ih hc.1]
    · rw [if_neg hc] at h; exact absurd (show (0 : Int) = 1 from h) (by decide)
theorem lp_X12_arePassed {m : Int} (cs : CS S R) (hm : m ≤ 10000 ∧ Rg m) (hz : I 306 23 = 1) (hn : 6 ≤ n) (hT : RTx (I 309) A tx) (hp : ∀ I', I' 307 = (pdA A tx m.toNat).1 → ((pdA A tx m.toNat).2 = 1 → I' 306 24 = (dayL A tx m.toNat).2) → FP I I' → Post (some (.int (iI (pdA A tx m.toNat).2))) S I' R) : ∀ (d k : Nat) (J : CI), k ≤ m.toNat → m.toNat - k = d → J 307 = (pdA A tx k).1 → BA (pdA A tx k).1 → (pdA A tx k).1 1 = A 1 → (pdA A tx k).2 = 1 → J 306 24 = (dayL A tx k).2 → (0 ≤ (dayL A tx k).2 ∧ (dayL A tx k).2 ≤ 8 * k) → FP I J → WP n 0 0 mX12_arePassed Post 7 [(0, .ref (S.2.1 306)), (1, .int (iI m)), (2, .int (iI (k : Int)))] [] 0 0 S J R := by
  intro d
  induction d using Nat.strongRecOn with
  | ind d ih =>
    intro k J k1 k2 hA hb h1 hpd hs hs2 hF
    obtain ⟨B, hB⟩ : ∃ B, B = (pdA A tx k).1 := ⟨_, rfl⟩
    rw [← hB] at hA hb h1
    have b7 : 0 ≤ B 7 ∧ B 7 ≤ 9999 := hb.1.2.1
    have hN := BA_bn (BA_keep hb)
    refine x_iload_n dX12_arePassed_7 rfl ?_
    refine x_iload_n dX12_arePassed_8 rfl ?_
    refine x_icmp_ge 41 dX12_arePassed_9 (by decide) ⟨(by omega), (by omega)⟩ (fun w9 => ?_) (fun w9 => ?_)
    · refine x_iconst dX12_arePassed_41 ?_
      exact x_zreturn (by omega) dX12_arePassed_42 rfl (by omega) (by omega) (by
    first
      | (obtain rfl : k = m.toNat := (by omega)
         rw [hpd] at hp
         exact hp _ (by rw [← hB]; exact hA) (fun _ => hs) hF)
      | (have hst : pdA A tx m.toNat = ((pdA A tx k).1, 0) := by
           have := pdA_stop (A := A) (tx := tx) (i := k) (by rw [← hB]; omega) (m.toNat - (k + 1))
           rw [show k + 1 + (m.toNat - (k + 1)) = m.toNat by omega] at this
           exact this
         rw [hst] at hp
         exact hp _ (by show J 307 = (pdA A tx k).1; rw [← hB]; exact hA) (fun h => absurd (show (0 : Int) = 1 from h) (by decide)) hF))
    · refine x_aload_n dX12_arePassed_12 rfl ?_
      refine x_getR (b := 307) dX12_arePassed_13 gf_RX12_7 (k_ob_306 cs) (fun _ _ => rfl) (k_r_306_0 cs) ?_
      refine x_bipush dX12_arePassed_16 (by decide) ?_
      refine x_ald7 (kk := 7) (v := B 7) dX12_arePassed_18 cs (by omega) (by omega) (by rw [hA]; repeat (first | rfl | rw [upA_s] | rw [upA_o (by omega)])) ?_
      refine x_sipush dX12_arePassed_19 (by decide) ?_
      refine x_icmp_ne 27 dX12_arePassed_22 (by decide) ⟨(by omega), (by omega)⟩ (fun w22 => ?_) (fun w22 => ?_)
      · refine x_aload_n dX12_arePassed_27 rfl ?_
        refine x_callV0 (mc1 := 0) (ms1 := 0) dX12_arePassed_28 cv_RX12_363 (ci := 12) (k_ob_306 cs) rfl (Nat.le_of_ble_eq_true rfl) (n1 := n - 1) (by omega) (by omega) (by omega) ?_
        refine sp_X12_keep cs hA hb (fun J28 a28 f28 => ?_)
        refine x_aload_n dX12_arePassed_31 rfl ?_
        refine x_callV0 (mc1 := 0) (ms1 := 0) dX12_arePassed_32 cv_RX12_378 (ci := 12) (k_ob_306 cs) rfl (Nat.le_of_ble_eq_true rfl) (n1 := n - 1) (by omega) (by omega) (by omega) ?_
        refine sp_X12_pass (z := 1) (tx := tx) cs a28 hN (by rw [f28 309 (by omega), hF.1 309 (by omega) (by omega) (by omega) (by omega) (by omega)]; exact fun t ht => hT t (by rw [kp_lo (by omega) (by omega), h1] at ht; exact ht)) (BA_11 (BA_keep hb)) ⟨by rw [f28 306 (by omega), hF.2 23 (by omega)]; exact hz, Or.inr rfl⟩ (by omega) (fun J32 a32 s32 f32 => ?_)
        rw [passR_1] at a32 s32
        refine x_iinc (lv2 := [(2, _), (0, _), (1, _)]) dX12_arePassed_35 rfl (by decide) rfl ?_
        refine x_goto 7 dX12_arePassed_38 (by decide) ?_
        refine x_sub [1, 2, 0] rfl ?_
        have ek : pdA A tx (k + 1) = ((dstep B tx).1, 1) := by rw [hB]; exact if_pos ⟨hpd, by rw [← hB]; omega⟩
        have ed : dayL A tx (k + 1) = ((dstep B tx).1, (dayL A tx k).2 + (dstep B tx).2) := by simp only [dayL]; rw [dayL_pd k hpd, ← hB]
        have h2 := dstep_2b (tx := tx) hb
        refine ih _ (by omega) (k + 1) J32 (by omega) rfl (by rw [ek]; exact a32) (by rw [ek]; exact BA_dstep hb (by omega)) (by rw [ek]; show (dstep B tx).1 1 = A 1; rw [dstep_1 hb]; exact h1) (by rw [ek]) (by rw [s32, f28 306 (by omega), hs, ed]; rfl) (by rw [ed]; show 0 ≤ _ + _ ∧ _ + _ ≤ _; omega) ((hF.tr (F7.r f28).p).tr f32)
      · refine x_iconst dX12_arePassed_25 ?_
        exact x_zreturn (by omega) dX12_arePassed_26 rfl (by omega) (by omega) (by
    first
      | (obtain rfl : k = m.toNat := (by omega)
         rw [hpd] at hp
         exact hp _ (by rw [← hB]; exact hA) (fun _ => hs) hF)
      | (have hst : pdA A tx m.toNat = ((pdA A tx k).1, 0) := by
           have := pdA_stop (A := A) (tx := tx) (i := k) (by rw [← hB]; omega) (m.toNat - (k + 1))
           rw [show k + 1 + (m.toNat - (k + 1)) = m.toNat by omega] at this
           exact this
         rw [hst] at hp
         exact hp _ (by show J 307 = (pdA A tx k).1; rw [← hB]; exact hA) (fun h => absurd (show (0 : Int) = 1 from h) (by decide)) hF))
theorem sp_X12_arePassed {m : Int} (cs : CS S R) (hA : I 307 = A) (hb : BA A) (hT : RTx (I 309) A tx) (hz : I 306 23 = 1) (hm : m ≤ 10000 ∧ Rg m) (hn : 6 ≤ n) (hp : ∀ I', I' 307 = (pdA A tx m.toNat).1 → ((pdA A tx m.toNat).2 = 1 → I' 306 24 = (dayL A tx m.toNat).2) → FP I I' → Post (some (.int (iI (pdA A tx m.toNat).2))) S I' R) : Call n 0 0 mX12_arePassed [.ref (S.2.1 306), .int (iI m)] S I R Post := by
  refine Call.of (by decide +kernel) (Nat.le_of_ble_eq_true rfl) ?_
  show WP _ _ _ _ _ 0 [(0, _), (1, _)] [] 0 0 _ _ _
  refine x_aload_n dX12_arePassed_0 rfl ?_
  refine x_iconst dX12_arePassed_1 ?_
  refine x_putI dX12_arePassed_2 gf_RX12_357 (k_ob_306 cs) rfl ?_
  refine x_iconst dX12_arePassed_5 ?_
  refine x_istore_n (lv2 := [(2, _), (0, _), (1, _)]) dX12_arePassed_6 (by decide) rfl ?_
  refine x_sub [1, 2, 0] rfl ?_
  exact lp_X12_arePassed (I := I) (A := A) cs hm hz hn hT hp _ 0 _ (by omega) rfl (by rw [uI_row (by omega)]; exact hA) hb rfl rfl (by rw [uI_s]; rfl) (by show (0 : Int) ≤ 0 ∧ (0 : Int) ≤ 8 * ((0 : Nat) : Int); omega) FP.s
theorem dX12_day_0 : decode prog_14_method_92_code 0 = .ok (.iload_n 1, 1) := by decide +kernel
theorem dX12_day_1 : decode prog_14_method_92_code 1 = .ok (.iconst 1, 1) := by decide +kernel
theorem dX12_day_2 : decode prog_14_method_92_code 2 = .ok (.bipush 60, 2) := by decide +kernel
theorem dX12_day_4 : decode prog_14_method_92_code 4 = .ok (.invokestatic 81, 3) := by decide +kernel
theorem dX12_day_7 : decode prog_14_method_92_code 7 = .ok (.ifCond .eq 33, 3) := by decide +kernel
theorem dX12_day_10 : decode prog_14_method_92_code 10 = .ok (.aload_n 0, 1) := by decide +kernel
theorem dX12_day_11 : decode prog_14_method_92_code 11 = .ok (.getfield 7, 3) := by decide +kernel
theorem dX12_day_14 : decode prog_14_method_92_code 14 = .ok (.bipush 7, 2) := by decide +kernel
theorem dX12_day_16 : decode prog_14_method_92_code 16 = .ok (.iaload, 1) := by decide +kernel
theorem dX12_day_17 : decode prog_14_method_92_code 17 = .ok (.iload_n 1, 1) := by decide +kernel
theorem dX12_day_18 : decode prog_14_method_92_code 18 = .ok (.iadd, 1) := by decide +kernel
theorem dX12_day_19 : decode prog_14_method_92_code 19 = .ok (.sipush 9999, 3) := by decide +kernel
theorem dX12_day_22 : decode prog_14_method_92_code 22 = .ok (.if_icmp .gt 18, 3) := by decide +kernel
theorem dX12_day_25 : decode prog_14_method_92_code 25 = .ok (.aload_n 0, 1) := by decide +kernel
theorem dX12_day_26 : decode prog_14_method_92_code 26 = .ok (.iload_n 1, 1) := by decide +kernel
theorem dX12_day_27 : decode prog_14_method_92_code 27 = .ok (.invokevirtual 381, 3) := by decide +kernel
theorem dX12_day_30 : decode prog_14_method_92_code 30 = .ok (.ifCond .eq 10, 3) := by decide +kernel
theorem dX12_day_33 : decode prog_14_method_92_code 33 = .ok (.aload_n 0, 1) := by decide +kernel
theorem dX12_day_34 : decode prog_14_method_92_code 34 = .ok (.getfield 357, 3) := by decide +kernel
theorem dX12_day_37 : decode prog_14_method_92_code 37 = .ok (.goto 4, 3) := by decide +kernel
theorem dX12_day_40 : decode prog_14_method_92_code 40 = .ok (.iconst (-1), 1) := by decide +kernel
theorem dX12_day_41 : decode prog_14_method_92_code 41 = .ok (.ireturn, 1) := by decide +kernel
theorem sp_X12_day {m : Int} (cs : CS S R) (hA : I 307 = A) (hb : BA A) (hT : RTx (I 309) A tx) (hz : I 306 23 = 1) (hm : Rg m) (hn : 7 ≤ n) (hp : ∀ I', I' 307 = (f_day A tx m).2 → FP I I' → Post (some (.int (iI (f_day A tx m).1))) S I' R) : Call n 0 0 mX12_day [.ref (S.2.1 306), .int (iI m)] S I R Post := by
  have b0 := hb.1.1
  have b1 := hb.2.1.1
  have b2 := hb.2.1.2.1
  have b3 := hb.2.1.2.2.1
  have b4 := hb.2.1.2.2.2.1
  have b5 := hb.2.1.2.2.2.2.1
  have b6 := hb.2.1.2.2.2.2.2.1
  have b114 := hb.2.1.2.2.2.2.2.2
  have b7 : 0 ≤ A 7 ∧ A 7 ≤ 9999 := hb.1.2.1
  have b8 : 0 ≤ A 8 ∧ A 8 ≤ 30870 := hb.1.2.2.1
  have b9 : 0 ≤ A 9 ∧ A 9 ≤ 9999 := hb.1.2.2.2.1
  have b10 : 0 ≤ A 10 ∧ A 10 ≤ 1 := hb.1.2.2.2.2.1
  have b11 := BA_11 hb
  unfold f_day at hp
  refine Call.of (by decide +kernel) (Nat.le_of_ble_eq_true rfl) ?_
  show WP _ _ _ _ _ 0 [(0, _), (1, _)] [] 0 0 _ _ _
  refine x_iload_n dX12_day_0 rfl ?_
  refine x_iconst dX12_day_1 ?_
  refine x_bipush dX12_day_2 (by decide) ?_
  refine x_callS3 (mc1 := 0) (ms1 := 0) dX12_day_4 cv_RX12_81 (Nat.le_of_ble_eq_true rfl) (n1 := n - 1) (by omega) (by omega) (by omega) ?_
  refine sp_X12_isIn (by omega) (by omega) (by omega) (fun r4 hr4 => ?_)
  refine x_if_eq 40 dX12_day_7 (by decide) (by omega) (fun w7 => ?_) (fun w7 => ?_)
  · refine x_iconst dX12_day_40 ?_
    exact x_ireturn dX12_day_41 rfl (by omega) (by omega) (by first | (rw [if_pos (by omega)] at hp; exact hp _ a27 f27) | (rw [if_neg (by omega)] at hp; exact hp _ hA FP.rf) | (exfalso; omega))
  · refine x_aload_n dX12_day_10 rfl ?_
    refine x_getR (b := 307) dX12_day_11 gf_RX12_7 (k_ob_306 cs) (fun _ _ => rfl) (k_r_306_0 cs) ?_
    refine x_bipush dX12_day_14 (by decide) ?_
    refine x_ald7 (kk := 7) (v := A 7) dX12_day_16 cs (by omega) (by omega) (by rw [hA]; repeat (first | rfl | rw [upA_s] | rw [upA_o (by omega)])) ?_
    refine x_iload_n dX12_day_17 rfl ?_
    refine x_iadd dX12_day_18 ?_
    refine x_sipush dX12_day_19 (by decide) ?_
    refine x_icmp_gt 40 dX12_day_22 (by decide) ⟨(by omega), (by omega)⟩ (fun w22 => ?_) (fun w22 => ?_)
    · refine x_iconst dX12_day_40 ?_
      exact x_ireturn dX12_day_41 rfl (by omega) (by omega) (by first | (rw [if_pos (by omega)] at hp; exact hp _ a27 f27) | (rw [if_neg (by omega)] at hp; exact hp _ hA FP.rf) | (exfalso; omega))
    · refine x_aload_n dX12_day_25 rfl ?_
      refine x_iload_n dX12_day_26 rfl ?_
      refine x_callV1 (mc1 := 0) (ms1 := 0) dX12_day_27 cv_RX12_381 (ci := 12) (k_ob_306 cs) rfl (Nat.le_of_ble_eq_true rfl) (n1 := n - 1) (by omega) (by omega) (by omega) ?_
      have hpd2 : ∀ k : Nat, (k : Int) ≤ m → (pdA A tx k).2 = 1 ∧ BA (pdA A tx k).1 ∧ (pdA A tx k).1 7 = A 7 + k := by
        intro k
        induction k with
        | zero => intro _; exact ⟨rfl, hb, by show A 7 = A 7 + ((0 : Nat) : Int); omega⟩
        | succ k ih =>
          intro hk
          obtain ⟨i1, i2, i3⟩ := ih (by omega)
          have ek : pdA A tx (k + 1) = ((dstep (pdA A tx k).1 tx).1, 1) := if_pos ⟨i1, by omega⟩
          rw [ek]
          exact ⟨rfl, BA_dstep i2 (by omega), by show (dstep _ tx).1 7 = _; rw [dstep_7 i2, i3]; omega⟩
      have hpm := hpd2 m.toNat (by omega)
      refine sp_X12_arePassed cs hA hb hT hz (by omega) (by omega) (fun J27 a27 s27 f27 => ?_)
      rw [hpm.1]
      have s27' := s27 hpm.1
      rw [← dayL_pd m.toNat hpm.1] at a27
      refine x_if_eq 40 dX12_day_30 (by decide) (by omega) (fun w30 => ?_) (fun w30 => ?_)
      · refine x_iconst dX12_day_40 ?_
        exact x_ireturn dX12_day_41 rfl (by omega) (by omega) (by first | (rw [if_pos (by omega)] at hp; exact hp _ a27 f27) | (rw [if_neg (by omega)] at hp; exact hp _ hA FP.rf) | (exfalso; omega))
      · refine x_aload_n dX12_day_33 rfl ?_
        refine x_getIv (z := (dayL A tx m.toNat).2) dX12_day_34 gf_RX12_357 (k_ob_306 cs) (fun _ _ => rfl) s27' ?_
        refine x_goto 41 dX12_day_37 (by decide) ?_
        exact x_ireturn dX12_day_41 rfl (by omega) (by omega) (by first | (rw [if_pos (by omega)] at hp; exact hp _ a27 f27) | (rw [if_neg (by omega)] at hp; exact hp _ hA FP.rf) | (exfalso; omega))
end Ref12
