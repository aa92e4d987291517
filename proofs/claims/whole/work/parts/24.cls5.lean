section Cls5
variable {n : Nat} {Post : PT} {S : Sh} {I : CI} {R : CR} {A : Nat → Int}
theorem BS_of {A B : Nat → Int} {a b x y : Nat} (h : BS A a x) (h0 : B b = A a) (hd : ∀ d, 1 ≤ d → d < 30 → B (y + d) = A (x + d)) : BS B b y := by
  obtain ⟨s0, s1, s2, s3, s4, sq, sl⟩ := h
  refine ⟨by rw [h0]; exact s0, by rw [hd 1 (by omega) (by omega)]; exact s1, by rw [hd 2 (by omega) (by omega)]; exact s2, by rw [hd 3 (by omega) (by omega)]; exact s3, by rw [hd 4 (by omega) (by omega)]; exact s4, fun q hq => ?_, ?_⟩
  · have e1 : B (y + 6 + 3 * q) = A (x + 6 + 3 * q) := by rw [Nat.add_assoc, hd _ (by omega) (by omega), Nat.add_assoc]
    have e2 : B (y + 7 + 3 * q) = A (x + 7 + 3 * q) := by rw [Nat.add_assoc, hd _ (by omega) (by omega), Nat.add_assoc]
    have e3 : B (y + 8 + 3 * q) = A (x + 8 + 3 * q) := by rw [Nat.add_assoc, hd _ (by omega) (by omega), Nat.add_assoc]
    rw [e1, e2, e3, hd 1 (by omega) (by omega)]
    exact sq q hq
  · rw [hd 5 (by omega) (by omega), sl, h0]
    refine lns_congr (fun i hi => ?_)
    rw [Nat.add_assoc y, hd _ (by omega) (by omega), Nat.add_assoc]
theorem BA_keep {A : Nat → Int} (hb : BA A) : BA (keepA A) := by
  obtain ⟨bs, ⟨d1, d2, d3, d4, d5, d6, d7⟩, dq, dh, db, ds, dd, dp⟩ := hb
  have kb := kp_b d3
  have b11 : 0 ≤ A 11 ∧ A 11 ≤ 16 := by
    have h1 := lns_b (fun q => A (6 + 6 + 3 * q)) (A 0).toNat
    have h2 : A 11 = _ := bs.2.2.2.2.2.2
    have h3 := bs.1
    omega
  have lo : ∀ i : Nat, i ≠ 3 → i < 115 → keepA A i = A i := fun i h1 h2 => kp_lo h1 (Or.inl h2)
  have hi : ∀ i : Nat, 2815 ≤ i → keepA A i = A i := fun i h => kp_lo (by omega) (Or.inr h)
  refine ⟨BS_of bs (lo 0 (by decide) (by decide)) (fun d h1 h2 => lo _ (by omega) (by omega)), ⟨?_, ?_, ?_, ?_, ?_, ?_, ?_⟩, fun q hq => ?_, fun i hj => ?_, fun i hj => ?_, fun i hj => ?_, fun i hj => ?_, fun j hj => ?_⟩
  · rw [lo 1 (by decide) (by decide)]; exact d1
  · rw [lo 2 (by decide) (by decide), lo 1 (by decide) (by decide)]; exact d2
  · rw [kp_3]; omega
  · rw [lo 4 (by decide) (by decide)]; exact d4
  · rw [lo 5 (by decide) (by decide)]; exact d5
  · rw [lo 6 (by decide) (by decide)]; exact d6
  · rw [lo 114 (by decide) (by decide)]; exact d7
  · rw [lo _ (by omega) (by omega), lo (37 + 2 * q) (by omega) (by omega), lo (52 + q) (by omega) (by omega), lo (60 + q) (by omega) (by omega), lo 0 (by decide) (by decide)]; exact dq q hq
  · rw [lo _ (by omega) (by omega)]; exact dh i hj
  · rw [lo _ (by omega) (by omega), lo (75 + 2 * i) (by omega) (by omega)]; exact db i hj
  · rw [lo 6 (by decide) (by decide)] at hj
    rw [lo _ (by omega) (by omega), lo (95 + 2 * i) (by omega) (by omega), lo 0 (by decide) (by decide)]; exact ds i hj
  · rw [lo _ (by omega) (by omega)]; exact dd i hj
  · rw [kp_3] at hj
    rw [lo 0 (by decide) (by decide), lo 11 (by decide) (by decide)]
    by_cases hk : j = kpS A
    · subst hk
      have n0 := kp_n0 d3
      have nd := fun d h => kp_nd (A := A) (d := d) d3 h
      have nb := fun d h => kp_nb (A := A) (d := d) d3 h
      refine ⟨BS_of bs n0 (fun d h1 h2 => nd d ⟨h1, h2⟩), by rw [n0]; omega, ?_, ?_, fun k h1 h2 => ?_⟩
      · rw [show 120 + 90 * kpS A = 115 + 90 * kpS A + 5 by omega, nd 5 (by omega)]; exact Int.le_refl _
      · intro i h1
        rw [show 120 + 90 * kpS A = 115 + 90 * kpS A + 5 by omega, nd 5 (by omega)] at h1
        have h1' : (i : Int) < A 11 := h1
        rw [show 145 + 90 * kpS A + i = 115 + 90 * kpS A + (30 + i) by omega, nb _ (by omega), show 175 + 90 * kpS A + i = 115 + 90 * kpS A + (60 + i) by omega, nb _ (by omega), hi _ (by omega), hi _ (by omega), show 2785 + (30 + i) = 2815 + i by omega, show 2785 + (60 + i) = 2845 + i by omega]
        exact ⟨rfl, rfl⟩
      · rw [kp_3] at h2
        obtain rfl : k = kpS A := by omega
        exact Int.le_refl _
    · have hl : j < kpS A := by omega
      obtain ⟨sf, hsf⟩ : ∃ sf : Nat, ∀ jj : Nat, jj < kpS A → ((jj + sf : Nat) : Int) < A 3 ∧ ∀ d, d < 90 → keepA A (115 + 90 * jj + d) = A (115 + 90 * (jj + sf) + d) := by
        by_cases h30 : A 3 = 30
        · exact ⟨1, fun jj hjj => ⟨by omega, fun d h => by rw [kp_old d3 hjj h, if_pos h30]⟩⟩
        · exact ⟨0, fun jj hjj => ⟨by omega, fun d h => by rw [kp_old d3 hjj h, if_neg h30]; rfl⟩⟩
      obtain ⟨z, hze⟩ : ∃ z : Nat, z = j + sf := ⟨_, rfl⟩
      have hz := (hsf j hl).1
      have hzz := (hsf j hl).2
      rw [← hze] at hz hzz
      obtain ⟨p1, p2, p3, p4, p5⟩ := dp z hz
      have z0 : keepA A (115 + 90 * j) = A (115 + 90 * z) := hzz 0 (by omega)
      refine ⟨BS_of p1 z0 (fun d h1 h2 => hzz d (by omega)), by rw [z0]; exact p2, ?_, ?_, fun k h1 h2 => ?_⟩
      · rw [show 120 + 90 * j = 115 + 90 * j + 5 by omega, hzz 5 (by omega), show 115 + 90 * z + 5 = 120 + 90 * z by omega]; exact p3
      · intro i h1
        rw [show 120 + 90 * j = 115 + 90 * j + 5 by omega, hzz 5 (by omega), show 115 + 90 * z + 5 = 120 + 90 * z by omega] at h1
        rw [show 145 + 90 * j + i = 115 + 90 * j + (30 + i) by omega, hzz _ (by omega), show 175 + 90 * j + i = 115 + 90 * j + (60 + i) by omega, hzz _ (by omega), hi _ (by omega), hi _ (by omega), show 115 + 90 * z + (30 + i) = 145 + 90 * z + i by omega, show 115 + 90 * z + (60 + i) = 175 + 90 * z + i by omega]
        exact p4 i h1
      · rw [kp_3] at h2
        rw [show 120 + 90 * j = 115 + 90 * j + 5 by omega, hzz 5 (by omega), show 120 + 90 * k = 115 + 90 * k + 5 by omega]
        by_cases hkk : k = kpS A
        · subst hkk
          rw [kp_nd d3 (by omega), show 115 + 90 * z + 5 = 120 + 90 * z by omega]
          exact p3
        · have hk2 := hsf k (by omega)
          rw [hk2.2 5 (by omega), show 115 + 90 * z + 5 = 120 + 90 * z by omega, show 115 + 90 * (k + sf) + 5 = 120 + 90 * (k + sf) by omega]
          exact p5 (k + sf) (by omega) hk2.1
def f_earn (A : Nat → Int) (s : Int) : Int × (Nat → Int) := if 1 ≤ s ∧ s ≤ 999 ∧ A 9 + s ≤ 9999 then (1, upA (keepA A) 9 (A 9 + s)) else (0, A)
def f_pawn (A : Nat → Int) (q : Int) : Int × (Nat → Int) := if 0 ≤ q ∧ q < A 0 ∧ A (12 + 3 * q.toNat) = 0 then (1, pawnA (keepA A) q) else (0, A)
theorem dX0_earnByHand_0 : decode prog_2_method_4_code 0 = .ok (.aload_n 0, 1) := by decide +kernel
theorem dX0_earnByHand_1 : decode prog_2_method_4_code 1 = .ok (.iload_n 1, 1) := by decide +kernel
theorem dX0_earnByHand_2 : decode prog_2_method_4_code 2 = .ok (.invokevirtual 50, 3) := by decide +kernel
theorem dX0_earnByHand_5 : decode prog_2_method_4_code 5 = .ok (.ifCond .ne 5, 3) := by decide +kernel
theorem dX0_earnByHand_8 : decode prog_2_method_4_code 8 = .ok (.iconst 0, 1) := by decide +kernel
theorem dX0_earnByHand_9 : decode prog_2_method_4_code 9 = .ok (.ireturn, 1) := by decide +kernel
theorem dX0_earnByHand_10 : decode prog_2_method_4_code 10 = .ok (.aload_n 0, 1) := by decide +kernel
theorem dX0_earnByHand_11 : decode prog_2_method_4_code 11 = .ok (.getfield 18, 3) := by decide +kernel
theorem dX0_earnByHand_14 : decode prog_2_method_4_code 14 = .ok (.invokevirtual 35, 3) := by decide +kernel
theorem dX0_earnByHand_17 : decode prog_2_method_4_code 17 = .ok (.aload_n 0, 1) := by decide +kernel
theorem dX0_earnByHand_18 : decode prog_2_method_4_code 18 = .ok (.getfield 18, 3) := by decide +kernel
theorem dX0_earnByHand_21 : decode prog_2_method_4_code 21 = .ok (.getfield 26, 3) := by decide +kernel
theorem dX0_earnByHand_24 : decode prog_2_method_4_code 24 = .ok (.dup, 1) := by decide +kernel
theorem dX0_earnByHand_25 : decode prog_2_method_4_code 25 = .ok (.getfield 54, 3) := by decide +kernel
theorem dX0_earnByHand_28 : decode prog_2_method_4_code 28 = .ok (.iload_n 1, 1) := by decide +kernel
theorem dX0_earnByHand_29 : decode prog_2_method_4_code 29 = .ok (.iadd, 1) := by decide +kernel
theorem dX0_earnByHand_30 : decode prog_2_method_4_code 30 = .ok (.putfield 54, 3) := by decide +kernel
theorem dX0_earnByHand_33 : decode prog_2_method_4_code 33 = .ok (.iconst 1, 1) := by decide +kernel
theorem dX0_earnByHand_34 : decode prog_2_method_4_code 34 = .ok (.ireturn, 1) := by decide +kernel
theorem sp_X0_earnByHand {s : Int} (cs : CS S R) (hc : ClW I 1 A) (hb : BA A) (hs : Rg s) (hn : 3 ≤ n) (hp : ∀ I', ClW I' 1 (f_earn A s).2 → Fw I I' → Post (some (.int (iI (f_earn A s).1))) S I' R) : Call n 0 0 mX0_earnByHand [.ref (S.2.1 282), .int (iI s)] S I R Post := by
  obtain ⟨⟨⟨c0, c7, c8, c9, c10, c11⟩, cq⟩, ⟨⟨t1, t2, t3, t4, t5, t6, t7, t8, t9⟩, tq, th, tb, ts, td⟩, cb, cp⟩ := id hc
  dsimp only [Nat.reduceAdd] at c0 c7 c8 c9 c10 c11 cq t1 t2 t3 t4 t5 t6 t7 t8 t9 tq th tb ts td
  obtain ⟨⟨b0, b1, b2, b3, b4, bq, bl⟩, ⟨d1, d2, d3, d4, d5, d6, d7⟩, dq, dh, db, ds, dd, dp⟩ := id hb
  have b7 : 0 ≤ A 7 ∧ A 7 ≤ 9999 := b1
  have b8 : 0 ≤ A 8 ∧ A 8 ≤ 30870 := b2
  have b9 : 0 ≤ A 9 ∧ A 9 ≤ 9999 := b3
  have b10 : 0 ≤ A 10 ∧ A 10 ≤ 1 := b4
  have b11 : 0 ≤ A 11 ∧ A 11 ≤ 16 := by have h1 := lns_b (fun q => A (6 + 6 + 3 * q)) (A 0).toNat; have h2 : A 11 = _ := bl; omega
  refine Call.of (by decide +kernel) (Nat.le_of_ble_eq_true rfl) ?_
  show WP _ _ _ _ _ 0 [(0, _), (1, _)] [] 0 0 _ _ _
  refine x_aload_n dX0_earnByHand_0 rfl ?_
  refine x_iload_n dX0_earnByHand_1 rfl ?_
  refine x_callV1 (mc1 := 0) (ms1 := 0) dX0_earnByHand_2 cv_RX0_50 (ci := 0) (k_ob_282 cs) rfl (Nat.le_of_ble_eq_true rfl) (n1 := n - 1) (by omega) (by omega) (by omega) ?_
  refine sp_X0_canPayOut cs (by assumption) (by assumption) (by omega) (fun r2 hr2 => ?_)
  refine x_if_ne 10 dX0_earnByHand_5 (by decide) (by omega) (fun w5 => ?_) (fun w5 => ?_)
  · refine x_aload_n dX0_earnByHand_10 rfl ?_
    refine x_getR (b := 1) dX0_earnByHand_11 gf_RX0_18 (k_ob_282 cs) (fun _ _ => rfl) (k_r_282_0 cs) ?_
    refine x_callV0 (mc1 := 0) (ms1 := 0) dX0_earnByHand_14 cv_RX0_35 (ci := 10) (k_ob_1 cs) rfl (Nat.le_of_ble_eq_true rfl) (n1 := n - 1) (by omega) (by omega) (by omega) ?_
    refine sp_X10_keepStep cs (by assumption) (by assumption) (by omega) (fun I14 hI14 hF14 => ?_)
    refine x_aload_n dX0_earnByHand_17 rfl ?_
    refine x_getR (b := 1) dX0_earnByHand_18 gf_RX0_18 (k_ob_282 cs) (fun _ _ => rfl) (k_r_282_0 cs) ?_
    refine x_getR (b := 6) dX0_earnByHand_21 gf_RX0_26 (k_ob_1 cs) (fun _ _ => rfl) (k_r_1_4 cs) ?_
    refine x_dup dX0_earnByHand_24 rfl ?_
    refine x_getIv (z := A 9) dX0_earnByHand_25 gf_RX0_54 (k_ob_6 cs) (fun _ _ => rfl) (by have e := hI14.1.1.2.2.2.1; rw [kp_lo (by decide) (by decide)] at e; exact e.symm) ?_
    refine x_iload_n dX0_earnByHand_28 rfl ?_
    refine x_iadd dX0_earnByHand_29 ?_
    refine x_putI dX0_earnByHand_30 gf_RX0_54 (k_ob_6 cs) rfl ?_
    refine x_iconst dX0_earnByHand_33 ?_
    exact x_zreturn (by omega) dX0_earnByHand_34 rfl (by omega) (by omega) (by first | (rw [show f_earn A s = (0, A) from if_neg (by omega)] at hp; exact hp _ hc Fw.rf) | (rw [show f_earn A s = (1, upA (keepA A) 9 (A 9 + s)) from if_pos (by omega)] at hp; exact hp _ (cu_purse _ (by assumption)) (Fw.u (by assumption) (by omega))))
  · refine x_iconst dX0_earnByHand_8 ?_
    exact x_zreturn (by omega) dX0_earnByHand_9 rfl (by omega) (by omega) (by first | (rw [show f_earn A s = (0, A) from if_neg (by omega)] at hp; exact hp _ hc Fw.rf) | (rw [show f_earn A s = (1, upA (keepA A) 9 (A 9 + s)) from if_pos (by omega)] at hp; exact hp _ (cu_purse _ (by assumption)) (Fw.u (by assumption) (by omega))))
theorem dX11_earn_0 : decode prog_1_method_10_code 0 = .ok (.aload_n 0, 1) := by decide +kernel
theorem dX11_earn_1 : decode prog_1_method_10_code 1 = .ok (.getfield 33, 3) := by decide +kernel
theorem dX11_earn_4 : decode prog_1_method_10_code 4 = .ok (.iload_n 1, 1) := by decide +kernel
theorem dX11_earn_5 : decode prog_1_method_10_code 5 = .ok (.invokevirtual 124, 3) := by decide +kernel
theorem dX11_earn_8 : decode prog_1_method_10_code 8 = .ok (.ireturn, 1) := by decide +kernel
theorem sp_X11_earn {s : Int} (cs : CS S R) (hc : ClW I 1 A) (hb : BA A) (hs : Rg s) (hn : 4 ≤ n) (hp : ∀ I', ClW I' 1 (f_earn A s).2 → Fw I I' → Post (some (.int (iI (f_earn A s).1))) S I' R) : Call n 0 0 mX11_earn [.ref (S.2.1 0), .int (iI s)] S I R Post := by
  have hr : (f_earn A s).1 = 0 ∨ (f_earn A s).1 = 1 := by unfold f_earn; split <;> simp
  refine Call.of (by decide +kernel) (Nat.le_of_ble_eq_true rfl) ?_
  show WP _ _ _ _ _ 0 [(0, _), (1, _)] [] 0 0 _ _ _
  refine x_aload_n dX11_earn_0 rfl ?_
  refine x_getR (b := 282) dX11_earn_1 gf_RX11_33 (k_ob_0 cs) (fun _ _ => rfl) (k_r_0_3 cs) ?_
  refine x_iload_n dX11_earn_4 rfl ?_
  refine x_callV1 (mc1 := 0) (ms1 := 0) dX11_earn_5 cv_RX11_124 (ci := 0) (k_ob_282 cs) rfl (Nat.le_of_ble_eq_true rfl) (n1 := n - 1) (by omega) (by omega) (by omega) ?_
  refine sp_X0_earnByHand cs (by assumption) (by assumption) (by omega) (by omega) (fun I5 hI5 hF5 => ?_)
  exact x_zreturn (by omega) dX11_earn_8 rfl (by omega) (by omega) (by apply hp <;> assumption)
theorem dX0_pawnByHand_0 : decode prog_2_method_2_code 0 = .ok (.aload_n 0, 1) := by decide +kernel
theorem dX0_pawnByHand_1 : decode prog_2_method_2_code 1 = .ok (.getfield 18, 3) := by decide +kernel
theorem dX0_pawnByHand_4 : decode prog_2_method_2_code 4 = .ok (.getfield 26, 3) := by decide +kernel
theorem dX0_pawnByHand_7 : decode prog_2_method_2_code 7 = .ok (.iload_n 1, 1) := by decide +kernel
theorem dX0_pawnByHand_8 : decode prog_2_method_2_code 8 = .ok (.iconst 0, 1) := by decide +kernel
theorem dX0_pawnByHand_9 : decode prog_2_method_2_code 9 = .ok (.invokevirtual 31, 3) := by decide +kernel
theorem dX0_pawnByHand_12 : decode prog_2_method_2_code 12 = .ok (.ifCond .ne 5, 3) := by decide +kernel
theorem dX0_pawnByHand_15 : decode prog_2_method_2_code 15 = .ok (.iconst 0, 1) := by decide +kernel
theorem dX0_pawnByHand_16 : decode prog_2_method_2_code 16 = .ok (.ireturn, 1) := by decide +kernel
theorem dX0_pawnByHand_17 : decode prog_2_method_2_code 17 = .ok (.aload_n 0, 1) := by decide +kernel
theorem dX0_pawnByHand_18 : decode prog_2_method_2_code 18 = .ok (.getfield 18, 3) := by decide +kernel
theorem dX0_pawnByHand_21 : decode prog_2_method_2_code 21 = .ok (.invokevirtual 35, 3) := by decide +kernel
theorem dX0_pawnByHand_24 : decode prog_2_method_2_code 24 = .ok (.aload_n 0, 1) := by decide +kernel
theorem dX0_pawnByHand_25 : decode prog_2_method_2_code 25 = .ok (.iload_n 1, 1) := by decide +kernel
theorem dX0_pawnByHand_26 : decode prog_2_method_2_code 26 = .ok (.invokevirtual 38, 3) := by decide +kernel
theorem dX0_pawnByHand_29 : decode prog_2_method_2_code 29 = .ok (.iconst 1, 1) := by decide +kernel
theorem dX0_pawnByHand_30 : decode prog_2_method_2_code 30 = .ok (.ireturn, 1) := by decide +kernel
theorem sp_X0_pawnByHand {q : Int} (cs : CS S R) (hc : ClW I 1 A) (hb : BA A) (hq : Rg q) (hn : 3 ≤ n) (hp : ∀ I', ClW I' 1 (f_pawn A q).2 → Fw I I' → Post (some (.int (iI (f_pawn A q).1))) S I' R) : Call n 0 0 mX0_pawnByHand [.ref (S.2.1 282), .int (iI q)] S I R Post := by
  obtain ⟨⟨⟨c0, c7, c8, c9, c10, c11⟩, cq⟩, ⟨⟨t1, t2, t3, t4, t5, t6, t7, t8, t9⟩, tq, th, tb, ts, td⟩, cb, cp⟩ := id hc
  dsimp only [Nat.reduceAdd] at c0 c7 c8 c9 c10 c11 cq t1 t2 t3 t4 t5 t6 t7 t8 t9 tq th tb ts td
  obtain ⟨⟨b0, b1, b2, b3, b4, bq, bl⟩, ⟨d1, d2, d3, d4, d5, d6, d7⟩, dq, dh, db, ds, dd, dp⟩ := id hb
  have b7 : 0 ≤ A 7 ∧ A 7 ≤ 9999 := b1
  have b8 : 0 ≤ A 8 ∧ A 8 ≤ 30870 := b2
  have b9 : 0 ≤ A 9 ∧ A 9 ≤ 9999 := b3
  have b10 : 0 ≤ A 10 ∧ A 10 ≤ 1 := b4
  have b11 : 0 ≤ A 11 ∧ A 11 ≤ 16 := by have h1 := lns_b (fun q => A (6 + 6 + 3 * q)) (A 0).toNat; have h2 : A 11 = _ := bl; omega
  have hsb : SB I 6 := SB_now hc hb
  refine Call.of (by decide +kernel) (Nat.le_of_ble_eq_true rfl) ?_
  show WP _ _ _ _ _ 0 [(0, _), (1, _)] [] 0 0 _ _ _
  refine x_aload_n dX0_pawnByHand_0 rfl ?_
  refine x_getR (b := 1) dX0_pawnByHand_1 gf_RX0_18 (k_ob_282 cs) (fun _ _ => rfl) (k_r_282_0 cs) ?_
  refine x_getR (b := 6) dX0_pawnByHand_4 gf_RX0_26 (k_ob_1 cs) (fun _ _ => rfl) (k_r_1_4 cs) ?_
  refine x_iload_n dX0_pawnByHand_7 rfl ?_
  refine x_iconst dX0_pawnByHand_8 ?_
  refine x_callV2 (mc1 := 0) (ms1 := 0) dX0_pawnByHand_9 cv_RX0_31 (ci := 6) (k_ob_6 cs) rfl (Nat.le_of_ble_eq_true rfl) (n1 := n - 1) (by omega) (by omega) (by omega) ?_
  refine sp_X6_isHow (k_st_6 cs) (by omega) (by omega) (by assumption) (by omega) (fun r9 hr9 => ?_)
  have hx : 0 ≤ q ∧ q < A 0 → A (12 + 3 * q.toNat) = I 7 q.toNat := fun h => (cq q.toNat (by omega)).1
  dsimp only [Nat.reduceAdd] at hr9
  refine x_if_ne 17 dX0_pawnByHand_12 (by decide) (by omega) (fun w12 => ?_) (fun w12 => ?_)
  · refine x_aload_n dX0_pawnByHand_17 rfl ?_
    refine x_getR (b := 1) dX0_pawnByHand_18 gf_RX0_18 (k_ob_282 cs) (fun _ _ => rfl) (k_r_282_0 cs) ?_
    refine x_callV0 (mc1 := 0) (ms1 := 0) dX0_pawnByHand_21 cv_RX0_35 (ci := 10) (k_ob_1 cs) rfl (Nat.le_of_ble_eq_true rfl) (n1 := n - 1) (by omega) (by omega) (by omega) ?_
    refine sp_X10_keepStep cs (by assumption) (by assumption) (by omega) (fun I21 hI21 hF21 => ?_)
    refine x_aload_n dX0_pawnByHand_24 rfl ?_
    refine x_iload_n dX0_pawnByHand_25 rfl ?_
    refine x_callV1 (mc1 := 0) (ms1 := 0) dX0_pawnByHand_26 cv_RX0_38 (ci := 0) (k_ob_282 cs) rfl (Nat.le_of_ble_eq_true rfl) (n1 := n - 1) (by omega) (by omega) (by omega) ?_
    refine sp_X0_takeIn cs (by assumption) (BA_keep hb) (by omega) (by omega) (fun I26 hI26 hF26 => ?_)
    refine x_iconst dX0_pawnByHand_29 ?_
    exact x_zreturn (by omega) dX0_pawnByHand_30 rfl (by omega) (by omega) (by first | (rw [show f_pawn A q = (0, A) from if_neg (by omega)] at hp; exact hp _ hc Fw.rf) | (rw [show f_pawn A q = (1, pawnA (keepA A) q) from if_pos (by omega)] at hp; exact hp _ (by assumption) (Fw.tr2 (by assumption) (by assumption))))
  · refine x_iconst dX0_pawnByHand_15 ?_
    exact x_zreturn (by omega) dX0_pawnByHand_16 rfl (by omega) (by omega) (by first | (rw [show f_pawn A q = (0, A) from if_neg (by omega)] at hp; exact hp _ hc Fw.rf) | (rw [show f_pawn A q = (1, pawnA (keepA A) q) from if_pos (by omega)] at hp; exact hp _ (by assumption) (Fw.tr2 (by assumption) (by assumption))))
theorem dX11_pawn_0 : decode prog_1_method_8_code 0 = .ok (.aload_n 0, 1) := by decide +kernel
theorem dX11_pawn_1 : decode prog_1_method_8_code 1 = .ok (.getfield 33, 3) := by decide +kernel
theorem dX11_pawn_4 : decode prog_1_method_8_code 4 = .ok (.iload_n 1, 1) := by decide +kernel
theorem dX11_pawn_5 : decode prog_1_method_8_code 5 = .ok (.invokevirtual 117, 3) := by decide +kernel
theorem dX11_pawn_8 : decode prog_1_method_8_code 8 = .ok (.ireturn, 1) := by decide +kernel
theorem sp_X11_pawn {q : Int} (cs : CS S R) (hc : ClW I 1 A) (hb : BA A) (hq : Rg q) (hn : 4 ≤ n) (hp : ∀ I', ClW I' 1 (f_pawn A q).2 → Fw I I' → Post (some (.int (iI (f_pawn A q).1))) S I' R) : Call n 0 0 mX11_pawn [.ref (S.2.1 0), .int (iI q)] S I R Post := by
  have hr : (f_pawn A q).1 = 0 ∨ (f_pawn A q).1 = 1 := by unfold f_pawn; split <;> simp
  refine Call.of (by decide +kernel) (Nat.le_of_ble_eq_true rfl) ?_
  show WP _ _ _ _ _ 0 [(0, _), (1, _)] [] 0 0 _ _ _
  refine x_aload_n dX11_pawn_0 rfl ?_
  refine x_getR (b := 282) dX11_pawn_1 gf_RX11_33 (k_ob_0 cs) (fun _ _ => rfl) (k_r_0_3 cs) ?_
  refine x_iload_n dX11_pawn_4 rfl ?_
  refine x_callV1 (mc1 := 0) (ms1 := 0) dX11_pawn_5 cv_RX11_117 (ci := 0) (k_ob_282 cs) rfl (Nat.le_of_ble_eq_true rfl) (n1 := n - 1) (by omega) (by omega) (by omega) ?_
  refine sp_X0_pawnByHand cs (by assumption) (by assumption) (by omega) (by omega) (fun I5 hI5 hF5 => ?_)
  exact x_zreturn (by omega) dX11_pawn_8 rfl (by omega) (by omega) (by apply hp <;> assumption)
end Cls5
