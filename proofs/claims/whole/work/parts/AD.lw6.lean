section Lw6
variable {n mc ms : Nat} {M : Md} {pc : Nat} {lv : List (Nat × Value)} {st : List Value} {k j : Nat} {Post : PT} {S : Sh} {I : CI} {R : CR} {A : Nat → Int} {tx : Nat → Nat → Int}
theorem law_lp {b0 Ln : Nat} {xs : Nat → Int32} {a1 a2 : Nat} (hL : Ln ≤ 3072) : ∀ (d q : Nat) (S : Sh) (I : CI) (R : CR) (k j : Nat), 6 * q ≤ Ln → Ln - 6 * q = d → k ≤ 325 + 3 * q → j ≤ 14130 + 403 * q → LJ a1 a2 S I R → LwP b0 Ln xs 1300 600000 7302250 mL_law PL 18 (lvL4 b0 a1 a2 (6 * (q : Int))) [] k j S I R := by
  intro d
  induction d using Nat.strongRecOn with
  | _ d ih =>
  intro q S I R k j hq hd hk hj hJ
  refine y_iload_n (i := 3) dL_law_18 rfl ?_
  refine y_aload_n (i := 0) dL_law_19 rfl ?_
  refine y_slen dL_law_20 ?_
  refine y_bipush dL_law_21 (by decide) ?_
  refine y_isub dL_law_23 ?_
  refine y_icmp_gt 1494 dL_law_24 (by decide) ⟨⟨by omega, by omega⟩, by omega, by omega⟩ (fun c => ?_) (fun c => ?_)
  · refine y_iconst dL_law_1494 ?_
    exact y_zreturn (Or.inr rfl) dL_law_1495 rfl (by omega) (by omega) rfl
  · refine y_aload_n (i := 0) dL_law_27 rfl ?_
    refine y_iload_n (i := 3) dL_law_28 rfl ?_
    refine y_sld dL_law_29 (by omega) (by omega) hL ?_
    refine y_bipush dL_law_30 (by decide) ?_
    refine y_iand dL_law_32 ?_
    have hw := and63_b (xs (6 * (q : Int)).toNat).toInt
    generalize andI (xs (6 * (q : Int)).toNat).toInt 63 = w at hw ⊢
    have hi : 0 ≤ 6 * (q : Int) ∧ 6 * (q : Int) + 6 ≤ Ln := by omega
    have hk1 : k + 3 ≤ 600000 := by omega
    have hj1 : j + 403 ≤ 7302250 := by omega
    have nx : Nx b0 Ln xs a1 a2 (6 * (q : Int)) k j := by
      intro S2 J R2 k2 j2 hk2 hj2 hJ2
      refine y_iinc (i := 3) (z := 6) (x := 6 * (q : Int)) dL_law_1488 rfl (by decide) rfl ?_
      refine y_goto 18 dL_law_1491 (by decide) ?_
      have h61 : 6 * (q + 1) ≤ Ln := by omega
      have h62 : Ln - 6 * (q + 1) < d := by omega
      have h63 : k2 ≤ 325 + 3 * (q + 1) := by omega
      have h64 : j2 ≤ 14130 + 403 * (q + 1) := Nat.le_trans hj2 (Nat.le_trans (Nat.add_le_add_right hj 403) (by rw [Nat.mul_add, Nat.add_assoc]; exact Nat.le_refl _))
      have h9 := ih (Ln - 6 * (q + 1)) h62 (q + 1) S2 J R2 k2 j2 h61 rfl h63 h64 hJ2
      rw [show 6 * ((q + 1 : Nat) : Int) = 6 * (q : Int) + 6 by omega] at h9
      exact h9
    have hJ0 := hJ
    obtain ⟨A, B, tx, t, l, h⟩ := hJ
    by_cases w0 : w = 0
    · subst w0; exact y_tableIn 232 dL_law_33 (by unfold Rg; decide) (by decide) rfl (by decide) (lc_quarrel h hL hi hk1 hj1 nx)
    by_cases w1 : w = 1
    · subst w1; exact y_tableIn 285 dL_law_33 (by unfold Rg; decide) (by decide) rfl (by decide) (lc_feed h hL hi hk1 hj1 nx)
    by_cases w2 : w = 2
    · subst w2; exact y_tableIn 348 dL_law_33 (by unfold Rg; decide) (by decide) rfl (by decide) (lc_end h hL hi hk1 hj1 nx)
    by_cases w3 : w = 3
    · subst w3; exact y_tableIn 371 dL_law_33 (by unfold Rg; decide) (by decide) rfl (by decide) (lc_text h hL hi hk1 hj1 nx)
    by_cases w4 : w = 4
    · subst w4; exact y_tableIn 384 dL_law_33 (by unfold Rg; decide) (by decide) rfl (by decide) (lc_fault h hL hi hk1 hj1 nx)
    by_cases w5 : w = 5
    · subst w5; exact y_tableIn 407 dL_law_33 (by unfold Rg; decide) (by decide) rfl (by decide) (lc_by h hL hi hk1 hj1 nx)
    by_cases w6 : w = 6
    · subst w6; exact y_tableIn 430 dL_law_33 (by unfold Rg; decide) (by decide) rfl (by decide) (lc_pawn h hL hi hk1 hj1 nx)
    by_cases w7 : w = 7
    · subst w7; exact y_tableIn 453 dL_law_33 (by unfold Rg; decide) (by decide) rfl (by decide) (lc_redeem h hL hi hk1 hj1 nx)
    by_cases w8 : w = 8
    · subst w8; exact y_tableIn 476 dL_law_33 (by unfold Rg; decide) (by decide) rfl (by decide) (lc_earn h hL hi hk1 hj1 nx)
    by_cases w9 : w = 9
    · subst w9; exact y_tableIn 499 dL_law_33 (by unfold Rg; decide) (by decide) rfl (by decide) (lc_day h hL hi hk1 hj1 nx)
    by_cases w10 : w = 10
    · subst w10; exact y_tableIn 522 dL_law_33 (by unfold Rg; decide) (by decide) rfl (by decide) (lc_played h hL hi hk1 hj1 nx)
    by_cases w11 : w = 11
    · subst w11; exact y_tableIn 545 dL_law_33 (by unfold Rg; decide) (by decide) rfl (by decide) (lc_years h hL hi hk1 hj1 nx)
    by_cases w12 : w = 12
    · subst w12; exact y_tableIn 578 dL_law_33 (by unfold Rg; decide) (by decide) rfl (by decide) (lc_undo h hL hi hk1 hj1 nx)
    by_cases w13 : w = 13
    · subst w13; exact y_tableIn 591 dL_law_33 (by unfold Rg; decide) (by decide) rfl (by decide) (lc_of h hL hi hk1 hj1 nx)
    by_cases w14 : w = 14
    · subst w14; exact y_tableIn 624 dL_law_33 (by unfold Rg; decide) (by decide) rfl (by decide) (lc_is h hL hi hk1 hj1 nx)
    by_cases w15 : w = 15
    · subst w15; exact y_tableIn 647 dL_law_33 (by unfold Rg; decide) (by decide) rfl (by decide) (lc_book h hL hi hk1 hj1 nx)
    by_cases w16 : w = 16
    · subst w16; exact y_tableIn 680 dL_law_33 (by unfold Rg; decide) (by decide) rfl (by decide) (lc_foretold h hL hi hk1 hj1 nx)
    by_cases w17 : w = 17
    · subst w17; exact y_tableIn 723 dL_law_33 (by unfold Rg; decide) (by decide) rfl (by decide) (lc_speak h hL hi hk1 hj1 nx)
    by_cases w18 : w = 18
    · subst w18; exact y_tableIn 756 dL_law_33 (by unfold Rg; decide) (by decide) rfl (by decide) (lc_group h hL hi hk1 hj1 nx)
    by_cases w19 : w = 19
    · subst w19; exact y_tableIn 779 dL_law_33 (by unfold Rg; decide) (by decide) rfl (by decide) (lc_groups h hL hi hk1 hj1 nx)
    by_cases w20 : w = 20
    · subst w20; exact y_tableIn 818 dL_law_33 (by unfold Rg; decide) (by decide) rfl (by decide) (lc_cost h hL hi hk1 hj1 nx)
    by_cases w21 : w = 21
    · subst w21; exact y_tableIn 851 dL_law_33 (by unfold Rg; decide) (by decide) rfl (by decide) (lc_word h hL hi hk1 hj1 nx)
    by_cases w22 : w = 22
    · subst w22; exact y_tableIn 884 dL_law_33 (by unfold Rg; decide) (by decide) rfl (by decide) (lc_way h hL hi hk1 hj1 nx)
    by_cases w23 : w = 23
    · subst w23; exact y_tableIn 927 dL_law_33 (by unfold Rg; decide) (by decide) rfl (by decide) (lc_all h hL hi hk1 hj1 nx)
    by_cases w24 : w = 24
    · subst w24; exact y_tableIn 940 dL_law_33 (by unfold Rg; decide) (by decide) rfl (by decide) (lc_cut h hL hi hk1 hj1 nx)
    by_cases w25 : w = 25
    · subst w25; exact y_tableIn 973 dL_law_33 (by unfold Rg; decide) (by decide) rfl (by decide) (lc_gossips h hL hi hk1 hj1 nx)
    by_cases w26 : w = 26
    · subst w26; exact y_tableIn 986 dL_law_33 (by unfold Rg; decide) (by decide) rfl (by decide) (lc_cool h hL hi hk1 hj1 nx)
    by_cases w27 : w = 27
    · subst w27; exact y_tableIn 1009 dL_law_33 (by unfold Rg; decide) (by decide) rfl (by decide) (lc_earns h hL hi hk1 hj1 nx)
    by_cases w28 : w = 28
    · subst w28; exact y_tableIn 1032 dL_law_33 (by unfold Rg; decide) (by decide) rfl (by decide) (lc_plan h hL hi hk1 hj1 nx)
    by_cases w29 : w = 29
    · subst w29; exact y_tableIn 1065 dL_law_33 (by unfold Rg; decide) (by decide) rfl (by decide) (lc_best h hL hi hk1 hj1 nx)
    by_cases w30 : w = 30
    · subst w30; exact y_tableIn 1124 dL_law_33 (by unfold Rg; decide) (by decide) rfl (by decide) (lc_digit h hL hi hk1 hj1 nx)
    by_cases w31 : w = 31
    · subst w31; exact y_tableIn 1157 dL_law_33 (by unfold Rg; decide) (by decide) rfl (by decide) (lc_tickets h hL hi hk1 hj1 nx)
    by_cases w32 : w = 32
    · subst w32; exact y_tableIn 1180 dL_law_33 (by unfold Rg; decide) (by decide) rfl (by decide) (lc_hook h hL hi hk1 hj1 nx)
    by_cases w33 : w = 33
    · subst w33; exact y_tableIn 1203 dL_law_33 (by unfold Rg; decide) (by decide) rfl (by decide) (lc_hung h hL hi hk1 hj1 nx)
    by_cases w34 : w = 34
    · subst w34; exact y_tableIn 1236 dL_law_33 (by unfold Rg; decide) (by decide) rfl (by decide) (lc_look h hL hi hk1 hj1 nx)
    by_cases w35 : w = 35
    · subst w35; exact y_tableIn 1259 dL_law_33 (by unfold Rg; decide) (by decide) rfl (by decide) (lc_bid h hL hi hk1 hj1 nx)
    by_cases w36 : w = 36
    · subst w36; exact y_tableIn 1308 dL_law_33 (by unfold Rg; decide) (by decide) rfl (by decide) (lc_market h hL hi hk1 hj1 nx)
    by_cases w37 : w = 37
    · subst w37; exact y_tableIn 1331 dL_law_33 (by unfold Rg; decide) (by decide) rfl (by decide) (lc_gain h hL hi hk1 hj1 nx)
    by_cases w38 : w = 38
    · subst w38; exact y_tableIn 1344 dL_law_33 (by unfold Rg; decide) (by decide) rfl (by decide) (lc_said h hL hi hk1 hj1 nx)
    by_cases w39 : w = 39
    · subst w39; exact y_tableIn 1377 dL_law_33 (by unfold Rg; decide) (by decide) rfl (by decide) (lc_whose h hL hi hk1 hj1 nx)
    by_cases w40 : w = 40
    · subst w40; exact y_tableIn 1390 dL_law_33 (by unfold Rg; decide) (by decide) rfl (by decide) (lc_hottest h hL hi hk1 hj1 nx)
    by_cases w41 : w = 41
    · subst w41; exact y_tableIn 1403 dL_law_33 (by unfold Rg; decide) (by decide) rfl (by decide) (lc_silent h hL hi hk1 hj1 nx)
    by_cases w42 : w = 42
    · subst w42; exact y_tableIn 1416 dL_law_33 (by unfold Rg; decide) (by decide) rfl (by decide) (lc_ledger h hL hi hk1 hj1 nx)
    by_cases w43 : w = 43
    · subst w43; exact y_tableIn 1439 dL_law_33 (by unfold Rg; decide) (by decide) rfl (by decide) (lc_image h hL hi hk1 hj1 nx)
    by_cases w44 : w = 44
    · subst w44; exact y_tableIn 1452 dL_law_33 (by unfold Rg; decide) (by decide) rfl (by decide) (lc_back h hL hi hk1 hj1 nx)
    by_cases w45 : w = 45
    · subst w45; exact y_tableIn 1465 dL_law_33 (by unfold Rg; decide) (by decide) rfl (by decide) (lc_about h hL hi hk1 hj1 nx)
    exact y_tableOut 1488 dL_law_33 (by unfold Rg; omega) (by omega) (by decide) (nx _ _ _ _ _ (by omega) (by omega) hJ0)
theorem law_go {b0 Ln : Nat} {xs : Nat → Int32} (hL : Ln ≤ 3072) (hS : S.1 = 0) (hrb : RB S R) : LwP b0 Ln xs 1300 600000 7302250 mL_law PL 0 [(0, .ref b0)] [] 0 0 S I R := by
  refine y_new dL_law_0 nw_RL_7 hrb (by omega) (by decide) (fun S2 n2 => ?_)
  rw [hS]
  refine y_dup dL_law_3 rfl ?_
  have o2 : OB S2 0 11 := by have := n2.nob; rw [hS] at this; exact this
  refine y_callI (b := 0) (n1 := 1299) (mc1 := 305) (ms1 := 4244) [] [.ref (S2.2.1 0)] dL_law_4 cv_RL_9 rfl (Nat.le_of_ble_eq_true rfl) (by omega) (by omega) (by decide) ?_
  refine sp_X11_init (by omega) o2 (by rw [n2.1, hS]) (hrb.zr (by rw [n2.1]; omega) _) (fun S3 J R3 g s3 rb3 cc rn vz => ?_)
  refine y_astore_n (i := 1) dL_law_7 (by decide) rfl ?_
  refine y_new dL_law_8 nw_RL_10 rb3 (by omega) (by decide) (fun S4 n4 => ?_)
  rw [s3]
  refine y_dup dL_law_11 rfl ?_
  have o4 : OB S4 306 12 := by have := n4.nob; rw [s3] at this; exact this
  refine y_callI (b := 306) (n1 := 1299) (mc1 := 18) (ms1 := 9836) [] [.ref (S4.2.1 306)] dL_law_12 cv_RL_12 rfl (Nat.le_of_ble_eq_true rfl) (by omega) (by omega) (by decide) ?_
  refine sp_X12_init (by omega) o4 (by rw [n4.1, s3]) (rb3.zr (by rw [n4.1]; omega) _) (fun q => zI_s _ _ _) (fun S5 J5 R5 g5 s5 rb5 fr5 cm vm => ?_)
  refine y_astore_n (i := 2) dL_law_15 (by decide) rfl ?_
  refine y_iconst dL_law_16 ?_
  refine y_istore_n (i := 3) dL_law_17 (by decide) rfl ?_
  have e : ∀ x, x < 306 → J5 x = J x := fun x hx => by rw [(fr5 x hx).1, zI_o (by omega)]
  have er : ∀ x, x < 306 → R5 x = R3 x := fun x hx => by rw [(fr5 x hx).2, zR_o (by omega)]
  have g35 : Gr S3 S5 := n4.gr.tr g5
  have cs : CS S5 R5 := cs_of cc cm g35 er (by omega)
  have z1 : A0 1 = 0 := A0_z (by omega)
  have ab : ∀ q : Nat, (q : Int) < A0 1 → False := fun q hq => by rw [z1] at hq; omega
  obtain ⟨v1, v2, v3, v4, v5, v6, v7, v8, v9, v10, v11⟩ := vz
  obtain ⟨u1, u2, u3, u4, u5, u6, u7, u8, u9⟩ := vm
  have e281 := e 281 (by omega)
  have e287 := e 287 (by omega)
  have e288 := e 288 (by omega)
  have e290 := e 290 (by omega)
  have e304 := e 304 (by omega)
  have e305 := e 305 (by omega)
  have hI : LI (S2.2.1 0) (S4.2.1 306) S5 J5 R5 A0 A0 (fun _ _ => 0) (fun _ => 0) 0 := by
    refine ⟨?_, ?_, cs, rb5, ⟨ClW_fr (fun c q1 q2 => e c (by omega)) v1, BA_0, fun q hq => (ab q hq).elim, fun q hq => ?_⟩, u1, ClW_frb (fun c q1 q2 => e c (by omega)) v2, BA_0, fun q _ => by rw [u2], Int.le_refl _, fun q hq => (ab q hq).elim, fun q hq => Or.inl ?_, fun q hq => Or.inl ?_, ⟨?_, ?_, by omega, fun q _ => by show (0 : Int) ≤ 0 ∧ (0 : Int) < 256; decide⟩, ⟨?_, ?_, by omega, fun q _ => by show (0 : Int) ≤ 0 ∧ (0 : Int) < 256; decide⟩, ?_, ?_, ?_, fun q hq => ?_, u9, ⟨fun q hq => ?_, fun q hq => ?_⟩, ⟨fun q hq => ?_, fun q hq => ?_⟩, fun q hq => (ab q hq).elim, fun q hq => (ab q hq).elim⟩
    · have h4 := (n4.2.1 0 (by omega)).1
      have h5 := g5.ad (a := 0) (by rw [n4.1]; omega)
      have h3 := g.ad (a := 0) (by rw [n2.1]; omega)
      rw [h5, h4, h3]
    · exact g5.ad (by rw [n4.1]; omega)
    · rw [e281, v3]; omega
    · rw [er 12 (by omega)]; exact (rn q hq).1
    · rw [er 151 (by omega)]; exact (rn q hq).2
    · rw [e288]; funext q; exact v4 q
    · rw [e287, v8]; rfl
    · funext q; exact u3 q
    · rw [u6]; rfl
    · rw [e287, v9, u7]
    · rw [e287, v10, u8]
    · rw [e287, v11]; omega
    · rw [e290, v5]; omega
    · rw [e304, v6]; omega
    · rw [e305, v7]; omega
    · rw [u4]; omega
    · rw [u5]; omega
  exact law_lp hL _ 0 S5 J5 R5 _ _ (by omega) rfl (by omega) (by decide) ⟨_, _, _, _, _, hI⟩
end Lw6
