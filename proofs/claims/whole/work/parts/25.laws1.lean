theorem lI_div {x y : Int} (hx : -9000000000000000000 ≤ x ∧ x ≤ 9000000000000000000) (hy : Rl y) : lI x / lI y = lI (x.tdiv y) := by
  have h1 : (x.tdiv y).natAbs ≤ x.natAbs := by rw [Int.natAbs_tdiv]; exact Nat.div_le_self _ _
  rw [← Int64.toInt_inj, Int64.toInt_div, lI_toInt ⟨by omega, by omega⟩, lI_toInt hy, lI_toInt ⟨by omega, by omega⟩]
  exact Int.bmod_eq_of_le (by omega) (by omega)
theorem lI_mod {x y : Int} (hx : 0 ≤ x ∧ x ≤ 9000000000000000000) (hy : 0 < y ∧ Rl y) : lI x - lI x / lI y * lI y = lI (x % y) := by
  rw [lI_div ⟨by omega, by omega⟩ hy.2, lI_mul, lI_sub, Int.tdiv_eq_ediv_of_nonneg hx.1]
  congr 1
  have := Int.emod_def x y
  rw [this, Int.mul_comm]
section LDiv
variable {n mc ms : Nat} {M : Md} {Post : PT} {pc : Nat} {lv lv2 : List (Nat × Value)} {st : List Value} {k j : Nat} {S : Sh} {I : CI} {R : CR}
theorem x_ldiv {x y : Int} (d : decode M.2.1 pc = .ok (.ldiv, 1)) (hr : (-9000000000000000000 ≤ x ∧ x ≤ 9000000000000000000) ∧ Rl y ∧ y ≠ 0) (h : WP n mc ms M Post (pc + 1) lv (.long (lI (x.tdiv y)) :: st) k j S I R) : WP n mc ms M Post pc lv (.long (lI y) :: .long (lI x) :: st) k j S I R := by
  intro l p e s m args below meth c D cy A H locs ls C hl hP hD hS
  refine lv_ldiv C.1 C.2.1 d (fun q => ?_) ?_
  · rw [show (0 : Int64) = lI 0 from rfl, lI_eq hr.2.1 (by omega)] at q; exact hr.2.2 q
  · rw [lI_div hr.1 hr.2.1]
    exact h l p e s m args below meth c D cy A H locs ls C hl hP hD hS
theorem x_lrem {x y : Int} (d : decode M.2.1 pc = .ok (.lrem, 1)) (hr : (0 ≤ x ∧ x ≤ 9000000000000000000) ∧ Rl y ∧ 0 < y) (h : WP n mc ms M Post (pc + 1) lv (.long (lI (x % y)) :: st) k j S I R) : WP n mc ms M Post pc lv (.long (lI y) :: .long (lI x) :: st) k j S I R := by
  intro l p e s m args below meth c D cy A H locs ls C hl hP hD hS
  refine lv_lrem C.1 C.2.1 d (fun q => ?_) ?_
  · rw [show (0 : Int64) = lI 0 from rfl, lI_eq hr.2.1 (by omega)] at q; omega
  · rw [lI_mod hr.1 ⟨hr.2.2, hr.2.1⟩]
    exact h l p e s m args below meth c D cy A H locs ls C hl hP hD hS
end LDiv
section Laws1
variable {n : Nat} {Post : PT} {S : Sh} {I : CI} {R : CR} {A : Nat → Int}
theorem ClW_fr {I I' : CI} {A : Nat → Int} (h : ∀ c, 1 ≤ c → c < 140 → I' c = I c) (hc : ClW I 1 A) : ClW I' 1 A := by
  obtain ⟨⟨⟨c0, c7, c8, c9, c10, c11⟩, cq⟩, ⟨⟨t1, t2, t3, t4, t5, t6, t7, t8, t9⟩, tq, th, tb, ts, td⟩, cb, cp⟩ := hc
  have e : ∀ j, stId 1 I' j = stId 1 I j := fun j => by unfold stId; rw [h 1 (by omega) (by omega)]
  unfold ClW ClN ClT ClB ClP
  rw [h (1 + 5) (by omega) (by omega), h (1 + 6) (by omega) (by omega), h (1 + 7) (by omega) (by omega), h (1 + 8) (by omega) (by omega), h 1 (by omega) (by omega), h (1 + 12) (by omega) (by omega), h (1 + 1) (by omega) (by omega), h (1 + 2) (by omega) (by omega), h (1 + 3) (by omega) (by omega), h (1 + 4) (by omega) (by omega), h (1 + 14) (by omega) (by omega), h (1 + 15) (by omega) (by omega), h (1 + 16) (by omega) (by omega), h (1 + 17) (by omega) (by omega), h (1 + 18) (by omega) (by omega), h (1 + 13) (by omega) (by omega), h (1 + 10) (by omega) (by omega)]
  refine ⟨⟨⟨c0, c7, c8, c9, c10, c11⟩, cq⟩, ⟨⟨t1, t2, t3, t4, t5, t6, t7, t8, t9⟩, tq, th, tb, ts, td⟩, cb, fun j hj => ?_⟩
  rw [e]
  have hs := cp j hj
  have hs1 : 20 ≤ stId 1 I j ∧ stId 1 I j ≤ 136 := by unfold stId; omega
  unfold ClS at hs ⊢
  rw [h _ (by omega) (by omega), h (stId 1 I j + 1) (by omega) (by omega), h (stId 1 I j + 2) (by omega) (by omega), h (stId 1 I j + 3) (by omega) (by omega)]
  exact hs
theorem SB_fr {I I' : CI} (h : ∀ c, 6 ≤ c → c ≤ 9 → I' c = I c) (hb : SB I 6) : SB I' 6 := by
  unfold SB at hb ⊢
  rw [h 6 (by omega) (by omega), h (6 + 1) (by omega) (by omega), h (6 + 2) (by omega) (by omega), h (6 + 3) (by omega) (by omega)]
  exact hb
theorem cn_eq {I I' : CI} {A : Nat → Int} (hc : ClW I 1 A) (hb : BA A) (h : ∀ c, 6 ≤ c → c ≤ 7 → I' c = I c) : cnt1 (I' (6 + 1)) (I' 6 3).toNat = cnt1 (fun i => A (12 + 3 * i)) (A 0).toNat := by
  have e : A 0 = I 6 3 := hc.1.1.1
  have h0 := hb.1.1
  rw [h 6 (by omega) (by omega), h (6 + 1) (by omega) (by omega), ← e]
  exact cnt1_congr (fun i hi => ((hc.1.2 i (by omega)).1).symm)
theorem uI_e {I : CI} {a i k : Nat} {v : Int} (h : i = k) : uI I a i v a k = v := by rw [h, uI_s]
/-- the names of a quarrel, so many days later, the purse being p -/
def nmA (A : Nat → Int) (q : Nat) (l p : Int) : Nat → Int := fun k => if k = 0 then A 7 + l else if k = 1 then A 10 else if k = 2 then (q : Int) else if k = 3 then A (52 + q) else if k = 4 then A (14 + 3 * q) else if k = 5 then (if A (12 + 3 * q) = 1 then A 7 - A (13 + 3 * q) + l else 0) else if k = 6 then p else cnt1 (fun i => A (12 + 3 * i)) (A 0).toNat
theorem nmA_b {q : Nat} {l p : Int} (hb : BA A) (hq : q < 8) (hl : 0 ≤ l ∧ l ≤ 60) (hp : -100000 ≤ p ∧ p ≤ 100000) : ∀ k, -100000 ≤ nmA A q l p k ∧ nmA A q l p k ≤ 100000 := by
  obtain ⟨⟨b0, b1, b2, b3, b4, bq, bl⟩, -, dq, -⟩ := hb
  have b7 : 0 ≤ A 7 ∧ A 7 ≤ 9999 := b1
  have b10 : 0 ≤ A 10 ∧ A 10 ≤ 1 := b4
  have w1 := dq q hq
  have w4 := bq q hq
  rw [show 6 + 6 + 3 * q = 12 + 3 * q by omega, show 6 + 7 + 3 * q = 13 + 3 * q by omega, show 6 + 8 + 3 * q = 14 + 3 * q by omega, show 6 + 1 = 7 by rfl] at w4
  have hcn := cnt1_b (fun i => A (12 + 3 * i)) (A 0).toNat
  intro k
  unfold nmA
  split
  · omega
  · split
    · omega
    · split
      · omega
      · split
        · omega
        · split
          · omega
          · split
            · split <;> omega
            · split <;> omega
theorem dX3_nameAll_0 : decode prog_5_method_7_code 0 = .ok (.aload_n 0, 1) := by decide +kernel
theorem dX3_nameAll_1 : decode prog_5_method_7_code 1 = .ok (.getfield 18, 3) := by decide +kernel
theorem dX3_nameAll_4 : decode prog_5_method_7_code 4 = .ok (.getfield 28, 3) := by decide +kernel
theorem dX3_nameAll_7 : decode prog_5_method_7_code 7 = .ok (.astore 4, 2) := by decide +kernel
theorem dX3_nameAll_9 : decode prog_5_method_7_code 9 = .ok (.aload_n 0, 1) := by decide +kernel
theorem dX3_nameAll_10 : decode prog_5_method_7_code 10 = .ok (.getfield 9, 3) := by decide +kernel
theorem dX3_nameAll_13 : decode prog_5_method_7_code 13 = .ok (.iconst 0, 1) := by decide +kernel
theorem dX3_nameAll_14 : decode prog_5_method_7_code 14 = .ok (.aload 4, 2) := by decide +kernel
theorem dX3_nameAll_16 : decode prog_5_method_7_code 16 = .ok (.getfield 115, 3) := by decide +kernel
theorem dX3_nameAll_19 : decode prog_5_method_7_code 19 = .ok (.iload_n 2, 1) := by decide +kernel
theorem dX3_nameAll_20 : decode prog_5_method_7_code 20 = .ok (.iadd, 1) := by decide +kernel
theorem dX3_nameAll_21 : decode prog_5_method_7_code 21 = .ok (.iastore, 1) := by decide +kernel
theorem dX3_nameAll_22 : decode prog_5_method_7_code 22 = .ok (.aload_n 0, 1) := by decide +kernel
theorem dX3_nameAll_23 : decode prog_5_method_7_code 23 = .ok (.getfield 9, 3) := by decide +kernel
theorem dX3_nameAll_26 : decode prog_5_method_7_code 26 = .ok (.iconst 1, 1) := by decide +kernel
theorem dX3_nameAll_27 : decode prog_5_method_7_code 27 = .ok (.aload 4, 2) := by decide +kernel
theorem dX3_nameAll_29 : decode prog_5_method_7_code 29 = .ok (.getfield 118, 3) := by decide +kernel
theorem dX3_nameAll_32 : decode prog_5_method_7_code 32 = .ok (.iastore, 1) := by decide +kernel
theorem dX3_nameAll_33 : decode prog_5_method_7_code 33 = .ok (.aload_n 0, 1) := by decide +kernel
theorem dX3_nameAll_34 : decode prog_5_method_7_code 34 = .ok (.getfield 9, 3) := by decide +kernel
theorem dX3_nameAll_37 : decode prog_5_method_7_code 37 = .ok (.iconst 2, 1) := by decide +kernel
theorem dX3_nameAll_38 : decode prog_5_method_7_code 38 = .ok (.iload_n 1, 1) := by decide +kernel
theorem dX3_nameAll_39 : decode prog_5_method_7_code 39 = .ok (.iastore, 1) := by decide +kernel
theorem dX3_nameAll_40 : decode prog_5_method_7_code 40 = .ok (.aload_n 0, 1) := by decide +kernel
theorem dX3_nameAll_41 : decode prog_5_method_7_code 41 = .ok (.getfield 9, 3) := by decide +kernel
theorem dX3_nameAll_44 : decode prog_5_method_7_code 44 = .ok (.iconst 3, 1) := by decide +kernel
theorem dX3_nameAll_45 : decode prog_5_method_7_code 45 = .ok (.aload_n 0, 1) := by decide +kernel
theorem dX3_nameAll_46 : decode prog_5_method_7_code 46 = .ok (.getfield 18, 3) := by decide +kernel
theorem dX3_nameAll_49 : decode prog_5_method_7_code 49 = .ok (.getfield 121, 3) := by decide +kernel
theorem dX3_nameAll_52 : decode prog_5_method_7_code 52 = .ok (.iload_n 1, 1) := by decide +kernel
theorem dX3_nameAll_53 : decode prog_5_method_7_code 53 = .ok (.iaload, 1) := by decide +kernel
theorem dX3_nameAll_54 : decode prog_5_method_7_code 54 = .ok (.iastore, 1) := by decide +kernel
theorem dX3_nameAll_55 : decode prog_5_method_7_code 55 = .ok (.aload_n 0, 1) := by decide +kernel
theorem dX3_nameAll_56 : decode prog_5_method_7_code 56 = .ok (.getfield 9, 3) := by decide +kernel
theorem dX3_nameAll_59 : decode prog_5_method_7_code 59 = .ok (.iconst 4, 1) := by decide +kernel
theorem dX3_nameAll_60 : decode prog_5_method_7_code 60 = .ok (.aload 4, 2) := by decide +kernel
theorem dX3_nameAll_62 : decode prog_5_method_7_code 62 = .ok (.getfield 124, 3) := by decide +kernel
theorem dX3_nameAll_65 : decode prog_5_method_7_code 65 = .ok (.iload_n 1, 1) := by decide +kernel
theorem dX3_nameAll_66 : decode prog_5_method_7_code 66 = .ok (.iaload, 1) := by decide +kernel
theorem dX3_nameAll_67 : decode prog_5_method_7_code 67 = .ok (.iastore, 1) := by decide +kernel
theorem dX3_nameAll_68 : decode prog_5_method_7_code 68 = .ok (.aload_n 0, 1) := by decide +kernel
theorem dX3_nameAll_69 : decode prog_5_method_7_code 69 = .ok (.getfield 9, 3) := by decide +kernel
theorem dX3_nameAll_72 : decode prog_5_method_7_code 72 = .ok (.iconst 5, 1) := by decide +kernel
theorem dX3_nameAll_73 : decode prog_5_method_7_code 73 = .ok (.aload 4, 2) := by decide +kernel
theorem dX3_nameAll_75 : decode prog_5_method_7_code 75 = .ok (.getfield 84, 3) := by decide +kernel
theorem dX3_nameAll_78 : decode prog_5_method_7_code 78 = .ok (.iload_n 1, 1) := by decide +kernel
theorem dX3_nameAll_79 : decode prog_5_method_7_code 79 = .ok (.iaload, 1) := by decide +kernel
theorem dX3_nameAll_80 : decode prog_5_method_7_code 80 = .ok (.iconst 1, 1) := by decide +kernel
theorem dX3_nameAll_81 : decode prog_5_method_7_code 81 = .ok (.if_icmp .ne 21, 3) := by decide +kernel
theorem dX3_nameAll_84 : decode prog_5_method_7_code 84 = .ok (.aload 4, 2) := by decide +kernel
theorem dX3_nameAll_86 : decode prog_5_method_7_code 86 = .ok (.getfield 115, 3) := by decide +kernel
theorem dX3_nameAll_89 : decode prog_5_method_7_code 89 = .ok (.aload 4, 2) := by decide +kernel
theorem dX3_nameAll_91 : decode prog_5_method_7_code 91 = .ok (.getfield 127, 3) := by decide +kernel
theorem dX3_nameAll_94 : decode prog_5_method_7_code 94 = .ok (.iload_n 1, 1) := by decide +kernel
theorem dX3_nameAll_95 : decode prog_5_method_7_code 95 = .ok (.iaload, 1) := by decide +kernel
theorem dX3_nameAll_96 : decode prog_5_method_7_code 96 = .ok (.isub, 1) := by decide +kernel
theorem dX3_nameAll_97 : decode prog_5_method_7_code 97 = .ok (.iload_n 2, 1) := by decide +kernel
theorem dX3_nameAll_98 : decode prog_5_method_7_code 98 = .ok (.iadd, 1) := by decide +kernel
theorem dX3_nameAll_99 : decode prog_5_method_7_code 99 = .ok (.goto 4, 3) := by decide +kernel
theorem dX3_nameAll_102 : decode prog_5_method_7_code 102 = .ok (.iconst 0, 1) := by decide +kernel
theorem dX3_nameAll_103 : decode prog_5_method_7_code 103 = .ok (.iastore, 1) := by decide +kernel
theorem dX3_nameAll_104 : decode prog_5_method_7_code 104 = .ok (.aload_n 0, 1) := by decide +kernel
theorem dX3_nameAll_105 : decode prog_5_method_7_code 105 = .ok (.getfield 9, 3) := by decide +kernel
theorem dX3_nameAll_108 : decode prog_5_method_7_code 108 = .ok (.bipush 6, 2) := by decide +kernel
theorem dX3_nameAll_110 : decode prog_5_method_7_code 110 = .ok (.iload_n 3, 1) := by decide +kernel
theorem dX3_nameAll_111 : decode prog_5_method_7_code 111 = .ok (.iastore, 1) := by decide +kernel
theorem dX3_nameAll_112 : decode prog_5_method_7_code 112 = .ok (.aload_n 0, 1) := by decide +kernel
theorem dX3_nameAll_113 : decode prog_5_method_7_code 113 = .ok (.getfield 9, 3) := by decide +kernel
theorem dX3_nameAll_116 : decode prog_5_method_7_code 116 = .ok (.bipush 7, 2) := by decide +kernel
theorem dX3_nameAll_118 : decode prog_5_method_7_code 118 = .ok (.aload 4, 2) := by decide +kernel
theorem dX3_nameAll_120 : decode prog_5_method_7_code 120 = .ok (.invokevirtual 130, 3) := by decide +kernel
theorem dX3_nameAll_123 : decode prog_5_method_7_code 123 = .ok (.iastore, 1) := by decide +kernel
theorem dX3_nameAll_124 : decode prog_5_method_7_code 124 = .ok (.return_, 1) := by decide +kernel
theorem sp_X3_nameAll {q l p : Int} (cs : CS S R) (hc : ClW I 1 A) (hb : BA A) (hq : 0 ≤ q ∧ q < 8) (hn : 1 ≤ n) (hp : ∀ I', (∀ k, k < 8 → I' 280 k = nmA A q.toNat l p k) → (∀ c, c ≠ 280 → I' c = I c) → Post none S I' R) : Call n 0 0 mX3_nameAll [.ref (S.2.1 279), .int (iI q), .int (iI l), .int (iI p)] S I R Post := by
  obtain ⟨⟨⟨c0, c7, c8, c9, c10, c11⟩, cq⟩, ⟨⟨t1, t2, t3, t4, t5, t6, t7, t8, t9⟩, tq, th, tb, ts, td⟩, cb, cp⟩ := id hc
  dsimp only [Nat.reduceAdd] at c0 c7 c8 c9 c10 c11 cq t1 t2 t3 t4 t5 t6 t7 t8 t9 tq th tb ts td
  obtain ⟨⟨b0, b1, b2, b3, b4, bq, bl⟩, ⟨d1, d2, d3, d4, d5, d6, d7⟩, dq, dh, db, ds, dd, dp⟩ := id hb
  have b7 : 0 ≤ A 7 ∧ A 7 ≤ 9999 := b1
  have b8 : 0 ≤ A 8 ∧ A 8 ≤ 30870 := b2
  have b9 : 0 ≤ A 9 ∧ A 9 ≤ 9999 := b3
  have b10 : 0 ≤ A 10 ∧ A 10 ≤ 1 := b4
  have b11 : 0 ≤ A 11 ∧ A 11 ≤ 16 := by have h1 := lns_b (fun q => A (6 + 6 + 3 * q)) (A 0).toNat; have h2 : A 11 = _ := bl; omega
  have w1 := dq q.toNat (by omega)
  have w2 := tq q.toNat (by omega)
  have w3 := cq q.toNat (by omega)
  have w4 := bq q.toNat (by omega)
  rw [show 6 + 6 + 3 * q.toNat = 12 + 3 * q.toNat by omega, show 6 + 7 + 3 * q.toNat = 13 + 3 * q.toNat by omega, show 6 + 8 + 3 * q.toNat = 14 + 3 * q.toNat by omega] at w4
  have hsb : SB I 6 := SB_now hc hb
  refine Call.of (by decide +kernel) (Nat.le_of_ble_eq_true rfl) ?_
  show WP _ _ _ _ _ 0 [(0, _), (1, _), (2, _), (3, _)] [] 0 0 _ _ _
  refine x_aload_n dX3_nameAll_0 rfl ?_
  refine x_getR (b := 1) dX3_nameAll_1 gf_RX3_18 (k_ob_279 cs) (fun _ _ => rfl) (k_r_279_0 cs) ?_
  refine x_getR (b := 6) dX3_nameAll_4 gf_RX3_28 (k_ob_1 cs) (fun _ _ => rfl) (k_r_1_4 cs) ?_
  refine x_astore (lv2 := [(4, _), (0, _), (1, _), (2, _), (3, _)]) dX3_nameAll_7 (by decide) rfl ?_
  refine x_aload_n dX3_nameAll_9 rfl ?_
  refine x_getR (b := 280) dX3_nameAll_10 gf_RX3_9 (k_ob_279 cs) (fun _ _ => rfl) (k_r_279_1 cs) ?_
  refine x_iconst dX3_nameAll_13 ?_
  refine x_aload dX3_nameAll_14 rfl ?_
  refine x_getIv (z := I 6 6) dX3_nameAll_16 gf_RX3_115 (k_ob_6 cs) (fun _ _ => rfl) (by (repeat first | rw [uI_s] | rw [uI_o (by omega)]); try rfl) ?_
  refine x_iload_n dX3_nameAll_19 rfl ?_
  refine x_iadd dX3_nameAll_20 ?_
  refine x_iastore dX3_nameAll_21 (k_ar_280 cs) (by omega) (by omega) ?_
  refine x_aload_n dX3_nameAll_22 rfl ?_
  refine x_getR (b := 280) dX3_nameAll_23 gf_RX3_9 (k_ob_279 cs) (fun _ _ => rfl) (k_r_279_1 cs) ?_
  refine x_iconst dX3_nameAll_26 ?_
  refine x_aload dX3_nameAll_27 rfl ?_
  refine x_getIv (z := I 6 5) dX3_nameAll_29 gf_RX3_118 (k_ob_6 cs) (fun _ _ => rfl) (by (repeat first | rw [uI_s] | rw [uI_o (by omega)]); try rfl) ?_
  refine x_iastore dX3_nameAll_32 (k_ar_280 cs) (by omega) (by omega) ?_
  refine x_aload_n dX3_nameAll_33 rfl ?_
  refine x_getR (b := 280) dX3_nameAll_34 gf_RX3_9 (k_ob_279 cs) (fun _ _ => rfl) (k_r_279_1 cs) ?_
  refine x_iconst dX3_nameAll_37 ?_
  refine x_iload_n dX3_nameAll_38 rfl ?_
  refine x_iastore dX3_nameAll_39 (k_ar_280 cs) (by omega) (by omega) ?_
  refine x_aload_n dX3_nameAll_40 rfl ?_
  refine x_getR (b := 280) dX3_nameAll_41 gf_RX3_9 (k_ob_279 cs) (fun _ _ => rfl) (k_r_279_1 cs) ?_
  refine x_iconst dX3_nameAll_44 ?_
  refine x_aload_n dX3_nameAll_45 rfl ?_
  refine x_getR (b := 1) dX3_nameAll_46 gf_RX3_18 (k_ob_279 cs) (fun _ _ => rfl) (k_r_279_0 cs) ?_
  refine x_getR (b := 4) dX3_nameAll_49 gf_RX3_121 (k_ob_1 cs) (fun _ _ => rfl) (k_r_1_2 cs) ?_
  refine x_iload_n dX3_nameAll_52 rfl ?_
  refine x_iaload dX3_nameAll_53 (k_ar_4 cs) (by omega) (by omega) ?_
  obtain ⟨v3, hv3⟩ : ∃ v3, v3 = A (52 + q.toNat) := ⟨_, rfl⟩
  rw [uI_o (by omega), uI_o (by omega), uI_o (by omega), ← w2.2.2.1]
  refine x_iastore dX3_nameAll_54 (k_ar_280 cs) (by omega) (by omega) ?_
  refine x_aload_n dX3_nameAll_55 rfl ?_
  refine x_getR (b := 280) dX3_nameAll_56 gf_RX3_9 (k_ob_279 cs) (fun _ _ => rfl) (k_r_279_1 cs) ?_
  refine x_iconst dX3_nameAll_59 ?_
  refine x_aload dX3_nameAll_60 rfl ?_
  refine x_getR (b := 9) dX3_nameAll_62 gf_RX3_124 (k_ob_6 cs) (fun _ _ => rfl) (k_r_6_2 cs) ?_
  refine x_iload_n dX3_nameAll_65 rfl ?_
  refine x_iaload dX3_nameAll_66 (k_ar_9 cs) (by omega) (by omega) ?_
  rw [uI_o (by omega), uI_o (by omega), uI_o (by omega), uI_o (by omega), ← w3.2.2]
  refine x_iastore dX3_nameAll_67 (k_ar_280 cs) (by omega) (by omega) ?_
  refine x_aload_n dX3_nameAll_68 rfl ?_
  refine x_getR (b := 280) dX3_nameAll_69 gf_RX3_9 (k_ob_279 cs) (fun _ _ => rfl) (k_r_279_1 cs) ?_
  refine x_iconst dX3_nameAll_72 ?_
  refine x_aload dX3_nameAll_73 rfl ?_
  refine x_getR (b := 7) dX3_nameAll_75 gf_RX3_84 (k_ob_6 cs) (fun _ _ => rfl) (k_r_6_0 cs) ?_
  refine x_iload_n dX3_nameAll_78 rfl ?_
  refine x_iaload dX3_nameAll_79 (k_ar_7 cs) (by omega) (by omega) ?_
  rw [uI_o (by omega), uI_o (by omega), uI_o (by omega), uI_o (by omega), uI_o (by omega), ← w3.1]
  refine x_iconst dX3_nameAll_80 ?_
  refine x_icmp_ne 102 dX3_nameAll_81 (by decide) ⟨(by omega), (by omega)⟩ (fun w81 => ?_) (fun w81 => ?_)
  · refine x_iconst dX3_nameAll_102 ?_
    refine x_iastore dX3_nameAll_103 (k_ar_280 cs) (by omega) (by omega) ?_
    refine x_aload_n dX3_nameAll_104 rfl ?_
    refine x_getR (b := 280) dX3_nameAll_105 gf_RX3_9 (k_ob_279 cs) (fun _ _ => rfl) (k_r_279_1 cs) ?_
    refine x_bipush dX3_nameAll_108 (by decide) ?_
    refine x_iload_n dX3_nameAll_110 rfl ?_
    refine x_iastore dX3_nameAll_111 (k_ar_280 cs) (by omega) (by omega) ?_
    refine x_aload_n dX3_nameAll_112 rfl ?_
    refine x_getR (b := 280) dX3_nameAll_113 gf_RX3_9 (k_ob_279 cs) (fun _ _ => rfl) (k_r_279_1 cs) ?_
    refine x_bipush dX3_nameAll_116 (by decide) ?_
    refine x_aload dX3_nameAll_118 rfl ?_
    refine x_callV0 (mc1 := 0) (ms1 := 0) dX3_nameAll_120 cv_RX3_130 (ci := 6) (k_ob_6 cs) rfl (Nat.le_of_ble_eq_true rfl) (n1 := n - 1) (by omega) (by omega) (by omega) ?_
    refine sp_X6_countPawned (k_st_6 cs) (SB_fr (by intro c h1 h2; repeat rw [uI_row (by omega)]) hsb) ?_
    rw [cn_eq hc hb (by intro c h1 h2; repeat rw [uI_row (by omega)])]
    refine x_iastore dX3_nameAll_123 (k_ar_280 cs) (by omega) (by omega) ?_
    exact x_return dX3_nameAll_124 rfl (by omega) (by omega) (hp _ (fun k hk => by
        rcases (show k = 0 ∨ k = 1 ∨ k = 2 ∨ k = 3 ∨ k = 4 ∨ k = 5 ∨ k = 6 ∨ k = 7 by omega) with rfl | rfl | rfl | rfl | rfl | rfl | rfl | rfl
        all_goals (repeat rw [uI_o (by omega)])
        all_goals (refine (uI_e (by decide)).trans ?_)
        · show _ = A 7 + l; rw [c7]
        · show _ = A 10; rw [c10]
        · show _ = ((q.toNat : Nat) : Int); omega
        · rfl
        · rfl
        · show _ = (if A (12 + 3 * q.toNat) = 1 then A 7 - A (13 + 3 * q.toNat) + l else 0)
          first | (rw [if_pos (by omega), c7]; done) | (rw [if_neg (by omega)]; done)
        · rfl
        · rfl) (fun c h => by repeat rw [uI_row h]))
  · refine x_aload dX3_nameAll_84 rfl ?_
    refine x_getIv (z := I 6 6) dX3_nameAll_86 gf_RX3_115 (k_ob_6 cs) (fun _ _ => rfl) (by (repeat first | rw [uI_s] | rw [uI_o (by omega)]); try rfl) ?_
    refine x_aload dX3_nameAll_89 rfl ?_
    refine x_getR (b := 8) dX3_nameAll_91 gf_RX3_127 (k_ob_6 cs) (fun _ _ => rfl) (k_r_6_1 cs) ?_
    refine x_iload_n dX3_nameAll_94 rfl ?_
    refine x_iaload dX3_nameAll_95 (k_ar_8 cs) (by omega) (by omega) ?_
    rw [uI_o (by omega), uI_o (by omega), uI_o (by omega), uI_o (by omega), uI_o (by omega), ← w3.2.1]
    refine x_isub dX3_nameAll_96 ?_
    refine x_iload_n dX3_nameAll_97 rfl ?_
    refine x_iadd dX3_nameAll_98 ?_
    refine x_goto 103 dX3_nameAll_99 (by decide) ?_
    refine x_iastore dX3_nameAll_103 (k_ar_280 cs) (by omega) (by omega) ?_
    refine x_aload_n dX3_nameAll_104 rfl ?_
    refine x_getR (b := 280) dX3_nameAll_105 gf_RX3_9 (k_ob_279 cs) (fun _ _ => rfl) (k_r_279_1 cs) ?_
    refine x_bipush dX3_nameAll_108 (by decide) ?_
    refine x_iload_n dX3_nameAll_110 rfl ?_
    refine x_iastore dX3_nameAll_111 (k_ar_280 cs) (by omega) (by omega) ?_
    refine x_aload_n dX3_nameAll_112 rfl ?_
    refine x_getR (b := 280) dX3_nameAll_113 gf_RX3_9 (k_ob_279 cs) (fun _ _ => rfl) (k_r_279_1 cs) ?_
    refine x_bipush dX3_nameAll_116 (by decide) ?_
    refine x_aload dX3_nameAll_118 rfl ?_
    refine x_callV0 (mc1 := 0) (ms1 := 0) dX3_nameAll_120 cv_RX3_130 (ci := 6) (k_ob_6 cs) rfl (Nat.le_of_ble_eq_true rfl) (n1 := n - 1) (by omega) (by omega) (by omega) ?_
    refine sp_X6_countPawned (k_st_6 cs) (SB_fr (by intro c h1 h2; repeat rw [uI_row (by omega)]) hsb) ?_
    rw [cn_eq hc hb (by intro c h1 h2; repeat rw [uI_row (by omega)])]
    refine x_iastore dX3_nameAll_123 (k_ar_280 cs) (by omega) (by omega) ?_
    exact x_return dX3_nameAll_124 rfl (by omega) (by omega) (hp _ (fun k hk => by
        rcases (show k = 0 ∨ k = 1 ∨ k = 2 ∨ k = 3 ∨ k = 4 ∨ k = 5 ∨ k = 6 ∨ k = 7 by omega) with rfl | rfl | rfl | rfl | rfl | rfl | rfl | rfl
        all_goals (repeat rw [uI_o (by omega)])
        all_goals (refine (uI_e (by decide)).trans ?_)
        · show _ = A 7 + l; rw [c7]
        · show _ = A 10; rw [c10]
        · show _ = ((q.toNat : Nat) : Int); omega
        · rfl
        · rfl
        · show _ = (if A (12 + 3 * q.toNat) = 1 then A 7 - A (13 + 3 * q.toNat) + l else 0)
          first | (rw [if_pos (by omega), c7]; done) | (rw [if_neg (by omega)]; done)
        · rfl
        · rfl) (fun c h => by repeat rw [uI_row h]))
end Laws1
