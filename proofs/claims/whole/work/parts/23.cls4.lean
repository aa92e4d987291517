section Cls4
variable {n : Nat} {Post : PT} {S : Sh} {I : CI} {R : CR} {A : Nat → Int}
theorem stCp_o {I : CI} {a b c i : Nat} (h : c < a ∨ a + 3 < c) : stCp I a b c i = I c i := by unfold stCp; rw [if_neg (by omega), if_neg (by omega)]
theorem stCp_row {I : CI} {a b c : Nat} (h : c < a ∨ a + 3 < c) : stCp I a b c = I c := by funext i; exact stCp_o h
theorem stCp_h {I : CI} {a b i : Nat} (h : 3 ≤ i ∧ i ≤ 8) : stCp I a b a i = I b i := by unfold stCp; rw [if_pos rfl, if_pos h]
theorem stCp_r {I : CI} {a b k i : Nat} (hk : 1 ≤ k ∧ k ≤ 3) (h : i < 8) : stCp I a b (a + k) i = I (b + k) i := by unfold stCp; rw [if_neg (by omega), if_pos (by omega), show a + k - a = k by omega]
def kpS (A : Nat → Int) : Nat := if A 3 = 30 then 29 else (A 3).toNat
def keepA (A : Nat → Int) : Nat → Int := fun i => if i = 3 then (kpS A : Int) + 1 else if i < 115 ∨ 2815 ≤ i then A i else if i < 115 + 90 * kpS A then (if A 3 = 30 then A (i + 90) else A i) else if i = 115 + 90 * kpS A then A 0 else if i < 145 + 90 * kpS A then A (i - (115 + 90 * kpS A) + 6) else if i < 205 + 90 * kpS A then A (i - (115 + 90 * kpS A) + 2785) else A i
theorem kp_b (h : 0 ≤ A 3 ∧ A 3 ≤ 30) : kpS A ≤ 29 ∧ (A 3 = 30 → kpS A = 29) ∧ (A 3 ≠ 30 → (kpS A : Int) = A 3) := by unfold kpS; split <;> omega
theorem kp_lo {i : Nat} (h : i ≠ 3) (h2 : i < 115 ∨ 2815 ≤ i) : keepA A i = A i := by unfold keepA; rw [if_neg h, if_pos h2]
theorem kp_3 : keepA A 3 = (kpS A : Int) + 1 := by unfold keepA; rw [if_pos rfl]
theorem kp_old {jj d : Nat} (hb : 0 ≤ A 3 ∧ A 3 ≤ 30) (h : jj < kpS A) (hd : d < 90) : keepA A (115 + 90 * jj + d) = if A 3 = 30 then A (115 + 90 * (jj + 1) + d) else A (115 + 90 * jj + d) := by
  have := kp_b hb
  unfold keepA
  rw [if_neg (by omega), if_neg (by omega), if_pos (by omega), show 115 + 90 * jj + d + 90 = 115 + 90 * (jj + 1) + d by omega]
theorem kp_n0 (hb : 0 ≤ A 3 ∧ A 3 ≤ 30) : keepA A (115 + 90 * kpS A) = A 0 := by
  have := kp_b hb
  unfold keepA
  rw [if_neg (by omega), if_neg (by omega), if_neg (by omega), if_pos rfl]
theorem kp_nd {d : Nat} (hb : 0 ≤ A 3 ∧ A 3 ≤ 30) (hd : 1 ≤ d ∧ d < 30) : keepA A (115 + 90 * kpS A + d) = A (6 + d) := by
  have := kp_b hb
  unfold keepA
  rw [if_neg (by omega), if_neg (by omega), if_neg (by omega), if_neg (by omega), if_pos (by omega)]
  congr 1; omega
theorem kp_nb {d : Nat} (hb : 0 ≤ A 3 ∧ A 3 ≤ 30) (hd : 30 ≤ d ∧ d < 90) : keepA A (115 + 90 * kpS A + d) = A (2785 + d) := by
  have := kp_b hb
  unfold keepA
  rw [if_neg (by omega), if_neg (by omega), if_neg (by omega), if_neg (by omega), if_neg (by omega), if_pos (by omega)]
  congr 1; omega
theorem ClS_of {I I' : CI} {s s' x y : Nat} {A B : Nat → Int} (h : ClS I s A x) (hA : ∀ d, d < 30 → B (y + d) = A (x + d)) (h0 : ∀ i, I' s' i = I s i) (h1 : ∀ k i, 1 ≤ k → k ≤ 3 → i < 8 → I' (s' + k) i = I (s + k) i) : ClS I' s' B y := by
  obtain ⟨⟨s1, s2, s3, s4, s5, s6⟩, s7⟩ := h
  refine ⟨⟨?_, ?_, ?_, ?_, ?_, ?_⟩, fun q hq => ⟨?_, ?_, ?_⟩⟩
  · rw [show y = y + 0 by rfl, hA 0 (by omega), h0]; exact s1
  · rw [hA 1 (by omega), h0]; exact s2
  · rw [hA 2 (by omega), h0]; exact s3
  · rw [hA 3 (by omega), h0]; exact s4
  · rw [hA 4 (by omega), h0]; exact s5
  · rw [hA 5 (by omega), h0]; exact s6
  · rw [show y + 6 + 3 * q = y + (6 + 3 * q) by omega, hA _ (by omega), h1 1 q (by omega) (by omega) hq, ← Nat.add_assoc]; exact (s7 q hq).1
  · rw [show y + 7 + 3 * q = y + (7 + 3 * q) by omega, hA _ (by omega), h1 2 q (by omega) (by omega) hq, ← Nat.add_assoc]; exact (s7 q hq).2.1
  · rw [show y + 8 + 3 * q = y + (8 + 3 * q) by omega, hA _ (by omega), h1 3 q (by omega) (by omega) hq, ← Nat.add_assoc]; exact (s7 q hq).2.2
theorem cu_keep {I : CI} {A : Nat → Int} {v : Int} (hc : ClW I 1 A) (h3 : 0 ≤ A 3 ∧ A 3 ≤ 30) (h11 : A 11 ≤ 30) (hv : v = (kpS A : Int) + 1) : ClW (uI (uI (stCp I (20 + 4 * (I 1 10).toNat) 6) 1 10 ((I 1 10 + 1) % 30)) 1 9 v) 1 (keepA A) := by
  have kb := kp_b h3
  obtain ⟨⟨⟨c0, c7, c8, c9, c10, c11⟩, cq⟩, ⟨⟨t1, t2, t3, t4, t5, t6, t7, t8, t9⟩, tq, th, tb, ts, td⟩, cb, cp⟩ := hc
  dsimp only [Nat.reduceAdd] at c0 c7 c8 c9 c10 c11 cq t1 t2 t3 t4 t5 t6 t7 t8 t9 tq th tb ts td
  obtain ⟨x, hx⟩ : ∃ x : Nat, I 1 10 = (x : Int) := ⟨(I 1 10).toNat, by omega⟩
  rw [hx] at t8 t9 ⊢
  rw [show ((x : Int)).toNat = x by omega]
  have hx30 : x < 30 := by omega
  have rd : ∀ c i : Nat, c < 20 → (c ≠ 1 ∨ (i ≠ 9 ∧ i ≠ 10)) → uI (uI (stCp I (20 + 4 * x) 6) 1 10 (((x : Int) + 1) % 30)) 1 9 v c i = I c i := fun c i h1 h2 => by rw [uI_o (by omega), uI_o (by omega), stCp_o (by omega)]
  refine ⟨⟨⟨?_, ?_, ?_, ?_, ?_, ?_⟩, fun z hz => ?_⟩, ⟨⟨?_, ?_, ?_, ?_, ?_, ?_, ?_, ?_, ?_⟩, fun z hz => ?_, fun i hi => ?_, fun i hi => ?_, fun i hi => ?_, fun i hi => ?_⟩, fun i hi => ?_, fun z hz => ?_⟩ <;> (try dsimp only [Nat.reduceAdd])
  · rw [kp_lo (by decide) (by decide), rd _ _ (by decide) (by decide)]; exact c0
  · rw [kp_lo (by decide) (by decide), rd _ _ (by decide) (by decide)]; exact c7
  · rw [kp_lo (by decide) (by decide), rd _ _ (by decide) (by decide)]; exact c8
  · rw [kp_lo (by decide) (by decide), rd _ _ (by decide) (by decide)]; exact c9
  · rw [kp_lo (by decide) (by decide), rd _ _ (by decide) (by decide)]; exact c10
  · rw [kp_lo (by decide) (by decide), rd _ _ (by decide) (by decide)]; exact c11
  · rw [kp_lo (by omega) (by omega), kp_lo (by omega) (by omega), kp_lo (by omega) (by omega), rd _ _ (by decide) (by omega), rd _ _ (by decide) (by omega), rd _ _ (by decide) (by omega)]; exact cq z hz
  · rw [kp_lo (by decide) (by decide), rd _ _ (by decide) (by decide)]; exact t1
  · rw [kp_lo (by decide) (by decide), rd _ _ (by decide) (by decide)]; exact t2
  · rw [kp_3, uI_s, hv]
  · rw [kp_lo (by decide) (by decide), rd _ _ (by decide) (by decide)]; exact t4
  · rw [kp_lo (by decide) (by decide), rd _ _ (by decide) (by decide)]; exact t5
  · rw [kp_lo (by decide) (by decide), rd _ _ (by decide) (by decide)]; exact t6
  · rw [kp_lo (by decide) (by decide), rd _ _ (by decide) (by decide)]; exact t7
  · rw [uI_o (by omega), uI_s]; omega
  · rw [uI_o (by omega), uI_s]; omega
  · rw [kp_lo (by omega) (by omega), kp_lo (by omega) (by omega), kp_lo (by omega) (by omega), kp_lo (by omega) (by omega), rd _ _ (by decide) (by omega), rd _ _ (by decide) (by omega), rd _ _ (by decide) (by omega), rd _ _ (by decide) (by omega)]; exact tq z hz
  · rw [kp_lo (by omega) (by omega), rd _ _ (by decide) (by omega)]; exact th i hi
  · rw [kp_lo (by omega) (by omega), kp_lo (by omega) (by omega), rd _ _ (by decide) (by omega), rd _ _ (by decide) (by omega)]; exact tb i hi
  · rw [kp_lo (by omega) (by omega), kp_lo (by omega) (by omega), rd _ _ (by decide) (by omega), rd _ _ (by decide) (by omega)]; exact ts i hi
  · rw [kp_lo (by omega) (by omega), rd _ _ (by decide) (by omega)]; exact td i hi
  · rw [kp_lo (by decide) (by decide)] at hi
    rw [kp_lo (by omega) (by omega), kp_lo (by omega) (by omega), rd _ _ (by decide) (by omega), rd _ _ (by decide) (by omega), rd _ _ (by decide) (by omega), rd _ _ (by decide) (by omega)]
    exact cb i hi
  · rw [kp_3] at hz
    have e1 : uI (uI (stCp I (20 + 4 * x) 6) 1 10 (((x : Int) + 1) % 30)) 1 9 v 1 10 = ((x : Int) + 1) % 30 := by rw [uI_o (by omega), uI_s]
    have e2 : uI (uI (stCp I (20 + 4 * x) 6) 1 10 (((x : Int) + 1) % 30)) 1 9 v 1 9 = (kpS A : Int) + 1 := by rw [uI_s, hv]
    have e3 : stId 1 (uI (uI (stCp I (20 + 4 * x) 6) 1 10 (((x : Int) + 1) % 30)) 1 9 v) z = 20 + 4 * ((((x + 1) % 30 + 30 - (kpS A + 1)) + z) % 30) := by
      unfold stId; rw [e1, e2]; omega
    rw [e3]
    by_cases hzk : z = kpS A
    · subst hzk
      rw [show 20 + 4 * ((((x + 1) % 30 + 30 - (kpS A + 1)) + kpS A) % 30) = 20 + 4 * x by omega]
      refine ⟨⟨?_, ?_, ?_, ?_, ?_, ?_⟩, fun q hq => ⟨?_, ?_, ?_⟩⟩
      · rw [kp_n0 h3, uI_o (by omega), uI_o (by omega), stCp_h (by omega)]; exact c0
      · rw [kp_nd h3 (by omega), uI_o (by omega), uI_o (by omega), stCp_h (by omega)]; exact c7
      · rw [kp_nd h3 (by omega), uI_o (by omega), uI_o (by omega), stCp_h (by omega)]; exact c8
      · rw [kp_nd h3 (by omega), uI_o (by omega), uI_o (by omega), stCp_h (by omega)]; exact c9
      · rw [kp_nd h3 (by omega), uI_o (by omega), uI_o (by omega), stCp_h (by omega)]; exact c10
      · rw [kp_nd h3 (by omega), uI_o (by omega), uI_o (by omega), stCp_h (by omega)]; exact c11
      · rw [show 115 + 90 * kpS A + 6 + 3 * q = 115 + 90 * kpS A + (6 + 3 * q) by omega, kp_nd h3 (by omega), uI_o (by omega), uI_o (by omega), stCp_r (by omega) hq, show 6 + (6 + 3 * q) = 12 + 3 * q by omega]; exact (cq q hq).1
      · rw [show 115 + 90 * kpS A + 7 + 3 * q = 115 + 90 * kpS A + (7 + 3 * q) by omega, kp_nd h3 (by omega), uI_o (by omega), uI_o (by omega), stCp_r (by omega) hq, show 6 + (7 + 3 * q) = 13 + 3 * q by omega]; exact (cq q hq).2.1
      · rw [show 115 + 90 * kpS A + 8 + 3 * q = 115 + 90 * kpS A + (8 + 3 * q) by omega, kp_nd h3 (by omega), uI_o (by omega), uI_o (by omega), stCp_r (by omega) hq, show 6 + (8 + 3 * q) = 14 + 3 * q by omega]; exact (cq q hq).2.2
    · have hzl : z < kpS A := by omega
      by_cases h30 : A 3 = 30
      · have hs := cp (z + 1) (by omega)
        have es : stId 1 I (z + 1) = 20 + 4 * ((((x + 1) % 30 + 30 - (kpS A + 1)) + z) % 30) := by unfold stId; rw [hx, ← t3, h30]; omega
        rw [es] at hs
        refine ClS_of hs (fun d hd => by rw [kp_old h3 hzl (by omega), if_pos h30]) (fun i => ?_) (fun k i k1 k2 hi => ?_)
        · rw [uI_o (by omega), uI_o (by omega), stCp_o (by omega)]
        · rw [uI_o (by omega), uI_o (by omega), stCp_o (by omega)]
      · have hs := cp z (by omega)
        have es : stId 1 I z = 20 + 4 * ((((x + 1) % 30 + 30 - (kpS A + 1)) + z) % 30) := by unfold stId; rw [hx, ← t3]; omega
        rw [es] at hs
        refine ClS_of hs (fun d hd => by rw [kp_old h3 hzl (by omega), if_neg h30]) (fun i => ?_) (fun k i k1 k2 hi => ?_)
        · rw [uI_o (by omega), uI_o (by omega), stCp_o (by omega)]
        · rw [uI_o (by omega), uI_o (by omega), stCp_o (by omega)]
theorem dX10_keepStep_0 : decode prog_12_method_7_code 0 = .ok (.aload_n 0, 1) := by decide +kernel
theorem dX10_keepStep_1 : decode prog_12_method_7_code 1 = .ok (.getfield 31, 3) := by decide +kernel
theorem dX10_keepStep_4 : decode prog_12_method_7_code 4 = .ok (.aload_n 0, 1) := by decide +kernel
theorem dX10_keepStep_5 : decode prog_12_method_7_code 5 = .ok (.getfield 71, 3) := by decide +kernel
theorem dX10_keepStep_8 : decode prog_12_method_7_code 8 = .ok (.aaload, 1) := by decide +kernel
theorem dX10_keepStep_9 : decode prog_12_method_7_code 9 = .ok (.aload_n 0, 1) := by decide +kernel
theorem dX10_keepStep_10 : decode prog_12_method_7_code 10 = .ok (.getfield 27, 3) := by decide +kernel
theorem dX10_keepStep_13 : decode prog_12_method_7_code 13 = .ok (.invokevirtual 61, 3) := by decide +kernel
theorem dX10_keepStep_16 : decode prog_12_method_7_code 16 = .ok (.aload_n 0, 1) := by decide +kernel
theorem dX10_keepStep_17 : decode prog_12_method_7_code 17 = .ok (.aload_n 0, 1) := by decide +kernel
theorem dX10_keepStep_18 : decode prog_12_method_7_code 18 = .ok (.getfield 71, 3) := by decide +kernel
theorem dX10_keepStep_21 : decode prog_12_method_7_code 21 = .ok (.iconst 1, 1) := by decide +kernel
theorem dX10_keepStep_22 : decode prog_12_method_7_code 22 = .ok (.iadd, 1) := by decide +kernel
theorem dX10_keepStep_23 : decode prog_12_method_7_code 23 = .ok (.bipush 30, 2) := by decide +kernel
theorem dX10_keepStep_25 : decode prog_12_method_7_code 25 = .ok (.irem, 1) := by decide +kernel
theorem dX10_keepStep_26 : decode prog_12_method_7_code 26 = .ok (.putfield 71, 3) := by decide +kernel
theorem dX10_keepStep_29 : decode prog_12_method_7_code 29 = .ok (.aload_n 0, 1) := by decide +kernel
theorem dX10_keepStep_30 : decode prog_12_method_7_code 30 = .ok (.bipush 30, 2) := by decide +kernel
theorem dX10_keepStep_32 : decode prog_12_method_7_code 32 = .ok (.aload_n 0, 1) := by decide +kernel
theorem dX10_keepStep_33 : decode prog_12_method_7_code 33 = .ok (.getfield 68, 3) := by decide +kernel
theorem dX10_keepStep_36 : decode prog_12_method_7_code 36 = .ok (.iconst 1, 1) := by decide +kernel
theorem dX10_keepStep_37 : decode prog_12_method_7_code 37 = .ok (.iadd, 1) := by decide +kernel
theorem dX10_keepStep_38 : decode prog_12_method_7_code 38 = .ok (.invokestatic 97, 3) := by decide +kernel
theorem dX10_keepStep_41 : decode prog_12_method_7_code 41 = .ok (.putfield 68, 3) := by decide +kernel
theorem dX10_keepStep_44 : decode prog_12_method_7_code 44 = .ok (.return_, 1) := by decide +kernel
theorem sp_X10_keepStep  (cs : CS S R) (hc : ClW I 1 A) (hb : BA A) (hn : 2 ≤ n) (hp : ∀ I', ClW I' 1 (keepA A) → Fw I I' → Post none S I' R) : Call n 0 0 mX10_keepStep [.ref (S.2.1 1)] S I R Post := by
  obtain ⟨⟨⟨c0, c7, c8, c9, c10, c11⟩, cq⟩, ⟨⟨t1, t2, t3, t4, t5, t6, t7, t8, t9⟩, tq, th, tb, ts, td⟩, cb, cp⟩ := id hc
  dsimp only [Nat.reduceAdd] at c0 c7 c8 c9 c10 c11 cq t1 t2 t3 t4 t5 t6 t7 t8 t9 tq th tb ts td
  obtain ⟨⟨b0, b1, b2, b3, b4, bq, bl⟩, ⟨d1, d2, d3, d4, d5, d6, d7⟩, dq, dh, db, ds, dd, dp⟩ := id hb
  have b7 : 0 ≤ A 7 ∧ A 7 ≤ 9999 := b1
  have b8 : 0 ≤ A 8 ∧ A 8 ≤ 30870 := b2
  have b9 : 0 ≤ A 9 ∧ A 9 ≤ 9999 := b3
  have b10 : 0 ≤ A 10 ∧ A 10 ≤ 1 := b4
  have b11 : 0 ≤ A 11 ∧ A 11 ≤ 16 := by have h1 := lns_b (fun q => A (6 + 6 + 3 * q)) (A 0).toNat; have h2 : A 11 = _ := bl; omega
  have kb := kp_b (A := A) (by omega)
  refine Call.of (by decide +kernel) (Nat.le_of_ble_eq_true rfl) ?_
  show WP _ _ _ _ _ 0 [(0, _)] [] 0 0 _ _ _
  refine x_aload_n dX10_keepStep_0 rfl ?_
  refine x_getR (b := 10) dX10_keepStep_1 gf_RX10_31 (k_ob_1 cs) (fun _ _ => rfl) (k_r_1_5 cs) ?_
  refine x_aload_n dX10_keepStep_4 rfl ?_
  refine x_getI dX10_keepStep_5 gf_RX10_71 (k_ob_1 cs) (fun _ _ => rfl) ?_
  refine x_aaload_s dX10_keepStep_8 (k_ar_10 cs) (by omega) (v := .ref (S.2.1 (20 + 4 * (I 1 10).toNat))) (by rw [(k_sp cs (i := (I 1 10).toNat) (by omega)).1]; rfl) (by omega) ?_
  refine x_aload_n dX10_keepStep_9 rfl ?_
  refine x_getR (b := 6) dX10_keepStep_10 gf_RX10_27 (k_ob_1 cs) (fun _ _ => rfl) (k_r_1_4 cs) ?_
  refine x_callV1 (mc1 := 0) (ms1 := 0) dX10_keepStep_13 cv_RX10_61 (ci := 6) (k_sp cs (i := (I 1 10).toNat) (by omega)).2.1 rfl (Nat.le_of_ble_eq_true rfl) (n1 := n - 1) (by omega) (by omega) (by omega) ?_
  refine sp_X6_take (k_sp cs (i := (I 1 10).toNat) (by omega)).2 (k_st_6 cs) (by omega) (by omega) ?_
  refine x_aload_n dX10_keepStep_16 rfl ?_
  refine x_aload_n dX10_keepStep_17 rfl ?_
  refine x_getIv (z := I 1 10) dX10_keepStep_18 gf_RX10_71 (k_ob_1 cs) (fun _ _ => rfl) (by (repeat first | rw [uI_s] | rw [uI_o (by omega)] | rw [stCp_o (by omega)]); try rfl) ?_
  refine x_iconst dX10_keepStep_21 ?_
  refine x_iadd dX10_keepStep_22 ?_
  refine x_bipush dX10_keepStep_23 (by decide) ?_
  refine x_irem dX10_keepStep_25 (by omega) ?_
  refine x_putI dX10_keepStep_26 gf_RX10_71 (k_ob_1 cs) rfl ?_
  refine x_aload_n dX10_keepStep_29 rfl ?_
  refine x_bipush dX10_keepStep_30 (by decide) ?_
  refine x_aload_n dX10_keepStep_32 rfl ?_
  refine x_getIv (z := I 1 9) dX10_keepStep_33 gf_RX10_68 (k_ob_1 cs) (fun _ _ => rfl) (by (repeat first | rw [uI_s] | rw [uI_o (by omega)] | rw [stCp_o (by omega)]); try rfl) ?_
  refine x_iconst dX10_keepStep_36 ?_
  refine x_iadd dX10_keepStep_37 ?_
  refine x_mmin dX10_keepStep_38 cv_RX10_97 (by omega) (Nat.le_of_ble_eq_true rfl) (by omega) (by omega) (by omega) (fun r38 hr38 => ?_)
  refine x_putI dX10_keepStep_41 gf_RX10_68 (k_ob_1 cs) rfl ?_
  exact x_return dX10_keepStep_44 rfl (by omega) (by omega) (hp _ (cu_keep hc (by omega) (by omega) (by omega)) (fun c h => by rw [uI_row (by omega), uI_row (by omega), stCp_row (by omega)]))
end Cls4
