section Cls10
variable {n : Nat} {Post : PT} {S : Sh} {I : CI} {R : CR} {A : Nat → Int} {tx : Nat → Nat → Int}
def mkA (A : Nat → Int) := mkF A (A 5).toNat
def lstP (A : Nat → Int) : Int := if tradesA A = 0 then -1 else if (tradesA A : Int) < (mkA A).2.1 ∧ (mkA A).1.2 (tradesA A - 1) < (mkA A).1.1 (tradesA A) then (mkA A).1.1 (tradesA A) else (mkA A).1.2 (tradesA A - 1)
def grtP (A : Nat → Int) : Int := if tradesA A = 0 then -1 else if (tradesA A : Int) < (mkA A).2.2 ∧ (mkA A).1.2 (tradesA A) < (mkA A).1.1 (tradesA A - 1) then (mkA A).1.2 (tradesA A) else (mkA A).1.1 (tradesA A - 1)
def gnL (br sr : Nat → Int) : Nat → Int
  | 0 => 0
  | k + 1 => gnL br sr k + (br k - sr k)
def f_gain (A : Nat → Int) : Int := gnL (mkA A).1.1 (mkA A).1.2 (tradesA A)
def f_market (A : Nat → Int) (w : Int) : Int := if w = 0 then tradesA A else if w = 1 then lstP A else if w = 2 then grtP A else -1
theorem trades_b (hb : 0 ≤ A 5 ∧ A 5 ≤ 10) : (tradesA A : Int) ≤ (mkA A).2.1 ∧ (tradesA A : Int) ≤ (mkA A).2.2 ∧ (mkA A).2.1 ≤ 10 ∧ (mkA A).2.2 ≤ 10 := by
  have h1 := mkF_n A (A 5).toNat
  have h2 := trd_le (br := (mkF A (A 5).toNat).1.1) (sr := (mkF A (A 5).toNat).1.2) (bc := (mkF A (A 5).toNat).2.1) (sc := (mkF A (A 5).toNat).2.2) 11 0 (by omega) (by omega)
  exact ⟨h2.1, h2.2, by unfold mkA; omega, by unfold mkA; omega⟩
theorem dX1_leastPrice_0 : decode prog_3_method_4_code 0 = .ok (.iload_n 1, 1) := by decide +kernel
theorem dX1_leastPrice_1 : decode prog_3_method_4_code 1 = .ok (.ifCond .gt 5, 3) := by decide +kernel
theorem dX1_leastPrice_4 : decode prog_3_method_4_code 4 = .ok (.iconst (-1), 1) := by decide +kernel
theorem dX1_leastPrice_5 : decode prog_3_method_4_code 5 = .ok (.ireturn, 1) := by decide +kernel
theorem dX1_leastPrice_6 : decode prog_3_method_4_code 6 = .ok (.aload_n 0, 1) := by decide +kernel
theorem dX1_leastPrice_7 : decode prog_3_method_4_code 7 = .ok (.getfield 15, 3) := by decide +kernel
theorem dX1_leastPrice_10 : decode prog_3_method_4_code 10 = .ok (.iload_n 1, 1) := by decide +kernel
theorem dX1_leastPrice_11 : decode prog_3_method_4_code 11 = .ok (.iconst 1, 1) := by decide +kernel
theorem dX1_leastPrice_12 : decode prog_3_method_4_code 12 = .ok (.isub, 1) := by decide +kernel
theorem dX1_leastPrice_13 : decode prog_3_method_4_code 13 = .ok (.iaload, 1) := by decide +kernel
theorem dX1_leastPrice_14 : decode prog_3_method_4_code 14 = .ok (.istore_n 2, 1) := by decide +kernel
theorem dX1_leastPrice_15 : decode prog_3_method_4_code 15 = .ok (.iload_n 1, 1) := by decide +kernel
theorem dX1_leastPrice_16 : decode prog_3_method_4_code 16 = .ok (.aload_n 0, 1) := by decide +kernel
theorem dX1_leastPrice_17 : decode prog_3_method_4_code 17 = .ok (.getfield 22, 3) := by decide +kernel
theorem dX1_leastPrice_20 : decode prog_3_method_4_code 20 = .ok (.if_icmp .ge 16, 3) := by decide +kernel
theorem dX1_leastPrice_23 : decode prog_3_method_4_code 23 = .ok (.iload_n 2, 1) := by decide +kernel
theorem dX1_leastPrice_24 : decode prog_3_method_4_code 24 = .ok (.aload_n 0, 1) := by decide +kernel
theorem dX1_leastPrice_25 : decode prog_3_method_4_code 25 = .ok (.getfield 9, 3) := by decide +kernel
theorem dX1_leastPrice_28 : decode prog_3_method_4_code 28 = .ok (.iload_n 1, 1) := by decide +kernel
theorem dX1_leastPrice_29 : decode prog_3_method_4_code 29 = .ok (.iaload, 1) := by decide +kernel
theorem dX1_leastPrice_30 : decode prog_3_method_4_code 30 = .ok (.invokestatic 44, 3) := by decide +kernel
theorem dX1_leastPrice_33 : decode prog_3_method_4_code 33 = .ok (.goto 4, 3) := by decide +kernel
theorem dX1_leastPrice_36 : decode prog_3_method_4_code 36 = .ok (.iload_n 2, 1) := by decide +kernel
theorem dX1_leastPrice_37 : decode prog_3_method_4_code 37 = .ok (.ireturn, 1) := by decide +kernel
theorem sp_X1_leastPrice  (cs : CS S R) (hM : MKr I (mkA A)) (hb5 : 0 ≤ A 5 ∧ A 5 ≤ 10) (hn : 2 ≤ n) (hp : Post (some (.int (iI (lstP A)))) S I R) : Call n 0 0 mX1_leastPrice [.ref (S.2.1 303), .int (iI (tradesA A : Int))] S I R Post := by
  unfold lstP at hp
  have tb := trades_b hb5
  obtain ⟨⟨m1, m2⟩, m3, m4, m5, m6⟩ := hM
  generalize hT : tradesA A = t at *
  refine Call.of (by decide +kernel) (Nat.le_of_ble_eq_true rfl) ?_
  show WP _ _ _ _ _ 0 [(0, _), (1, _)] [] 0 0 _ _ _
  refine x_iload_n dX1_leastPrice_0 rfl ?_
  refine x_if_gt 6 dX1_leastPrice_1 (by decide) (by omega) (fun w1 => ?_) (fun w1 => ?_)
  · refine x_aload_n dX1_leastPrice_6 rfl ?_
    refine x_getR (b := 305) dX1_leastPrice_7 gf_RX1_15 (k_ob_303 cs) (fun _ _ => rfl) (k_r_303_2 cs) ?_
    refine x_iload_n dX1_leastPrice_10 rfl ?_
    refine x_iconst dX1_leastPrice_11 ?_
    refine x_isub dX1_leastPrice_12 ?_
    rw [show ((t : Nat) : Int) - 1 = ((t - 1 : Nat) : Int) by omega]
    refine x_iaload dX1_leastPrice_13 (k_ar_305 cs) (by omega) (by omega) ?_
    have g1 := m4 (t - 1) (by omega)
    have g3 := m6 (t - 1) (by omega)
    rw [show ((t - 1 : Nat) : Int).toNat = t - 1 by omega]
    refine x_istore_n (lv2 := [(2, _), (0, _), (1, _)]) dX1_leastPrice_14 (by decide) rfl ?_
    refine x_iload_n dX1_leastPrice_15 rfl ?_
    refine x_aload_n dX1_leastPrice_16 rfl ?_
    refine x_getI dX1_leastPrice_17 gf_RX1_22 (k_ob_303 cs) (fun _ _ => rfl) ?_
    refine x_icmp_ge 36 dX1_leastPrice_20 (by decide) ⟨(by omega), (by omega)⟩ (fun w20 => ?_) (fun w20 => ?_)
    · refine x_iload_n dX1_leastPrice_36 rfl ?_
      exact x_ireturn dX1_leastPrice_37 rfl (by omega) (by omega) (by first | (rw [if_pos (by omega)] at hp; exact hp) | (rcases hr30 with hq | hq <;> first | (rw [if_neg (by omega), if_pos (by omega)] at hp; rw [show r30 = (mkA A).1.1 t by omega]; exact hp) | (rw [if_neg (by omega), if_neg (by omega)] at hp; rw [show r30 = (mkA A).1.2 (t - 1) by omega]; exact hp)) | (rw [if_neg (by omega), if_neg (by omega), ← g1] at hp; exact hp))
    · refine x_iload_n dX1_leastPrice_23 rfl ?_
      refine x_aload_n dX1_leastPrice_24 rfl ?_
      refine x_getR (b := 304) dX1_leastPrice_25 gf_RX1_9 (k_ob_303 cs) (fun _ _ => rfl) (k_r_303_1 cs) ?_
      refine x_iload_n dX1_leastPrice_28 rfl ?_
      refine x_iaload dX1_leastPrice_29 (k_ar_304 cs) (by omega) (by omega) ?_
      have g2 := m3 t (by omega)
      have g4 := m5 t (by omega)
      rw [show ((t : Nat) : Int).toNat = t by omega]
      refine x_mmax dX1_leastPrice_30 cv_RX1_44 (by omega) (Nat.le_of_ble_eq_true rfl) (by omega) (by omega) (by omega) (fun r30 hr30 => ?_)
      refine x_goto 37 dX1_leastPrice_33 (by decide) ?_
      exact x_ireturn dX1_leastPrice_37 rfl (by omega) (by omega) (by first | (rw [if_pos (by omega)] at hp; exact hp) | (rcases hr30 with hq | hq <;> first | (rw [if_neg (by omega), if_pos (by omega)] at hp; rw [show r30 = (mkA A).1.1 t by omega]; exact hp) | (rw [if_neg (by omega), if_neg (by omega)] at hp; rw [show r30 = (mkA A).1.2 (t - 1) by omega]; exact hp)) | (rw [if_neg (by omega), if_neg (by omega), ← g1] at hp; exact hp))
  · refine x_iconst dX1_leastPrice_4 ?_
    exact x_ireturn dX1_leastPrice_5 rfl (by omega) (by omega) (by first | (rw [if_pos (by omega)] at hp; exact hp) | (rcases hr30 with hq | hq <;> first | (rw [if_neg (by omega), if_pos (by omega)] at hp; rw [show r30 = (mkA A).1.1 t by omega]; exact hp) | (rw [if_neg (by omega), if_neg (by omega)] at hp; rw [show r30 = (mkA A).1.2 (t - 1) by omega]; exact hp)) | (rw [if_neg (by omega), if_neg (by omega), ← g1] at hp; exact hp))
theorem dX1_greatestPrice_0 : decode prog_3_method_5_code 0 = .ok (.iload_n 1, 1) := by decide +kernel
theorem dX1_greatestPrice_1 : decode prog_3_method_5_code 1 = .ok (.ifCond .gt 5, 3) := by decide +kernel
theorem dX1_greatestPrice_4 : decode prog_3_method_5_code 4 = .ok (.iconst (-1), 1) := by decide +kernel
theorem dX1_greatestPrice_5 : decode prog_3_method_5_code 5 = .ok (.ireturn, 1) := by decide +kernel
theorem dX1_greatestPrice_6 : decode prog_3_method_5_code 6 = .ok (.aload_n 0, 1) := by decide +kernel
theorem dX1_greatestPrice_7 : decode prog_3_method_5_code 7 = .ok (.getfield 9, 3) := by decide +kernel
theorem dX1_greatestPrice_10 : decode prog_3_method_5_code 10 = .ok (.iload_n 1, 1) := by decide +kernel
theorem dX1_greatestPrice_11 : decode prog_3_method_5_code 11 = .ok (.iconst 1, 1) := by decide +kernel
theorem dX1_greatestPrice_12 : decode prog_3_method_5_code 12 = .ok (.isub, 1) := by decide +kernel
theorem dX1_greatestPrice_13 : decode prog_3_method_5_code 13 = .ok (.iaload, 1) := by decide +kernel
theorem dX1_greatestPrice_14 : decode prog_3_method_5_code 14 = .ok (.istore_n 2, 1) := by decide +kernel
theorem dX1_greatestPrice_15 : decode prog_3_method_5_code 15 = .ok (.iload_n 1, 1) := by decide +kernel
theorem dX1_greatestPrice_16 : decode prog_3_method_5_code 16 = .ok (.aload_n 0, 1) := by decide +kernel
theorem dX1_greatestPrice_17 : decode prog_3_method_5_code 17 = .ok (.getfield 26, 3) := by decide +kernel
theorem dX1_greatestPrice_20 : decode prog_3_method_5_code 20 = .ok (.if_icmp .ge 16, 3) := by decide +kernel
theorem dX1_greatestPrice_23 : decode prog_3_method_5_code 23 = .ok (.iload_n 2, 1) := by decide +kernel
theorem dX1_greatestPrice_24 : decode prog_3_method_5_code 24 = .ok (.aload_n 0, 1) := by decide +kernel
theorem dX1_greatestPrice_25 : decode prog_3_method_5_code 25 = .ok (.getfield 15, 3) := by decide +kernel
theorem dX1_greatestPrice_28 : decode prog_3_method_5_code 28 = .ok (.iload_n 1, 1) := by decide +kernel
theorem dX1_greatestPrice_29 : decode prog_3_method_5_code 29 = .ok (.iaload, 1) := by decide +kernel
theorem dX1_greatestPrice_30 : decode prog_3_method_5_code 30 = .ok (.invokestatic 50, 3) := by decide +kernel
theorem dX1_greatestPrice_33 : decode prog_3_method_5_code 33 = .ok (.goto 4, 3) := by decide +kernel
theorem dX1_greatestPrice_36 : decode prog_3_method_5_code 36 = .ok (.iload_n 2, 1) := by decide +kernel
theorem dX1_greatestPrice_37 : decode prog_3_method_5_code 37 = .ok (.ireturn, 1) := by decide +kernel
theorem sp_X1_greatestPrice  (cs : CS S R) (hM : MKr I (mkA A)) (hb5 : 0 ≤ A 5 ∧ A 5 ≤ 10) (hn : 2 ≤ n) (hp : Post (some (.int (iI (grtP A)))) S I R) : Call n 0 0 mX1_greatestPrice [.ref (S.2.1 303), .int (iI (tradesA A : Int))] S I R Post := by
  unfold grtP at hp
  have tb := trades_b hb5
  obtain ⟨⟨m1, m2⟩, m3, m4, m5, m6⟩ := hM
  generalize hT : tradesA A = t at *
  refine Call.of (by decide +kernel) (Nat.le_of_ble_eq_true rfl) ?_
  show WP _ _ _ _ _ 0 [(0, _), (1, _)] [] 0 0 _ _ _
  refine x_iload_n dX1_greatestPrice_0 rfl ?_
  refine x_if_gt 6 dX1_greatestPrice_1 (by decide) (by omega) (fun w1 => ?_) (fun w1 => ?_)
  · refine x_aload_n dX1_greatestPrice_6 rfl ?_
    refine x_getR (b := 304) dX1_greatestPrice_7 gf_RX1_9 (k_ob_303 cs) (fun _ _ => rfl) (k_r_303_1 cs) ?_
    refine x_iload_n dX1_greatestPrice_10 rfl ?_
    refine x_iconst dX1_greatestPrice_11 ?_
    refine x_isub dX1_greatestPrice_12 ?_
    rw [show ((t : Nat) : Int) - 1 = ((t - 1 : Nat) : Int) by omega]
    refine x_iaload dX1_greatestPrice_13 (k_ar_304 cs) (by omega) (by omega) ?_
    have g1 := m3 (t - 1) (by omega)
    have g3 := m5 (t - 1) (by omega)
    rw [show ((t - 1 : Nat) : Int).toNat = t - 1 by omega]
    refine x_istore_n (lv2 := [(2, _), (0, _), (1, _)]) dX1_greatestPrice_14 (by decide) rfl ?_
    refine x_iload_n dX1_greatestPrice_15 rfl ?_
    refine x_aload_n dX1_greatestPrice_16 rfl ?_
    refine x_getI dX1_greatestPrice_17 gf_RX1_26 (k_ob_303 cs) (fun _ _ => rfl) ?_
    refine x_icmp_ge 36 dX1_greatestPrice_20 (by decide) ⟨(by omega), (by omega)⟩ (fun w20 => ?_) (fun w20 => ?_)
    · refine x_iload_n dX1_greatestPrice_36 rfl ?_
      exact x_ireturn dX1_greatestPrice_37 rfl (by omega) (by omega) (by first | (rw [if_pos (by omega)] at hp; exact hp) | (rcases hr30 with hq | hq <;> first | (rw [if_neg (by omega), if_pos (by omega)] at hp; rw [show r30 = (mkA A).1.2 t by omega]; exact hp) | (rw [if_neg (by omega), if_neg (by omega)] at hp; rw [show r30 = (mkA A).1.1 (t - 1) by omega]; exact hp)) | (rw [if_neg (by omega), if_neg (by omega), ← g1] at hp; exact hp))
    · refine x_iload_n dX1_greatestPrice_23 rfl ?_
      refine x_aload_n dX1_greatestPrice_24 rfl ?_
      refine x_getR (b := 305) dX1_greatestPrice_25 gf_RX1_15 (k_ob_303 cs) (fun _ _ => rfl) (k_r_303_2 cs) ?_
      refine x_iload_n dX1_greatestPrice_28 rfl ?_
      refine x_iaload dX1_greatestPrice_29 (k_ar_305 cs) (by omega) (by omega) ?_
      have g2 := m4 t (by omega)
      have g4 := m6 t (by omega)
      rw [show ((t : Nat) : Int).toNat = t by omega]
      refine x_mmin dX1_greatestPrice_30 cv_RX1_50 (by omega) (Nat.le_of_ble_eq_true rfl) (by omega) (by omega) (by omega) (fun r30 hr30 => ?_)
      refine x_goto 37 dX1_greatestPrice_33 (by decide) ?_
      exact x_ireturn dX1_greatestPrice_37 rfl (by omega) (by omega) (by first | (rw [if_pos (by omega)] at hp; exact hp) | (rcases hr30 with hq | hq <;> first | (rw [if_neg (by omega), if_pos (by omega)] at hp; rw [show r30 = (mkA A).1.2 t by omega]; exact hp) | (rw [if_neg (by omega), if_neg (by omega)] at hp; rw [show r30 = (mkA A).1.1 (t - 1) by omega]; exact hp)) | (rw [if_neg (by omega), if_neg (by omega), ← g1] at hp; exact hp))
  · refine x_iconst dX1_greatestPrice_4 ?_
    exact x_ireturn dX1_greatestPrice_5 rfl (by omega) (by omega) (by first | (rw [if_pos (by omega)] at hp; exact hp) | (rcases hr30 with hq | hq <;> first | (rw [if_neg (by omega), if_pos (by omega)] at hp; rw [show r30 = (mkA A).1.2 t by omega]; exact hp) | (rw [if_neg (by omega), if_neg (by omega)] at hp; rw [show r30 = (mkA A).1.1 (t - 1) by omega]; exact hp)) | (rw [if_neg (by omega), if_neg (by omega), ← g1] at hp; exact hp))
theorem dX1_gainOf_0 : decode prog_3_method_6_code 0 = .ok (.iconst 0, 1) := by decide +kernel
theorem dX1_gainOf_1 : decode prog_3_method_6_code 1 = .ok (.istore_n 2, 1) := by decide +kernel
theorem dX1_gainOf_2 : decode prog_3_method_6_code 2 = .ok (.iconst 0, 1) := by decide +kernel
theorem dX1_gainOf_3 : decode prog_3_method_6_code 3 = .ok (.istore_n 3, 1) := by decide +kernel
theorem dX1_gainOf_4 : decode prog_3_method_6_code 4 = .ok (.iload_n 3, 1) := by decide +kernel
theorem dX1_gainOf_5 : decode prog_3_method_6_code 5 = .ok (.iload_n 1, 1) := by decide +kernel
theorem dX1_gainOf_6 : decode prog_3_method_6_code 6 = .ok (.if_icmp .ge 25, 3) := by decide +kernel
theorem dX1_gainOf_9 : decode prog_3_method_6_code 9 = .ok (.iload_n 2, 1) := by decide +kernel
theorem dX1_gainOf_10 : decode prog_3_method_6_code 10 = .ok (.aload_n 0, 1) := by decide +kernel
theorem dX1_gainOf_11 : decode prog_3_method_6_code 11 = .ok (.getfield 9, 3) := by decide +kernel
theorem dX1_gainOf_14 : decode prog_3_method_6_code 14 = .ok (.iload_n 3, 1) := by decide +kernel
theorem dX1_gainOf_15 : decode prog_3_method_6_code 15 = .ok (.iaload, 1) := by decide +kernel
theorem dX1_gainOf_16 : decode prog_3_method_6_code 16 = .ok (.aload_n 0, 1) := by decide +kernel
theorem dX1_gainOf_17 : decode prog_3_method_6_code 17 = .ok (.getfield 15, 3) := by decide +kernel
theorem dX1_gainOf_20 : decode prog_3_method_6_code 20 = .ok (.iload_n 3, 1) := by decide +kernel
theorem dX1_gainOf_21 : decode prog_3_method_6_code 21 = .ok (.iaload, 1) := by decide +kernel
theorem dX1_gainOf_22 : decode prog_3_method_6_code 22 = .ok (.isub, 1) := by decide +kernel
theorem dX1_gainOf_23 : decode prog_3_method_6_code 23 = .ok (.iadd, 1) := by decide +kernel
theorem dX1_gainOf_24 : decode prog_3_method_6_code 24 = .ok (.istore_n 2, 1) := by decide +kernel
theorem dX1_gainOf_25 : decode prog_3_method_6_code 25 = .ok (.iinc 3 1, 3) := by decide +kernel
theorem dX1_gainOf_28 : decode prog_3_method_6_code 28 = .ok (.goto (-24), 3) := by decide +kernel
theorem dX1_gainOf_31 : decode prog_3_method_6_code 31 = .ok (.iload_n 2, 1) := by decide +kernel
theorem dX1_gainOf_32 : decode prog_3_method_6_code 32 = .ok (.ireturn, 1) := by decide +kernel
theorem lp_X1_gainOf (cs : CS S R) (hM : MKr I (mkA A)) (hb5 : 0 ≤ A 5 ∧ A 5 ≤ 10) (hn : 2 ≤ n) (hp : Post (some (.int (iI (f_gain A)))) S I R) : ∀ (d k : Nat), k ≤ tradesA A → tradesA A - k = d → WP n 0 0 mX1_gainOf Post 4 [(0, .ref (S.2.1 303)), (1, .int (iI (tradesA A : Int))), (2, .int (iI (gnL (mkA A).1.1 (mkA A).1.2 k))), (3, .int (iI (k : Int)))] [] 0 0 S I R := by
  unfold f_gain at hp
  have tb := trades_b hb5
  obtain ⟨⟨m1, m2⟩, m3, m4, m5, m6⟩ := hM
  generalize hT : tradesA A = t at *
  intro d
  induction d using Nat.strongRecOn with
  | ind d ih =>
    intro k k1 k2
    refine x_iload_n dX1_gainOf_4 rfl ?_
    refine x_iload_n dX1_gainOf_5 rfl ?_
    refine x_icmp_ge 31 dX1_gainOf_6 (by decide) ⟨(by omega), (by omega)⟩ (fun w6 => ?_) (fun w6 => ?_)
    · refine x_iload_n dX1_gainOf_31 rfl ?_
      exact x_ireturn dX1_gainOf_32 rfl (by omega) (by omega) (by obtain rfl : k = t := (by omega); exact hp)
    · refine x_iload_n dX1_gainOf_9 rfl ?_
      refine x_aload_n dX1_gainOf_10 rfl ?_
      refine x_getR (b := 304) dX1_gainOf_11 gf_RX1_9 (k_ob_303 cs) (fun _ _ => rfl) (k_r_303_1 cs) ?_
      refine x_iload_n dX1_gainOf_14 rfl ?_
      refine x_iaload dX1_gainOf_15 (k_ar_304 cs) (by omega) (by omega) ?_
      have g1 := m3 k (by omega)
      rw [show ((k : Nat) : Int).toNat = k by omega, g1]
      refine x_aload_n dX1_gainOf_16 rfl ?_
      refine x_getR (b := 305) dX1_gainOf_17 gf_RX1_15 (k_ob_303 cs) (fun _ _ => rfl) (k_r_303_2 cs) ?_
      refine x_iload_n dX1_gainOf_20 rfl ?_
      refine x_iaload dX1_gainOf_21 (k_ar_305 cs) (by omega) (by omega) ?_
      have g2 := m4 k (by omega)
      rw [show ((k : Nat) : Int).toNat = k by omega, g2]
      refine x_isub dX1_gainOf_22 ?_
      refine x_iadd dX1_gainOf_23 ?_
      refine x_istore_n (lv2 := [(2, _), (0, _), (1, _), (3, _)]) dX1_gainOf_24 (by decide) rfl ?_
      refine x_iinc (lv2 := [(3, _), (2, _), (0, _), (1, _)]) dX1_gainOf_25 rfl (by decide) rfl ?_
      refine x_goto 4 dX1_gainOf_28 (by decide) ?_
      refine x_sub [2, 3, 1, 0] rfl ?_
      exact ih _ (by omega) (k + 1) (by omega) rfl
theorem sp_X1_gainOf  (cs : CS S R) (hM : MKr I (mkA A)) (hb5 : 0 ≤ A 5 ∧ A 5 ≤ 10) (hn : 2 ≤ n) (hp : Post (some (.int (iI (f_gain A)))) S I R) : Call n 0 0 mX1_gainOf [.ref (S.2.1 303), .int (iI (tradesA A : Int))] S I R Post := by
  refine Call.of (by decide +kernel) (Nat.le_of_ble_eq_true rfl) ?_
  show WP _ _ _ _ _ 0 [(0, _), (1, _)] [] 0 0 _ _ _
  refine x_iconst dX1_gainOf_0 ?_
  refine x_istore_n (lv2 := [(2, _), (0, _), (1, _)]) dX1_gainOf_1 (by decide) rfl ?_
  refine x_iconst dX1_gainOf_2 ?_
  refine x_istore_n (lv2 := [(3, _), (2, _), (0, _), (1, _)]) dX1_gainOf_3 (by decide) rfl ?_
  refine x_sub [2, 3, 1, 0] rfl ?_
  exact lp_X1_gainOf cs hM hb5 hn hp _ 0 (by omega) rfl
theorem dX11_market_0 : decode prog_1_method_38_code 0 = .ok (.aload_n 0, 1) := by decide +kernel
theorem dX11_market_1 : decode prog_1_method_38_code 1 = .ok (.getfield 74, 3) := by decide +kernel
theorem dX11_market_4 : decode prog_1_method_38_code 4 = .ok (.invokevirtual 321, 3) := by decide +kernel
theorem dX11_market_7 : decode prog_1_method_38_code 7 = .ok (.istore_n 2, 1) := by decide +kernel
theorem dX11_market_8 : decode prog_1_method_38_code 8 = .ok (.iload_n 1, 1) := by decide +kernel
theorem dX11_market_9 : decode prog_1_method_38_code 9 = .ok (.tableswitch 47 0 2 #[27, 29, 38], 27) := by decide +kernel
theorem dX11_market_36 : decode prog_1_method_38_code 36 = .ok (.iload_n 2, 1) := by decide +kernel
theorem dX11_market_37 : decode prog_1_method_38_code 37 = .ok (.ireturn, 1) := by decide +kernel
theorem dX11_market_38 : decode prog_1_method_38_code 38 = .ok (.aload_n 0, 1) := by decide +kernel
theorem dX11_market_39 : decode prog_1_method_38_code 39 = .ok (.getfield 74, 3) := by decide +kernel
theorem dX11_market_42 : decode prog_1_method_38_code 42 = .ok (.iload_n 2, 1) := by decide +kernel
theorem dX11_market_43 : decode prog_1_method_38_code 43 = .ok (.invokevirtual 324, 3) := by decide +kernel
theorem dX11_market_46 : decode prog_1_method_38_code 46 = .ok (.ireturn, 1) := by decide +kernel
theorem dX11_market_47 : decode prog_1_method_38_code 47 = .ok (.aload_n 0, 1) := by decide +kernel
theorem dX11_market_48 : decode prog_1_method_38_code 48 = .ok (.getfield 74, 3) := by decide +kernel
theorem dX11_market_51 : decode prog_1_method_38_code 51 = .ok (.iload_n 2, 1) := by decide +kernel
theorem dX11_market_52 : decode prog_1_method_38_code 52 = .ok (.invokevirtual 327, 3) := by decide +kernel
theorem dX11_market_55 : decode prog_1_method_38_code 55 = .ok (.ireturn, 1) := by decide +kernel
theorem dX11_market_56 : decode prog_1_method_38_code 56 = .ok (.iconst (-1), 1) := by decide +kernel
theorem dX11_market_57 : decode prog_1_method_38_code 57 = .ok (.ireturn, 1) := by decide +kernel
theorem sp_X11_market {w : Int} (cs : CS S R) (hw : Rg w) (hc : ClW I 1 A) (hb : BA A) (hd : DK I) (hn : 3 ≤ n) (hp : ∀ I', Fdl I I' → DK I' → Post (some (.int (iI (f_market A w)))) S I' R) : Call n 0 0 mX11_market [.ref (S.2.1 0), .int (iI w)] S I R Post := by
  have b5 := hb.2.1.2.2.2.2.1
  have tb := trades_b b5
  unfold f_market at hp
  refine Call.of (by decide +kernel) (Nat.le_of_ble_eq_true rfl) ?_
  show WP _ _ _ _ _ 0 [(0, _), (1, _)] [] 0 0 _ _ _
  refine x_aload_n dX11_market_0 rfl ?_
  refine x_getR (b := 303) dX11_market_1 gf_RX11_74 (k_ob_0 cs) (fun _ _ => rfl) (k_r_0_8 cs) ?_
  refine x_callV0 (mc1 := 0) (ms1 := 0) dX11_market_4 cv_RX11_321 (ci := 1) (k_ob_303 cs) rfl (Nat.le_of_ble_eq_true rfl) (n1 := n - 1) (by omega) (by omega) (by omega) ?_
  refine sp_X1_findTrades cs hc hb hd (by omega) (fun I4 hM4 hF4 => ?_)
  refine x_istore_n (lv2 := [(2, _), (0, _), (1, _)]) dX11_market_7 (by decide) rfl ?_
  refine x_iload_n dX11_market_8 rfl ?_
  by_cases t9_0 : w = 0
  · refine x_tableIn 36 dX11_market_9 (by omega) (by omega) (by rw [t9_0]; rfl) (by decide) ?_
    refine x_iload_n dX11_market_36 rfl ?_
    exact x_ireturn dX11_market_37 rfl (by omega) (by omega) (by first | (rw [if_pos (by omega)] at hp; exact hp _ hF4 ⟨hM4.2.2.2.1, hM4.2.2.2.2⟩) | (rw [if_neg (by omega), if_pos (by omega)] at hp; exact hp _ hF4 ⟨hM4.2.2.2.1, hM4.2.2.2.2⟩) | (rw [if_neg (by omega), if_neg (by omega), if_pos (by omega)] at hp; exact hp _ hF4 ⟨hM4.2.2.2.1, hM4.2.2.2.2⟩) | (rw [if_neg (by omega), if_neg (by omega), if_neg (by omega)] at hp; exact hp _ hF4 ⟨hM4.2.2.2.1, hM4.2.2.2.2⟩))
  by_cases t9_1 : w = 1
  · refine x_tableIn 38 dX11_market_9 (by omega) (by omega) (by rw [t9_1]; rfl) (by decide) ?_
    refine x_aload_n dX11_market_38 rfl ?_
    refine x_getR (b := 303) dX11_market_39 gf_RX11_74 (k_ob_0 cs) (fun _ _ => rfl) (k_r_0_8 cs) ?_
    refine x_iload_n dX11_market_42 rfl ?_
    refine x_callV1 (mc1 := 0) (ms1 := 0) dX11_market_43 cv_RX11_324 (ci := 1) (k_ob_303 cs) rfl (Nat.le_of_ble_eq_true rfl) (n1 := n - 1) (by omega) (by omega) (by omega) ?_
    refine sp_X1_leastPrice cs hM4 b5 (by omega) ?_
    exact x_ireturn dX11_market_46 rfl (by omega) (by omega) (by first | (rw [if_pos (by omega)] at hp; exact hp _ hF4 ⟨hM4.2.2.2.1, hM4.2.2.2.2⟩) | (rw [if_neg (by omega), if_pos (by omega)] at hp; exact hp _ hF4 ⟨hM4.2.2.2.1, hM4.2.2.2.2⟩) | (rw [if_neg (by omega), if_neg (by omega), if_pos (by omega)] at hp; exact hp _ hF4 ⟨hM4.2.2.2.1, hM4.2.2.2.2⟩) | (rw [if_neg (by omega), if_neg (by omega), if_neg (by omega)] at hp; exact hp _ hF4 ⟨hM4.2.2.2.1, hM4.2.2.2.2⟩))
  by_cases t9_2 : w = 2
  · refine x_tableIn 47 dX11_market_9 (by omega) (by omega) (by rw [t9_2]; rfl) (by decide) ?_
    refine x_aload_n dX11_market_47 rfl ?_
    refine x_getR (b := 303) dX11_market_48 gf_RX11_74 (k_ob_0 cs) (fun _ _ => rfl) (k_r_0_8 cs) ?_
    refine x_iload_n dX11_market_51 rfl ?_
    refine x_callV1 (mc1 := 0) (ms1 := 0) dX11_market_52 cv_RX11_327 (ci := 1) (k_ob_303 cs) rfl (Nat.le_of_ble_eq_true rfl) (n1 := n - 1) (by omega) (by omega) (by omega) ?_
    refine sp_X1_greatestPrice cs hM4 b5 (by omega) ?_
    exact x_ireturn dX11_market_55 rfl (by omega) (by omega) (by first | (rw [if_pos (by omega)] at hp; exact hp _ hF4 ⟨hM4.2.2.2.1, hM4.2.2.2.2⟩) | (rw [if_neg (by omega), if_pos (by omega)] at hp; exact hp _ hF4 ⟨hM4.2.2.2.1, hM4.2.2.2.2⟩) | (rw [if_neg (by omega), if_neg (by omega), if_pos (by omega)] at hp; exact hp _ hF4 ⟨hM4.2.2.2.1, hM4.2.2.2.2⟩) | (rw [if_neg (by omega), if_neg (by omega), if_neg (by omega)] at hp; exact hp _ hF4 ⟨hM4.2.2.2.1, hM4.2.2.2.2⟩))
  refine x_tableOut 56 dX11_market_9 (by omega) (by omega) (by decide) ?_
  refine x_iconst dX11_market_56 ?_
  exact x_ireturn dX11_market_57 rfl (by omega) (by omega) (by first | (rw [if_pos (by omega)] at hp; exact hp _ hF4 ⟨hM4.2.2.2.1, hM4.2.2.2.2⟩) | (rw [if_neg (by omega), if_pos (by omega)] at hp; exact hp _ hF4 ⟨hM4.2.2.2.1, hM4.2.2.2.2⟩) | (rw [if_neg (by omega), if_neg (by omega), if_pos (by omega)] at hp; exact hp _ hF4 ⟨hM4.2.2.2.1, hM4.2.2.2.2⟩) | (rw [if_neg (by omega), if_neg (by omega), if_neg (by omega)] at hp; exact hp _ hF4 ⟨hM4.2.2.2.1, hM4.2.2.2.2⟩))
theorem dX11_gain_0 : decode prog_1_method_39_code 0 = .ok (.aload_n 0, 1) := by decide +kernel
theorem dX11_gain_1 : decode prog_1_method_39_code 1 = .ok (.getfield 74, 3) := by decide +kernel
theorem dX11_gain_4 : decode prog_1_method_39_code 4 = .ok (.aload_n 0, 1) := by decide +kernel
theorem dX11_gain_5 : decode prog_1_method_39_code 5 = .ok (.getfield 74, 3) := by decide +kernel
theorem dX11_gain_8 : decode prog_1_method_39_code 8 = .ok (.invokevirtual 321, 3) := by decide +kernel
theorem dX11_gain_11 : decode prog_1_method_39_code 11 = .ok (.invokevirtual 330, 3) := by decide +kernel
theorem dX11_gain_14 : decode prog_1_method_39_code 14 = .ok (.ireturn, 1) := by decide +kernel
theorem sp_X11_gain  (cs : CS S R) (hc : ClW I 1 A) (hb : BA A) (hd : DK I) (hn : 3 ≤ n) (hp : ∀ I', Fdl I I' → DK I' → Post (some (.int (iI (f_gain A)))) S I' R) : Call n 0 0 mX11_gain [.ref (S.2.1 0)] S I R Post := by
  have b5 := hb.2.1.2.2.2.2.1
  have tb := trades_b b5

  refine Call.of (by decide +kernel) (Nat.le_of_ble_eq_true rfl) ?_
  show WP _ _ _ _ _ 0 [(0, _)] [] 0 0 _ _ _
  refine x_aload_n dX11_gain_0 rfl ?_
  refine x_getR (b := 303) dX11_gain_1 gf_RX11_74 (k_ob_0 cs) (fun _ _ => rfl) (k_r_0_8 cs) ?_
  refine x_aload_n dX11_gain_4 rfl ?_
  refine x_getR (b := 303) dX11_gain_5 gf_RX11_74 (k_ob_0 cs) (fun _ _ => rfl) (k_r_0_8 cs) ?_
  refine x_callV0 (mc1 := 0) (ms1 := 0) dX11_gain_8 cv_RX11_321 (ci := 1) (k_ob_303 cs) rfl (Nat.le_of_ble_eq_true rfl) (n1 := n - 1) (by omega) (by omega) (by omega) ?_
  refine sp_X1_findTrades cs hc hb hd (by omega) (fun I8 hM8 hF8 => ?_)
  refine x_callV1 (mc1 := 0) (ms1 := 0) dX11_gain_11 cv_RX11_330 (ci := 1) (k_ob_303 cs) rfl (Nat.le_of_ble_eq_true rfl) (n1 := n - 1) (by omega) (by omega) (by omega) ?_
  refine sp_X1_gainOf cs hM8 b5 (by omega) ?_
  exact x_ireturn dX11_gain_14 rfl (by omega) (by omega) (hp _ hF8 ⟨hM8.2.2.2.1, hM8.2.2.2.2⟩)
def fitK (A : Nat → Int) : Nat → Int → Prop
  | 0, _ => True
  | k + 1, t => (A (110 + k) = -1 ∨ A (110 + k) = t % 10) ∧ fitK A k (t / 10)
noncomputable def tkP (A : Nat → Int) (t : Nat) : Prop := fitK A 4 t ∧ ((t : Int) / 1000 + 3 * ((t : Int) / 100 % 10) + 7 * ((t : Int) / 10 % 10) + 9 * ((t : Int) % 10)) % 10 = 0
/-- of the tickets below k: how many, and the w-th -/
noncomputable def tkR (A : Nat → Int) (w : Int) : Nat → Int × Int
  | 0 => (0, -2)
  | k + 1 => @ite _ (tkP A k) (Classical.propDecidable _) ((tkR A w k).1 + 1, if (tkR A w k).1 = w then (k : Int) else (tkR A w k).2) (tkR A w k)
noncomputable def f_tickets (A : Nat → Int) (w : Int) : Int := if w = -1 then (tkR A w 10000).1 else (tkR A w 10000).2
theorem tkR_y {w : Int} {k : Nat} (h : tkP A k) : tkR A w (k + 1) = ((tkR A w k).1 + 1, if (tkR A w k).1 = w then (k : Int) else (tkR A w k).2) := @if_pos _ (Classical.propDecidable _) h _ _ _
theorem tkR_n {w : Int} {k : Nat} (h : ¬ tkP A k) : tkR A w (k + 1) = tkR A w k := @if_neg _ (Classical.propDecidable _) h _ _ _
theorem tkR_b {w : Int} : ∀ k : Nat, 0 ≤ (tkR A w k).1 ∧ (tkR A w k).1 ≤ k := by
  intro k
  induction k with
  | zero => exact ⟨Int.le_refl _, Int.le_refl _⟩
  | succ k ih =>
    by_cases h : tkP A k
    · rw [tkR_y h]; dsimp only; omega
    · rw [tkR_n h]; omega
theorem tkR_fix {w : Int} (k : Nat) : ∀ d : Nat, w < (tkR A w k).1 → w < (tkR A w (k + d)).1 ∧ (tkR A w (k + d)).2 = (tkR A w k).2 := by
  intro d h
  induction d with
  | zero => exact ⟨h, rfl⟩
  | succ d ih =>
    rw [← Nat.add_assoc]
    by_cases g : tkP A (k + d)
    · rw [tkR_y g]; dsimp only; rw [if_neg (by omega)]; exact ⟨by omega, ih.2⟩
    · rw [tkR_n g]; exact ih
theorem tkR_low {w : Int} : ∀ k : Nat, (tkR A w k).1 ≤ w → (tkR A w k).2 = -2 := by
  intro k
  induction k with
  | zero => intro _; rfl
  | succ k ih =>
    by_cases h : tkP A k
    · rw [tkR_y h]; dsimp only; intro h2; rw [if_neg (by omega)]; exact ih (by omega)
    · rw [tkR_n h]; exact ih
def frt (k : Nat) : Int := ((k : Int) / 100 + 3 * ((k : Int) / 10 % 10) + 7 * ((k : Int) % 10)) % 10
theorem tkR_skip {w : Int} (k : Nat) (a : Nat) : ∀ d : Nat, (∀ j, a ≤ j → j < a + d → (j : Int) ≠ frt k) → a + d ≤ 10 → tkR A w (10 * k + (a + d)) = tkR A w (10 * k + a) := by
  intro d
  induction d with
  | zero => intro _ _; rfl
  | succ d ih =>
    intro h h2
    rw [show 10 * k + (a + (d + 1)) = 10 * k + (a + d) + 1 by omega, tkR_n, ih (fun j h3 h4 => h j h3 (by omega)) (by omega)]
    intro hk
    have h5 := h (a + d) (by omega) (by omega)
    have h6 := hk.2
    have hch : ((10 * k + (a + d) : Nat) : Int) / 1000 = (k : Int) / 100 ∧ ((10 * k + (a + d) : Nat) : Int) / 100 % 10 = (k : Int) / 10 % 10 ∧ ((10 * k + (a + d) : Nat) : Int) / 10 % 10 = (k : Int) % 10 ∧ ((10 * k + (a + d) : Nat) : Int) % 10 = ((a + d : Nat) : Int) := by omega
    rw [hch.1, hch.2.1, hch.2.2.1, hch.2.2.2] at h6
    unfold frt at h5
    omega
theorem tkR_ten {w : Int} {k : Nat} (hk : k < 1000) : (fitK A 4 ((k : Int) * 10 + frt k) → tkR A w (10 * (k + 1)) = ((tkR A w (10 * k)).1 + 1, if (tkR A w (10 * k)).1 = w then (k : Int) * 10 + frt k else (tkR A w (10 * k)).2)) ∧ (¬ fitK A 4 ((k : Int) * 10 + frt k) → tkR A w (10 * (k + 1)) = tkR A w (10 * k)) := by
  obtain ⟨f, hf⟩ : ∃ f : Nat, frt k = (f : Int) := ⟨(frt k).toNat, by unfold frt; omega⟩
  have hf10 : f < 10 := by have : frt k < 10 := by unfold frt; omega
                           omega
  have e1 := tkR_skip (A := A) (w := w) k 0 f (fun j h1 h2 => by rw [hf]; omega) (by omega)
  have e2 := tkR_skip (A := A) (w := w) k (f + 1) (9 - f) (fun j h1 h2 => by rw [hf]; omega) (by omega)
  rw [show f + 1 + (9 - f) = 10 by omega, show 10 * k + 10 = 10 * (k + 1) by omega] at e2
  rw [show 0 + f = f by omega, Nat.add_zero] at e1
  have e3 : ((10 * k + f : Nat) : Int) = (k : Int) * 10 + frt k := by rw [hf]; omega
  have hch : ((10 * k + f : Nat) : Int) / 1000 = (k : Int) / 100 ∧ ((10 * k + f : Nat) : Int) / 100 % 10 = (k : Int) / 10 % 10 ∧ ((10 * k + f : Nat) : Int) / 10 % 10 = (k : Int) % 10 ∧ ((10 * k + f : Nat) : Int) % 10 = f := by omega
  have hck : (((10 * k + f : Nat) : Int) / 1000 + 3 * (((10 * k + f : Nat) : Int) / 100 % 10) + 7 * (((10 * k + f : Nat) : Int) / 10 % 10) + 9 * (((10 * k + f : Nat) : Int) % 10)) % 10 = 0 := by
    rw [hch.1, hch.2.1, hch.2.2.1, hch.2.2.2, ← hf]; unfold frt; omega
  constructor
  · intro h
    rw [e2, show 10 * k + (f + 1) = 10 * k + f + 1 by omega, tkR_y ⟨by rw [e3]; exact h, hck⟩, e1, e3]
  · intro h
    rw [e2, show 10 * k + (f + 1) = 10 * k + f + 1 by omega, tkR_n (fun q => h (by rw [← e3]; exact q.1)), e1]
theorem dX9_fits_0 : decode prog_11_method_4_code 0 = .ok (.iload_n 1, 1) := by decide +kernel
theorem dX9_fits_1 : decode prog_11_method_4_code 1 = .ok (.istore_n 2, 1) := by decide +kernel
theorem dX9_fits_2 : decode prog_11_method_4_code 2 = .ok (.iconst 3, 1) := by decide +kernel
theorem dX9_fits_3 : decode prog_11_method_4_code 3 = .ok (.istore_n 3, 1) := by decide +kernel
theorem dX9_fits_4 : decode prog_11_method_4_code 4 = .ok (.iload_n 3, 1) := by decide +kernel
theorem dX9_fits_5 : decode prog_11_method_4_code 5 = .ok (.ifCond .lt 39, 3) := by decide +kernel
theorem dX9_fits_8 : decode prog_11_method_4_code 8 = .ok (.aload_n 0, 1) := by decide +kernel
theorem dX9_fits_9 : decode prog_11_method_4_code 9 = .ok (.getfield 9, 3) := by decide +kernel
theorem dX9_fits_12 : decode prog_11_method_4_code 12 = .ok (.iload_n 3, 1) := by decide +kernel
theorem dX9_fits_13 : decode prog_11_method_4_code 13 = .ok (.iaload, 1) := by decide +kernel
theorem dX9_fits_14 : decode prog_11_method_4_code 14 = .ok (.iconst (-1), 1) := by decide +kernel
theorem dX9_fits_15 : decode prog_11_method_4_code 15 = .ok (.if_icmp .eq 18, 3) := by decide +kernel
theorem dX9_fits_18 : decode prog_11_method_4_code 18 = .ok (.aload_n 0, 1) := by decide +kernel
theorem dX9_fits_19 : decode prog_11_method_4_code 19 = .ok (.getfield 9, 3) := by decide +kernel
theorem dX9_fits_22 : decode prog_11_method_4_code 22 = .ok (.iload_n 3, 1) := by decide +kernel
theorem dX9_fits_23 : decode prog_11_method_4_code 23 = .ok (.iaload, 1) := by decide +kernel
theorem dX9_fits_24 : decode prog_11_method_4_code 24 = .ok (.iload_n 2, 1) := by decide +kernel
theorem dX9_fits_25 : decode prog_11_method_4_code 25 = .ok (.bipush 10, 2) := by decide +kernel
theorem dX9_fits_27 : decode prog_11_method_4_code 27 = .ok (.irem, 1) := by decide +kernel
theorem dX9_fits_28 : decode prog_11_method_4_code 28 = .ok (.if_icmp .eq 5, 3) := by decide +kernel
theorem dX9_fits_31 : decode prog_11_method_4_code 31 = .ok (.iconst 0, 1) := by decide +kernel
theorem dX9_fits_32 : decode prog_11_method_4_code 32 = .ok (.ireturn, 1) := by decide +kernel
theorem dX9_fits_33 : decode prog_11_method_4_code 33 = .ok (.iload_n 2, 1) := by decide +kernel
theorem dX9_fits_34 : decode prog_11_method_4_code 34 = .ok (.bipush 10, 2) := by decide +kernel
theorem dX9_fits_36 : decode prog_11_method_4_code 36 = .ok (.idiv, 1) := by decide +kernel
theorem dX9_fits_37 : decode prog_11_method_4_code 37 = .ok (.istore_n 2, 1) := by decide +kernel
theorem dX9_fits_38 : decode prog_11_method_4_code 38 = .ok (.iinc 3 (-1), 3) := by decide +kernel
theorem dX9_fits_41 : decode prog_11_method_4_code 41 = .ok (.goto (-37), 3) := by decide +kernel
theorem dX9_fits_44 : decode prog_11_method_4_code 44 = .ok (.iconst 1, 1) := by decide +kernel
theorem dX9_fits_45 : decode prog_11_method_4_code 45 = .ok (.ireturn, 1) := by decide +kernel
theorem lp_X9_fits {t : Int} (cs : CS S R) (hd : ∀ i, i < 4 → A (110 + i) = I 14 i ∧ -1 ≤ A (110 + i) ∧ A (110 + i) ≤ 9) (hp : ∀ r, (r = 1 ∧ fitK A 4 t ∨ r = 0 ∧ ¬ fitK A 4 t) → Post (some (.int (iI r))) S I R) : ∀ (k : Nat) (z : Int), k ≤ 4 → (0 ≤ z ∧ z ≤ 9999) → (fitK A 4 t ↔ fitK A k z) → WP n 0 0 mX9_fits Post 4 [(0, .ref (S.2.1 13)), (1, .int (iI t)), (2, .int (iI z)), (3, .int (iI ((k : Int) - 1)))] [] 0 0 S I R := by
  intro k
  induction k with
  | zero =>
    intro z h1 h2 h3
    refine x_iload_n dX9_fits_4 rfl ?_
    refine x_if_lt 44 dX9_fits_5 (by decide) (by omega) (fun w5 => ?_) (fun w5 => ?_)
    · refine x_iconst dX9_fits_44 ?_
      exact x_zreturn (by omega) dX9_fits_45 rfl (by omega) (by omega) (hp 1 (Or.inl ⟨rfl, h3.mpr trivial⟩))
    · exfalso; omega
  | succ k ih =>
    intro z h1 h2 h3
    have g1 := hd k (by omega)
    rw [show ((k + 1 : Nat) : Int) - 1 = (k : Int) by omega]
    refine x_iload_n dX9_fits_4 rfl ?_
    refine x_if_lt 44 dX9_fits_5 (by decide) (by omega) (fun w5 => ?_) (fun w5 => ?_)
    · exfalso; omega
    · refine x_aload_n dX9_fits_8 rfl ?_
      refine x_getR (b := 14) dX9_fits_9 gf_RX9_9 (k_ob_13 cs) (fun _ _ => rfl) (k_r_13_0 cs) ?_
      refine x_iload_n dX9_fits_12 rfl ?_
      refine x_iaload dX9_fits_13 (k_ar_14 cs) (by omega) (by omega) ?_
      rw [show ((k : Nat) : Int).toNat = k by omega, ← g1.1]
      refine x_iconst dX9_fits_14 ?_
      refine x_icmp_eq 33 dX9_fits_15 (by decide) ⟨(by omega), (by omega)⟩ (fun w15 => ?_) (fun w15 => ?_)
      · refine x_iload_n dX9_fits_33 rfl ?_
        refine x_bipush dX9_fits_34 (by decide) ?_
        refine x_idiv dX9_fits_36 (by omega) ?_
        refine x_istore_n (lv2 := [(2, _), (0, _), (1, _), (3, _)]) dX9_fits_37 (by decide) rfl ?_
        refine x_iinc (lv2 := [(3, _), (2, _), (0, _), (1, _)]) dX9_fits_38 rfl (by decide) rfl ?_
        refine x_goto 4 dX9_fits_41 (by decide) ?_
        refine x_sub [2, 3, 1, 0] rfl ?_
        rw [show ((k : Nat) : Int) + -1 = (k : Int) - 1 by omega]
        exact ih _ (by omega) (by omega) (h3.trans ⟨fun q => q.2, fun q => ⟨by omega, q⟩⟩)
      · refine x_aload_n dX9_fits_18 rfl ?_
        refine x_getR (b := 14) dX9_fits_19 gf_RX9_9 (k_ob_13 cs) (fun _ _ => rfl) (k_r_13_0 cs) ?_
        refine x_iload_n dX9_fits_22 rfl ?_
        refine x_iaload dX9_fits_23 (k_ar_14 cs) (by omega) (by omega) ?_
        rw [show ((k : Nat) : Int).toNat = k by omega, ← g1.1]
        refine x_iload_n dX9_fits_24 rfl ?_
        refine x_bipush dX9_fits_25 (by decide) ?_
        refine x_irem dX9_fits_27 (by omega) ?_
        refine x_icmp_eq 33 dX9_fits_28 (by decide) ⟨(by omega), (by omega)⟩ (fun w28 => ?_) (fun w28 => ?_)
        · refine x_iload_n dX9_fits_33 rfl ?_
          refine x_bipush dX9_fits_34 (by decide) ?_
          refine x_idiv dX9_fits_36 (by omega) ?_
          refine x_istore_n (lv2 := [(2, _), (0, _), (1, _), (3, _)]) dX9_fits_37 (by decide) rfl ?_
          refine x_iinc (lv2 := [(3, _), (2, _), (0, _), (1, _)]) dX9_fits_38 rfl (by decide) rfl ?_
          refine x_goto 4 dX9_fits_41 (by decide) ?_
          refine x_sub [2, 3, 1, 0] rfl ?_
          rw [show ((k : Nat) : Int) + -1 = (k : Int) - 1 by omega]
          exact ih _ (by omega) (by omega) (h3.trans ⟨fun q => q.2, fun q => ⟨by omega, q⟩⟩)
        · refine x_iconst dX9_fits_31 ?_
          exact x_zreturn (by omega) dX9_fits_32 rfl (by omega) (by omega) (hp 0 (Or.inr ⟨rfl, fun q => by have := (h3.mp q).1; omega⟩))
theorem sp_X9_fits {t : Int} (cs : CS S R) (hd : ∀ i, i < 4 → A (110 + i) = I 14 i ∧ -1 ≤ A (110 + i) ∧ A (110 + i) ≤ 9) (ht : 0 ≤ t ∧ t ≤ 9999) (hp : ∀ r, (r = 1 ∧ fitK A 4 t ∨ r = 0 ∧ ¬ fitK A 4 t) → Post (some (.int (iI r))) S I R) : Call n 0 0 mX9_fits [.ref (S.2.1 13), .int (iI t)] S I R Post := by
  refine Call.of (by decide +kernel) (Nat.le_of_ble_eq_true rfl) ?_
  show WP _ _ _ _ _ 0 [(0, _), (1, _)] [] 0 0 _ _ _
  refine x_iload_n dX9_fits_0 rfl ?_
  refine x_istore_n (lv2 := [(2, _), (0, _), (1, _)]) dX9_fits_1 (by decide) rfl ?_
  refine x_iconst dX9_fits_2 ?_
  refine x_istore_n (lv2 := [(3, _), (2, _), (0, _), (1, _)]) dX9_fits_3 (by decide) rfl ?_
  refine x_sub [2, 3, 1, 0] rfl ?_
  exact lp_X9_fits cs hd hp 4 t (by omega) ht Iff.rfl
theorem dX9_findTicket_0 : decode prog_11_method_3_code 0 = .ok (.iconst 0, 1) := by decide +kernel
theorem dX9_findTicket_1 : decode prog_11_method_3_code 1 = .ok (.istore_n 2, 1) := by decide +kernel
theorem dX9_findTicket_2 : decode prog_11_method_3_code 2 = .ok (.iconst 0, 1) := by decide +kernel
theorem dX9_findTicket_3 : decode prog_11_method_3_code 3 = .ok (.istore_n 3, 1) := by decide +kernel
theorem dX9_findTicket_4 : decode prog_11_method_3_code 4 = .ok (.iload_n 3, 1) := by decide +kernel
theorem dX9_findTicket_5 : decode prog_11_method_3_code 5 = .ok (.sipush 1000, 3) := by decide +kernel
theorem dX9_findTicket_8 : decode prog_11_method_3_code 8 = .ok (.if_icmp .ge 65, 3) := by decide +kernel
theorem dX9_findTicket_11 : decode prog_11_method_3_code 11 = .ok (.iload_n 3, 1) := by decide +kernel
theorem dX9_findTicket_12 : decode prog_11_method_3_code 12 = .ok (.bipush 100, 2) := by decide +kernel
theorem dX9_findTicket_14 : decode prog_11_method_3_code 14 = .ok (.idiv, 1) := by decide +kernel
theorem dX9_findTicket_15 : decode prog_11_method_3_code 15 = .ok (.iconst 3, 1) := by decide +kernel
theorem dX9_findTicket_16 : decode prog_11_method_3_code 16 = .ok (.iload_n 3, 1) := by decide +kernel
theorem dX9_findTicket_17 : decode prog_11_method_3_code 17 = .ok (.bipush 10, 2) := by decide +kernel
theorem dX9_findTicket_19 : decode prog_11_method_3_code 19 = .ok (.idiv, 1) := by decide +kernel
theorem dX9_findTicket_20 : decode prog_11_method_3_code 20 = .ok (.bipush 10, 2) := by decide +kernel
theorem dX9_findTicket_22 : decode prog_11_method_3_code 22 = .ok (.irem, 1) := by decide +kernel
theorem dX9_findTicket_23 : decode prog_11_method_3_code 23 = .ok (.imul, 1) := by decide +kernel
theorem dX9_findTicket_24 : decode prog_11_method_3_code 24 = .ok (.iadd, 1) := by decide +kernel
theorem dX9_findTicket_25 : decode prog_11_method_3_code 25 = .ok (.bipush 7, 2) := by decide +kernel
theorem dX9_findTicket_27 : decode prog_11_method_3_code 27 = .ok (.iload_n 3, 1) := by decide +kernel
theorem dX9_findTicket_28 : decode prog_11_method_3_code 28 = .ok (.bipush 10, 2) := by decide +kernel
theorem dX9_findTicket_30 : decode prog_11_method_3_code 30 = .ok (.irem, 1) := by decide +kernel
theorem dX9_findTicket_31 : decode prog_11_method_3_code 31 = .ok (.imul, 1) := by decide +kernel
theorem dX9_findTicket_32 : decode prog_11_method_3_code 32 = .ok (.iadd, 1) := by decide +kernel
theorem dX9_findTicket_33 : decode prog_11_method_3_code 33 = .ok (.bipush 10, 2) := by decide +kernel
theorem dX9_findTicket_35 : decode prog_11_method_3_code 35 = .ok (.irem, 1) := by decide +kernel
theorem dX9_findTicket_36 : decode prog_11_method_3_code 36 = .ok (.istore 4, 2) := by decide +kernel
theorem dX9_findTicket_38 : decode prog_11_method_3_code 38 = .ok (.iload_n 3, 1) := by decide +kernel
theorem dX9_findTicket_39 : decode prog_11_method_3_code 39 = .ok (.bipush 10, 2) := by decide +kernel
theorem dX9_findTicket_41 : decode prog_11_method_3_code 41 = .ok (.imul, 1) := by decide +kernel
theorem dX9_findTicket_42 : decode prog_11_method_3_code 42 = .ok (.iload 4, 2) := by decide +kernel
theorem dX9_findTicket_44 : decode prog_11_method_3_code 44 = .ok (.iadd, 1) := by decide +kernel
theorem dX9_findTicket_45 : decode prog_11_method_3_code 45 = .ok (.istore 5, 2) := by decide +kernel
theorem dX9_findTicket_47 : decode prog_11_method_3_code 47 = .ok (.aload_n 0, 1) := by decide +kernel
theorem dX9_findTicket_48 : decode prog_11_method_3_code 48 = .ok (.iload 5, 2) := by decide +kernel
theorem dX9_findTicket_50 : decode prog_11_method_3_code 50 = .ok (.invokevirtual 49, 3) := by decide +kernel
theorem dX9_findTicket_53 : decode prog_11_method_3_code 53 = .ok (.ifCond .eq 14, 3) := by decide +kernel
theorem dX9_findTicket_56 : decode prog_11_method_3_code 56 = .ok (.iload_n 2, 1) := by decide +kernel
theorem dX9_findTicket_57 : decode prog_11_method_3_code 57 = .ok (.iload_n 1, 1) := by decide +kernel
theorem dX9_findTicket_58 : decode prog_11_method_3_code 58 = .ok (.if_icmp .ne 6, 3) := by decide +kernel
theorem dX9_findTicket_61 : decode prog_11_method_3_code 61 = .ok (.iload 5, 2) := by decide +kernel
theorem dX9_findTicket_63 : decode prog_11_method_3_code 63 = .ok (.ireturn, 1) := by decide +kernel
theorem dX9_findTicket_64 : decode prog_11_method_3_code 64 = .ok (.iinc 2 1, 3) := by decide +kernel
theorem dX9_findTicket_67 : decode prog_11_method_3_code 67 = .ok (.iinc 3 1, 3) := by decide +kernel
theorem dX9_findTicket_70 : decode prog_11_method_3_code 70 = .ok (.goto (-66), 3) := by decide +kernel
theorem dX9_findTicket_73 : decode prog_11_method_3_code 73 = .ok (.iload_n 1, 1) := by decide +kernel
theorem dX9_findTicket_74 : decode prog_11_method_3_code 74 = .ok (.iconst (-1), 1) := by decide +kernel
theorem dX9_findTicket_75 : decode prog_11_method_3_code 75 = .ok (.if_icmp .ne 7, 3) := by decide +kernel
theorem dX9_findTicket_78 : decode prog_11_method_3_code 78 = .ok (.iload_n 2, 1) := by decide +kernel
theorem dX9_findTicket_79 : decode prog_11_method_3_code 79 = .ok (.goto 5, 3) := by decide +kernel
theorem dX9_findTicket_82 : decode prog_11_method_3_code 82 = .ok (.bipush (-2), 2) := by decide +kernel
theorem dX9_findTicket_84 : decode prog_11_method_3_code 84 = .ok (.ireturn, 1) := by decide +kernel
theorem lp_X9_findTicket {w : Int} (cs : CS S R) (hd : ∀ i, i < 4 → A (110 + i) = I 14 i ∧ -1 ≤ A (110 + i) ∧ A (110 + i) ≤ 9) (hw : -1 ≤ w ∧ w < 2147483648) (hn : 1 ≤ n) (hp : Post (some (.int (iI (f_tickets A w)))) S I R) : ∀ (d k : Nat), k ≤ 1000 → 1000 - k = d → (w = -1 ∨ (tkR A w (10 * k)).1 ≤ w) → WP n 0 0 mX9_findTicket Post 4 [(0, .ref (S.2.1 13)), (1, .int (iI w)), (2, .int (iI (tkR A w (10 * k)).1)), (3, .int (iI (k : Int)))] [] 0 0 S I R := by
  intro d
  induction d using Nat.strongRecOn with
  | ind d ih =>
    intro k k1 k2 hw2
    have hbk := tkR_b (A := A) (w := w) (10 * k)
    refine x_iload_n dX9_findTicket_4 rfl ?_
    refine x_sipush dX9_findTicket_5 (by decide) ?_
    refine x_icmp_ge 73 dX9_findTicket_8 (by decide) ⟨(by omega), (by omega)⟩ (fun w8 => ?_) (fun w8 => ?_)
    · refine x_iload_n dX9_findTicket_73 rfl ?_
      refine x_iconst dX9_findTicket_74 ?_
      refine x_icmp_ne 82 dX9_findTicket_75 (by decide) ⟨(by omega), (by omega)⟩ (fun w75 => ?_) (fun w75 => ?_)
      · refine x_bipush dX9_findTicket_82 (by decide) ?_
        exact x_ireturn dX9_findTicket_84 rfl (by omega) (by omega) (by
        first
          | (obtain rfl : k = 1000 := (by omega)
             unfold f_tickets at hp
             first | (rw [if_pos (by omega)] at hp; exact hp) | (rw [if_neg (by omega), show (tkR A w 10000).2 = -2 from tkR_low (10 * 1000) (by omega)] at hp; exact hp))
          | (unfold f_tickets at hp
             rw [if_neg (by omega)] at hp
             have t1 := tn.1 (by rcases hr50 with hh | hh <;> first | exact hh.2 | (exfalso; omega))
             have t2 := tkR_fix (A := A) (w := w) (10 * (k + 1)) (10000 - 10 * (k + 1)) (by rw [t1]; dsimp only; omega)
             rw [show 10 * (k + 1) + (10000 - 10 * (k + 1)) = 10000 by omega] at t2
             rw [t2.2, t1] at hp
             dsimp only at hp
             rw [if_pos (by omega)] at hp
             exact hp))
      · refine x_iload_n dX9_findTicket_78 rfl ?_
        refine x_goto 84 dX9_findTicket_79 (by decide) ?_
        exact x_ireturn dX9_findTicket_84 rfl (by omega) (by omega) (by
        first
          | (obtain rfl : k = 1000 := (by omega)
             unfold f_tickets at hp
             first | (rw [if_pos (by omega)] at hp; exact hp) | (rw [if_neg (by omega), show (tkR A w 10000).2 = -2 from tkR_low (10 * 1000) (by omega)] at hp; exact hp))
          | (unfold f_tickets at hp
             rw [if_neg (by omega)] at hp
             have t1 := tn.1 (by rcases hr50 with hh | hh <;> first | exact hh.2 | (exfalso; omega))
             have t2 := tkR_fix (A := A) (w := w) (10 * (k + 1)) (10000 - 10 * (k + 1)) (by rw [t1]; dsimp only; omega)
             rw [show 10 * (k + 1) + (10000 - 10 * (k + 1)) = 10000 by omega] at t2
             rw [t2.2, t1] at hp
             dsimp only at hp
             rw [if_pos (by omega)] at hp
             exact hp))
    · refine x_iload_n dX9_findTicket_11 rfl ?_
      refine x_bipush dX9_findTicket_12 (by decide) ?_
      refine x_idiv dX9_findTicket_14 (by omega) ?_
      refine x_iconst dX9_findTicket_15 ?_
      refine x_iload_n dX9_findTicket_16 rfl ?_
      refine x_bipush dX9_findTicket_17 (by decide) ?_
      refine x_idiv dX9_findTicket_19 (by omega) ?_
      refine x_bipush dX9_findTicket_20 (by decide) ?_
      refine x_irem dX9_findTicket_22 (by omega) ?_
      refine x_imul dX9_findTicket_23 ?_
      refine x_iadd dX9_findTicket_24 ?_
      refine x_bipush dX9_findTicket_25 (by decide) ?_
      refine x_iload_n dX9_findTicket_27 rfl ?_
      refine x_bipush dX9_findTicket_28 (by decide) ?_
      refine x_irem dX9_findTicket_30 (by omega) ?_
      refine x_imul dX9_findTicket_31 ?_
      refine x_iadd dX9_findTicket_32 ?_
      refine x_bipush dX9_findTicket_33 (by decide) ?_
      refine x_irem dX9_findTicket_35 (by omega) ?_
      have tn := tkR_ten (A := A) (w := w) (k := k) (by omega)
      have hfr : 0 ≤ frt k ∧ frt k ≤ 9 := by unfold frt; omega
      rw [show ((k : Int) / 100 + 3 * ((k : Int) / 10 % 10) + 7 * ((k : Int) % 10)) % 10 = frt k from rfl]
      refine x_istore (lv2 := [(4, _), (0, _), (1, _), (2, _), (3, _)]) dX9_findTicket_36 (by decide) rfl ?_
      refine x_iload_n dX9_findTicket_38 rfl ?_
      refine x_bipush dX9_findTicket_39 (by decide) ?_
      refine x_imul dX9_findTicket_41 ?_
      refine x_iload dX9_findTicket_42 rfl ?_
      refine x_iadd dX9_findTicket_44 ?_
      refine x_istore (lv2 := [(5, _), (4, _), (0, _), (1, _), (2, _), (3, _)]) dX9_findTicket_45 (by decide) rfl ?_
      refine x_aload_n dX9_findTicket_47 rfl ?_
      refine x_iload dX9_findTicket_48 rfl ?_
      refine x_callV1 (mc1 := 0) (ms1 := 0) dX9_findTicket_50 cv_RX9_49 (ci := 9) (k_ob_13 cs) rfl (Nat.le_of_ble_eq_true rfl) (n1 := n - 1) (by omega) (by omega) (by omega) ?_
      refine sp_X9_fits cs hd (by omega) (fun r50 hr50 => ?_)
      refine x_if_eq 67 dX9_findTicket_53 (by decide) (by omega) (fun w53 => ?_) (fun w53 => ?_)
      · refine x_iinc (lv2 := [(3, _), (5, _), (4, _), (0, _), (1, _), (2, _)]) dX9_findTicket_67 rfl (by decide) rfl ?_
        refine x_goto 4 dX9_findTicket_70 (by decide) ?_
        refine x_sub [3, 4, 5, 0] rfl ?_
        have hg := ih _ (by omega) (k + 1) (by omega) rfl
        rcases hr50 with hh | hh
        · rw [tn.1 hh.2] at hg
          dsimp only at hg
          first | exact hg (by omega) | (exfalso; omega)
        · rw [tn.2 hh.2] at hg
          first | exact hg (by omega) | (exfalso; omega)
      · refine x_iload_n dX9_findTicket_56 rfl ?_
        refine x_iload_n dX9_findTicket_57 rfl ?_
        refine x_icmp_ne 64 dX9_findTicket_58 (by decide) ⟨(by omega), (by omega)⟩ (fun w58 => ?_) (fun w58 => ?_)
        · refine x_iinc (lv2 := [(2, _), (5, _), (4, _), (0, _), (1, _), (3, _)]) dX9_findTicket_64 rfl (by decide) rfl ?_
          refine x_iinc (lv2 := [(3, _), (2, _), (5, _), (4, _), (0, _), (1, _)]) dX9_findTicket_67 rfl (by decide) rfl ?_
          refine x_goto 4 dX9_findTicket_70 (by decide) ?_
          refine x_sub [4, 5, 1, 0] rfl ?_
          have hg := ih _ (by omega) (k + 1) (by omega) rfl
          rcases hr50 with hh | hh
          · rw [tn.1 hh.2] at hg
            dsimp only at hg
            first | exact hg (by omega) | (exfalso; omega)
          · rw [tn.2 hh.2] at hg
            first | exact hg (by omega) | (exfalso; omega)
        · refine x_iload dX9_findTicket_61 rfl ?_
          exact x_ireturn dX9_findTicket_63 rfl (by omega) (by omega) (by
        first
          | (obtain rfl : k = 1000 := (by omega)
             unfold f_tickets at hp
             first | (rw [if_pos (by omega)] at hp; exact hp) | (rw [if_neg (by omega), show (tkR A w 10000).2 = -2 from tkR_low (10 * 1000) (by omega)] at hp; exact hp))
          | (unfold f_tickets at hp
             rw [if_neg (by omega)] at hp
             have t1 := tn.1 (by rcases hr50 with hh | hh <;> first | exact hh.2 | (exfalso; omega))
             have t2 := tkR_fix (A := A) (w := w) (10 * (k + 1)) (10000 - 10 * (k + 1)) (by rw [t1]; dsimp only; omega)
             rw [show 10 * (k + 1) + (10000 - 10 * (k + 1)) = 10000 by omega] at t2
             rw [t2.2, t1] at hp
             dsimp only at hp
             rw [if_pos (by omega)] at hp
             exact hp))
theorem sp_X9_findTicket {w : Int} (cs : CS S R) (hd : ∀ i, i < 4 → A (110 + i) = I 14 i ∧ -1 ≤ A (110 + i) ∧ A (110 + i) ≤ 9) (hw : -1 ≤ w ∧ w < 2147483648) (hn : 1 ≤ n) (hp : Post (some (.int (iI (f_tickets A w)))) S I R) : Call n 0 0 mX9_findTicket [.ref (S.2.1 13), .int (iI w)] S I R Post := by
  refine Call.of (by decide +kernel) (Nat.le_of_ble_eq_true rfl) ?_
  show WP _ _ _ _ _ 0 [(0, _), (1, _)] [] 0 0 _ _ _
  refine x_iconst dX9_findTicket_0 ?_
  refine x_istore_n (lv2 := [(2, _), (0, _), (1, _)]) dX9_findTicket_1 (by decide) rfl ?_
  refine x_iconst dX9_findTicket_2 ?_
  refine x_istore_n (lv2 := [(3, _), (2, _), (0, _), (1, _)]) dX9_findTicket_3 (by decide) rfl ?_
  refine x_sub [2, 3, 1, 0] rfl ?_
  exact lp_X9_findTicket cs hd hw hn hp _ 0 (by omega) rfl (by first | (left; omega) | (right; show (0 : Int) ≤ w; omega) | (by_cases e : w = -1; exact Or.inl e; right; show (0 : Int) ≤ w; omega))
noncomputable def f_tick (A : Nat → Int) (w : Int) : Int := if w < -1 then -2 else f_tickets A w
theorem dX11_tickets_0 : decode prog_1_method_33_code 0 = .ok (.iload_n 1, 1) := by decide +kernel
theorem dX11_tickets_1 : decode prog_1_method_33_code 1 = .ok (.iconst (-1), 1) := by decide +kernel
theorem dX11_tickets_2 : decode prog_1_method_33_code 2 = .ok (.if_icmp .ge 8, 3) := by decide +kernel
theorem dX11_tickets_5 : decode prog_1_method_33_code 5 = .ok (.bipush (-2), 2) := by decide +kernel
theorem dX11_tickets_7 : decode prog_1_method_33_code 7 = .ok (.goto 14, 3) := by decide +kernel
theorem dX11_tickets_10 : decode prog_1_method_33_code 10 = .ok (.aload_n 0, 1) := by decide +kernel
theorem dX11_tickets_11 : decode prog_1_method_33_code 11 = .ok (.getfield 10, 3) := by decide +kernel
theorem dX11_tickets_14 : decode prog_1_method_33_code 14 = .ok (.getfield 67, 3) := by decide +kernel
theorem dX11_tickets_17 : decode prog_1_method_33_code 17 = .ok (.iload_n 1, 1) := by decide +kernel
theorem dX11_tickets_18 : decode prog_1_method_33_code 18 = .ok (.invokevirtual 294, 3) := by decide +kernel
theorem dX11_tickets_21 : decode prog_1_method_33_code 21 = .ok (.ireturn, 1) := by decide +kernel
theorem sp_X11_tickets {w : Int} (cs : CS S R) (hc : ClW I 1 A) (hb : BA A) (hw : Rg w) (hn : 2 ≤ n) (hp : Post (some (.int (iI (f_tick A w)))) S I R) : Call n 0 0 mX11_tickets [.ref (S.2.1 0), .int (iI w)] S I R Post := by
  obtain ⟨⟨⟨c0, c7, c8, c9, c10, c11⟩, cq⟩, ⟨⟨t1, t2, t3, t4, t5, t6, t7, t8, t9⟩, tq, th, tb, ts, td⟩, cb, cp⟩ := id hc
  dsimp only [Nat.reduceAdd] at c0 c7 c8 c9 c10 c11 cq t1 t2 t3 t4 t5 t6 t7 t8 t9 tq th tb ts td
  obtain ⟨⟨b0, b1, b2, b3, b4, bq, bl⟩, ⟨d1, d2, d3, d4, d5, d6, d7⟩, dq, dh, db, ds, dd, dp⟩ := id hb
  have b7 : 0 ≤ A 7 ∧ A 7 ≤ 9999 := b1
  have b8 : 0 ≤ A 8 ∧ A 8 ≤ 30870 := b2
  have b9 : 0 ≤ A 9 ∧ A 9 ≤ 9999 := b3
  have b10 : 0 ≤ A 10 ∧ A 10 ≤ 1 := b4
  have b11 : 0 ≤ A 11 ∧ A 11 ≤ 16 := by have h1 := lns_b (fun q => A (6 + 6 + 3 * q)) (A 0).toNat; have h2 : A 11 = _ := bl; omega
  unfold f_tick at hp
  refine Call.of (by decide +kernel) (Nat.le_of_ble_eq_true rfl) ?_
  show WP _ _ _ _ _ 0 [(0, _), (1, _)] [] 0 0 _ _ _
  refine x_iload_n dX11_tickets_0 rfl ?_
  refine x_iconst dX11_tickets_1 ?_
  refine x_icmp_ge 10 dX11_tickets_2 (by decide) ⟨(by omega), (by omega)⟩ (fun w2 => ?_) (fun w2 => ?_)
  · refine x_aload_n dX11_tickets_10 rfl ?_
    refine x_getR (b := 1) dX11_tickets_11 gf_RX11_10 (k_ob_0 cs) (fun _ _ => rfl) (k_r_0_0 cs) ?_
    refine x_getR (b := 13) dX11_tickets_14 gf_RX11_67 (k_ob_1 cs) (fun _ _ => rfl) (k_r_1_8 cs) ?_
    refine x_iload_n dX11_tickets_17 rfl ?_
    refine x_callV1 (mc1 := 0) (ms1 := 0) dX11_tickets_18 cv_RX11_294 (ci := 9) (k_ob_13 cs) rfl (Nat.le_of_ble_eq_true rfl) (n1 := n - 1) (by omega) (by omega) (by omega) ?_
    refine sp_X9_findTicket (A := A) cs (fun i hi => ⟨td i hi, dd i hi⟩) (by omega) (by omega) ?_
    exact x_ireturn dX11_tickets_21 rfl (by omega) (by omega) (by first | (rw [if_pos (by omega)] at hp; exact hp) | (rw [if_neg (by omega)] at hp; exact hp))
  · refine x_bipush dX11_tickets_5 (by decide) ?_
    refine x_goto 21 dX11_tickets_7 (by decide) ?_
    exact x_ireturn dX11_tickets_21 rfl (by omega) (by omega) (by first | (rw [if_pos (by omega)] at hp; exact hp) | (rw [if_neg (by omega)] at hp; exact hp))
end Cls10
