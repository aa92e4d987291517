def ST (S : Sh) (R : CR) (a : Nat) : Prop := OB S a 6 ∧ R a 0 = some (a + 1) ∧ R a 1 = some (a + 2) ∧ R a 2 = some (a + 3) ∧ AR S (a + 1) 13 8 ∧ AR S (a + 2) 13 8 ∧ AR S (a + 3) 13 8
/-- what a stand holds is in its bounds -/
def SB (I : CI) (a : Nat) : Prop := (0 ≤ I a 3 ∧ I a 3 ≤ 8) ∧ (0 ≤ I a 4 ∧ I a 4 ≤ 9999) ∧ (0 ≤ I a 5 ∧ I a 5 ≤ 1) ∧ (0 ≤ I a 6 ∧ I a 6 ≤ 9999) ∧ (0 ≤ I a 7 ∧ I a 7 ≤ 30870) ∧ (0 ≤ I a 8 ∧ I a 8 ≤ 16) ∧ (∀ i, i < 8 → 0 ≤ I (a + 1) i ∧ I (a + 1) i ≤ 3) ∧ (∀ i, i < 8 → 0 ≤ I (a + 2) i ∧ I (a + 2) i ≤ I a 6) ∧ (∀ i, i < 8 → 0 ≤ I (a + 3) i ∧ I (a + 3) i ≤ 9)
section StandM
variable {n : Nat} {Post : PT} {S : Sh} {I : CI} {R : CR} {a : Nat}
theorem dX6_has_0 : decode prog_8_method_3_code 0 = .ok (.iload_n 1, 1) := by decide +kernel
theorem dX6_has_1 : decode prog_8_method_3_code 1 = .ok (.ifCond .lt 15, 3) := by decide +kernel
theorem dX6_has_4 : decode prog_8_method_3_code 4 = .ok (.iload_n 1, 1) := by decide +kernel
theorem dX6_has_5 : decode prog_8_method_3_code 5 = .ok (.aload_n 0, 1) := by decide +kernel
theorem dX6_has_6 : decode prog_8_method_3_code 6 = .ok (.getfield 31, 3) := by decide +kernel
theorem dX6_has_9 : decode prog_8_method_3_code 9 = .ok (.if_icmp .ge 7, 3) := by decide +kernel
theorem dX6_has_12 : decode prog_8_method_3_code 12 = .ok (.iconst 1, 1) := by decide +kernel
theorem dX6_has_13 : decode prog_8_method_3_code 13 = .ok (.goto 4, 3) := by decide +kernel
theorem dX6_has_16 : decode prog_8_method_3_code 16 = .ok (.iconst 0, 1) := by decide +kernel
theorem dX6_has_17 : decode prog_8_method_3_code 17 = .ok (.ireturn, 1) := by decide +kernel
theorem dX6_isHow_0 : decode prog_8_method_4_code 0 = .ok (.aload_n 0, 1) := by decide +kernel
theorem dX6_isHow_1 : decode prog_8_method_4_code 1 = .ok (.iload_n 1, 1) := by decide +kernel
theorem dX6_isHow_2 : decode prog_8_method_4_code 2 = .ok (.invokevirtual 46, 3) := by decide +kernel
theorem dX6_isHow_5 : decode prog_8_method_4_code 5 = .ok (.ifCond .eq 17, 3) := by decide +kernel
theorem dX6_isHow_8 : decode prog_8_method_4_code 8 = .ok (.aload_n 0, 1) := by decide +kernel
theorem dX6_isHow_9 : decode prog_8_method_4_code 9 = .ok (.getfield 9, 3) := by decide +kernel
theorem dX6_isHow_12 : decode prog_8_method_4_code 12 = .ok (.iload_n 1, 1) := by decide +kernel
theorem dX6_isHow_13 : decode prog_8_method_4_code 13 = .ok (.iaload, 1) := by decide +kernel
theorem dX6_isHow_14 : decode prog_8_method_4_code 14 = .ok (.iload_n 2, 1) := by decide +kernel
theorem dX6_isHow_15 : decode prog_8_method_4_code 15 = .ok (.if_icmp .ne 7, 3) := by decide +kernel
theorem dX6_isHow_18 : decode prog_8_method_4_code 18 = .ok (.iconst 1, 1) := by decide +kernel
theorem dX6_isHow_19 : decode prog_8_method_4_code 19 = .ok (.goto 4, 3) := by decide +kernel
theorem dX6_isHow_22 : decode prog_8_method_4_code 22 = .ok (.iconst 0, 1) := by decide +kernel
theorem dX6_isHow_23 : decode prog_8_method_4_code 23 = .ok (.ireturn, 1) := by decide +kernel
theorem dX6_held_0 : decode prog_8_method_5_code 0 = .ok (.aload_n 0, 1) := by decide +kernel
theorem dX6_held_1 : decode prog_8_method_5_code 1 = .ok (.iload_n 1, 1) := by decide +kernel
theorem dX6_held_2 : decode prog_8_method_5_code 2 = .ok (.iconst 1, 1) := by decide +kernel
theorem dX6_held_3 : decode prog_8_method_5_code 3 = .ok (.invokevirtual 50, 3) := by decide +kernel
theorem dX6_held_6 : decode prog_8_method_5_code 6 = .ok (.ifCond .eq 17, 3) := by decide +kernel
theorem dX6_held_9 : decode prog_8_method_5_code 9 = .ok (.aload_n 0, 1) := by decide +kernel
theorem dX6_held_10 : decode prog_8_method_5_code 10 = .ok (.getfield 40, 3) := by decide +kernel
theorem dX6_held_13 : decode prog_8_method_5_code 13 = .ok (.aload_n 0, 1) := by decide +kernel
theorem dX6_held_14 : decode prog_8_method_5_code 14 = .ok (.getfield 15, 3) := by decide +kernel
theorem dX6_held_17 : decode prog_8_method_5_code 17 = .ok (.iload_n 1, 1) := by decide +kernel
theorem dX6_held_18 : decode prog_8_method_5_code 18 = .ok (.iaload, 1) := by decide +kernel
theorem dX6_held_19 : decode prog_8_method_5_code 19 = .ok (.isub, 1) := by decide +kernel
theorem dX6_held_20 : decode prog_8_method_5_code 20 = .ok (.goto 4, 3) := by decide +kernel
theorem dX6_held_23 : decode prog_8_method_5_code 23 = .ok (.iconst 0, 1) := by decide +kernel
theorem dX6_held_24 : decode prog_8_method_5_code 24 = .ok (.ireturn, 1) := by decide +kernel
theorem dX6_goOn_0 : decode prog_8_method_6_code 0 = .ok (.aload_n 0, 1) := by decide +kernel
theorem dX6_goOn_1 : decode prog_8_method_6_code 1 = .ok (.getfield 9, 3) := by decide +kernel
theorem dX6_goOn_4 : decode prog_8_method_6_code 4 = .ok (.iload_n 1, 1) := by decide +kernel
theorem dX6_goOn_5 : decode prog_8_method_6_code 5 = .ok (.iconst 0, 1) := by decide +kernel
theorem dX6_goOn_6 : decode prog_8_method_6_code 6 = .ok (.iastore, 1) := by decide +kernel
theorem dX6_goOn_7 : decode prog_8_method_6_code 7 = .ok (.aload_n 0, 1) := by decide +kernel
theorem dX6_goOn_8 : decode prog_8_method_6_code 8 = .ok (.getfield 15, 3) := by decide +kernel
theorem dX6_goOn_11 : decode prog_8_method_6_code 11 = .ok (.iload_n 1, 1) := by decide +kernel
theorem dX6_goOn_12 : decode prog_8_method_6_code 12 = .ok (.iconst 0, 1) := by decide +kernel
theorem dX6_goOn_13 : decode prog_8_method_6_code 13 = .ok (.iastore, 1) := by decide +kernel
theorem dX6_goOn_14 : decode prog_8_method_6_code 14 = .ok (.aload_n 0, 1) := by decide +kernel
theorem dX6_goOn_15 : decode prog_8_method_6_code 15 = .ok (.getfield 18, 3) := by decide +kernel
theorem dX6_goOn_18 : decode prog_8_method_6_code 18 = .ok (.iload_n 1, 1) := by decide +kernel
theorem dX6_goOn_19 : decode prog_8_method_6_code 19 = .ok (.iload_n 2, 1) := by decide +kernel
theorem dX6_goOn_20 : decode prog_8_method_6_code 20 = .ok (.iastore, 1) := by decide +kernel
theorem dX6_goOn_21 : decode prog_8_method_6_code 21 = .ok (.return_, 1) := by decide +kernel
theorem dX6_countPawned_0 : decode prog_8_method_7_code 0 = .ok (.iconst 0, 1) := by decide +kernel
theorem dX6_countPawned_1 : decode prog_8_method_7_code 1 = .ok (.istore_n 1, 1) := by decide +kernel
theorem dX6_countPawned_2 : decode prog_8_method_7_code 2 = .ok (.iconst 0, 1) := by decide +kernel
theorem dX6_countPawned_3 : decode prog_8_method_7_code 3 = .ok (.istore_n 2, 1) := by decide +kernel
theorem dX6_countPawned_4 : decode prog_8_method_7_code 4 = .ok (.iload_n 2, 1) := by decide +kernel
theorem dX6_countPawned_5 : decode prog_8_method_7_code 5 = .ok (.aload_n 0, 1) := by decide +kernel
theorem dX6_countPawned_6 : decode prog_8_method_7_code 6 = .ok (.getfield 31, 3) := by decide +kernel
theorem dX6_countPawned_9 : decode prog_8_method_7_code 9 = .ok (.if_icmp .ge 22, 3) := by decide +kernel
theorem dX6_countPawned_12 : decode prog_8_method_7_code 12 = .ok (.aload_n 0, 1) := by decide +kernel
theorem dX6_countPawned_13 : decode prog_8_method_7_code 13 = .ok (.getfield 9, 3) := by decide +kernel
theorem dX6_countPawned_16 : decode prog_8_method_7_code 16 = .ok (.iload_n 2, 1) := by decide +kernel
theorem dX6_countPawned_17 : decode prog_8_method_7_code 17 = .ok (.iaload, 1) := by decide +kernel
theorem dX6_countPawned_18 : decode prog_8_method_7_code 18 = .ok (.iconst 1, 1) := by decide +kernel
theorem dX6_countPawned_19 : decode prog_8_method_7_code 19 = .ok (.if_icmp .ne 6, 3) := by decide +kernel
theorem dX6_countPawned_22 : decode prog_8_method_7_code 22 = .ok (.iinc 1 1, 3) := by decide +kernel
theorem dX6_countPawned_25 : decode prog_8_method_7_code 25 = .ok (.iinc 2 1, 3) := by decide +kernel
theorem dX6_countPawned_28 : decode prog_8_method_7_code 28 = .ok (.goto (-24), 3) := by decide +kernel
theorem dX6_countPawned_31 : decode prog_8_method_7_code 31 = .ok (.iload_n 1, 1) := by decide +kernel
theorem dX6_countPawned_32 : decode prog_8_method_7_code 32 = .ok (.ireturn, 1) := by decide +kernel
theorem dX6_draw_0 : decode prog_8_method_8_code 0 = .ok (.iload_n 1, 1) := by decide +kernel
theorem dX6_draw_1 : decode prog_8_method_8_code 1 = .ok (.ifCond .le 12, 3) := by decide +kernel
theorem dX6_draw_4 : decode prog_8_method_8_code 4 = .ok (.aload_n 0, 1) := by decide +kernel
theorem dX6_draw_5 : decode prog_8_method_8_code 5 = .ok (.getfield 21, 3) := by decide +kernel
theorem dX6_draw_8 : decode prog_8_method_8_code 8 = .ok (.iload_n 1, 1) := by decide +kernel
theorem dX6_draw_9 : decode prog_8_method_8_code 9 = .ok (.irem, 1) := by decide +kernel
theorem dX6_draw_10 : decode prog_8_method_8_code 10 = .ok (.goto 4, 3) := by decide +kernel
theorem dX6_draw_13 : decode prog_8_method_8_code 13 = .ok (.iconst 0, 1) := by decide +kernel
theorem dX6_draw_14 : decode prog_8_method_8_code 14 = .ok (.istore_n 2, 1) := by decide +kernel
theorem dX6_draw_15 : decode prog_8_method_8_code 15 = .ok (.aload_n 0, 1) := by decide +kernel
theorem dX6_draw_16 : decode prog_8_method_8_code 16 = .ok (.aload_n 0, 1) := by decide +kernel
theorem dX6_draw_17 : decode prog_8_method_8_code 17 = .ok (.getfield 21, 3) := by decide +kernel
theorem dX6_draw_20 : decode prog_8_method_8_code 20 = .ok (.sipush 619, 3) := by decide +kernel
theorem dX6_draw_23 : decode prog_8_method_8_code 23 = .ok (.imul, 1) := by decide +kernel
theorem dX6_draw_24 : decode prog_8_method_8_code 24 = .ok (.sipush 493, 3) := by decide +kernel
theorem dX6_draw_27 : decode prog_8_method_8_code 27 = .ok (.iadd, 1) := by decide +kernel
theorem dX6_draw_28 : decode prog_8_method_8_code 28 = .ok (.sipush 30871, 3) := by decide +kernel
theorem dX6_draw_31 : decode prog_8_method_8_code 31 = .ok (.irem, 1) := by decide +kernel
theorem dX6_draw_32 : decode prog_8_method_8_code 32 = .ok (.putfield 21, 3) := by decide +kernel
theorem dX6_draw_35 : decode prog_8_method_8_code 35 = .ok (.iload_n 2, 1) := by decide +kernel
theorem dX6_draw_36 : decode prog_8_method_8_code 36 = .ok (.ireturn, 1) := by decide +kernel
theorem sp_X6_has {q : Int} (h : ST S R a) (hq : Rg q) (hb : SB I a) (hp : ∀ r, (r = 1 ∧ 0 ≤ q ∧ q < I a 3 ∨ r = 0 ∧ ¬ (0 ≤ q ∧ q < I a 3)) → Post (some (.int (iI r))) S I R) : Call n 0 0 mX6_has [.ref (S.2.1 a), .int (iI q)] S I R Post := by
  obtain ⟨o1, o2, o3, o4, o5, o6, o7⟩ := h
  obtain ⟨b3, b4, b5, b6, b7, b8, bh, bs, bt⟩ := hb
  refine Call.of (by decide +kernel) (Nat.le_of_ble_eq_true rfl) ?_
  show WP _ _ _ _ _ 0 [(0, _), (1, _)] [] 0 0 _ _ _
  refine x_iload_n dX6_has_0 rfl ?_
  refine x_if_lt 16 dX6_has_1 (by decide) (by omega) (fun w1 => ?_) (fun w1 => ?_)
  · refine x_iconst dX6_has_16 ?_
    exact x_zreturn (by omega) dX6_has_17 rfl (by omega) (by omega) (hp _ (by omega))
  · refine x_iload_n dX6_has_4 rfl ?_
    refine x_aload_n dX6_has_5 rfl ?_
    refine x_getI dX6_has_6 gf_RX6_31 (by first | assumption | omega) (fun _ _ => rfl) ?_
    refine x_icmp_ge 16 dX6_has_9 (by decide) ⟨(by omega), (by omega)⟩ (fun w9 => ?_) (fun w9 => ?_)
    · refine x_iconst dX6_has_16 ?_
      exact x_zreturn (by omega) dX6_has_17 rfl (by omega) (by omega) (hp _ (by omega))
    · refine x_iconst dX6_has_12 ?_
      refine x_goto 17 dX6_has_13 (by decide) ?_
      exact x_zreturn (by omega) dX6_has_17 rfl (by omega) (by omega) (hp _ (by omega))
theorem sp_X6_isHow {q w : Int} (h : ST S R a) (hq : Rg q) (hw : Rg w) (hb : SB I a) (hn : 1 ≤ n) (hp : ∀ r, (r = 1 ∧ 0 ≤ q ∧ q < I a 3 ∧ I (a + 1) q.toNat = w ∨ r = 0 ∧ ¬ (0 ≤ q ∧ q < I a 3 ∧ I (a + 1) q.toNat = w)) → Post (some (.int (iI r))) S I R) : Call n 0 0 mX6_isHow [.ref (S.2.1 a), .int (iI q), .int (iI w)] S I R Post := by
  have h' := h
  have hb' := hb
  obtain ⟨o1, o2, o3, o4, o5, o6, o7⟩ := h
  obtain ⟨b3, b4, b5, b6, b7, b8, bh, bs, bt⟩ := hb
  refine Call.of (by decide +kernel) (Nat.le_of_ble_eq_true rfl) ?_
  show WP _ _ _ _ _ 0 [(0, _), (1, _), (2, _)] [] 0 0 _ _ _
  refine x_aload_n dX6_isHow_0 rfl ?_
  refine x_iload_n dX6_isHow_1 rfl ?_
  refine x_callV1 (mc1 := 0) (ms1 := 0) dX6_isHow_2 cv_RX6_46 (ci := 6) (by first | assumption | omega) rfl (Nat.le_of_ble_eq_true rfl) (n1 := n - 1) (by omega) (by omega) (by omega) ?_
  refine sp_X6_has (by assumption) (by omega) (by assumption) (fun r2 hr2 => ?_)
  refine x_if_eq 22 dX6_isHow_5 (by decide) (by omega) (fun w5 => ?_) (fun w5 => ?_)
  · refine x_iconst dX6_isHow_22 ?_
    exact x_zreturn (by omega) dX6_isHow_23 rfl (by omega) (by omega) (hp _ (by omega))
  · refine x_aload_n dX6_isHow_8 rfl ?_
    refine x_getR dX6_isHow_9 gf_RX6_9 (by first | assumption | omega) (fun _ _ => rfl) (by first | assumption | rfl) ?_
    have g1 := bh q.toNat (by omega)
    refine x_iload_n dX6_isHow_12 rfl ?_
    refine x_iaload dX6_isHow_13 (by first | assumption | omega) (by omega) (by omega) ?_
    refine x_iload_n dX6_isHow_14 rfl ?_
    refine x_icmp_ne 22 dX6_isHow_15 (by decide) ⟨(by omega), (by omega)⟩ (fun w15 => ?_) (fun w15 => ?_)
    · refine x_iconst dX6_isHow_22 ?_
      exact x_zreturn (by omega) dX6_isHow_23 rfl (by omega) (by omega) (hp _ (by omega))
    · refine x_iconst dX6_isHow_18 ?_
      refine x_goto 23 dX6_isHow_19 (by decide) ?_
      exact x_zreturn (by omega) dX6_isHow_23 rfl (by omega) (by omega) (hp _ (by omega))
theorem sp_X6_held {q : Int} (h : ST S R a) (hq : Rg q) (hb : SB I a) (hn : 2 ≤ n) (hp : ∀ r, (0 ≤ q ∧ q < I a 3 ∧ I (a + 1) q.toNat = 1 ∧ r = I a 6 - I (a + 2) q.toNat ∨ r = 0 ∧ ¬ (0 ≤ q ∧ q < I a 3 ∧ I (a + 1) q.toNat = 1)) → Post (some (.int (iI r))) S I R) : Call n 0 0 mX6_held [.ref (S.2.1 a), .int (iI q)] S I R Post := by
  have h' := h
  have hb' := hb
  obtain ⟨o1, o2, o3, o4, o5, o6, o7⟩ := h
  obtain ⟨b3, b4, b5, b6, b7, b8, bh, bs, bt⟩ := hb
  refine Call.of (by decide +kernel) (Nat.le_of_ble_eq_true rfl) ?_
  show WP _ _ _ _ _ 0 [(0, _), (1, _)] [] 0 0 _ _ _
  refine x_aload_n dX6_held_0 rfl ?_
  refine x_iload_n dX6_held_1 rfl ?_
  refine x_iconst dX6_held_2 ?_
  refine x_callV2 (mc1 := 0) (ms1 := 0) dX6_held_3 cv_RX6_50 (ci := 6) (by first | assumption | omega) rfl (Nat.le_of_ble_eq_true rfl) (n1 := n - 1) (by omega) (by omega) (by omega) ?_
  refine sp_X6_isHow (by assumption) (by omega) (by omega) (by assumption) (by omega) (fun r3 hr3 => ?_)
  refine x_if_eq 23 dX6_held_6 (by decide) (by omega) (fun w6 => ?_) (fun w6 => ?_)
  · refine x_iconst dX6_held_23 ?_
    exact x_ireturn dX6_held_24 rfl (by omega) (by omega) (hp _ (by omega))
  · refine x_aload_n dX6_held_9 rfl ?_
    refine x_getI dX6_held_10 gf_RX6_40 (by first | assumption | omega) (fun _ _ => rfl) ?_
    refine x_aload_n dX6_held_13 rfl ?_
    refine x_getR dX6_held_14 gf_RX6_15 (by first | assumption | omega) (fun _ _ => rfl) (by first | assumption | rfl) ?_
    refine x_iload_n dX6_held_17 rfl ?_
    refine x_iaload dX6_held_18 (by first | assumption | omega) (by omega) (by omega) ?_
    refine x_isub dX6_held_19 ?_
    refine x_goto 24 dX6_held_20 (by decide) ?_
    exact x_ireturn dX6_held_24 rfl (by omega) (by omega) (hp _ (by omega))
theorem sp_X6_goOn {q t : Int} (h : ST S R a) (hq : 0 ≤ q ∧ q < 8) (hp : Post none S (uI (uI (uI I (a + 1) q.toNat 0) (a + 2) q.toNat 0) (a + 3) q.toNat t) R) : Call n 0 0 mX6_goOn [.ref (S.2.1 a), .int (iI q), .int (iI t)] S I R Post := by
  obtain ⟨o1, o2, o3, o4, o5, o6, o7⟩ := h
  refine Call.of (by decide +kernel) (Nat.le_of_ble_eq_true rfl) ?_
  show WP _ _ _ _ _ 0 [(0, _), (1, _), (2, _)] [] 0 0 _ _ _
  refine x_aload_n dX6_goOn_0 rfl ?_
  refine x_getR dX6_goOn_1 gf_RX6_9 (by first | assumption | omega) (fun _ _ => rfl) (by first | assumption | rfl) ?_
  refine x_iload_n dX6_goOn_4 rfl ?_
  refine x_iconst dX6_goOn_5 ?_
  refine x_iastore dX6_goOn_6 (by first | assumption | omega) (by omega) (by omega) ?_
  refine x_aload_n dX6_goOn_7 rfl ?_
  refine x_getR dX6_goOn_8 gf_RX6_15 (by first | assumption | omega) (fun _ _ => rfl) (by first | assumption | rfl) ?_
  refine x_iload_n dX6_goOn_11 rfl ?_
  refine x_iconst dX6_goOn_12 ?_
  refine x_iastore dX6_goOn_13 (by first | assumption | omega) (by omega) (by omega) ?_
  refine x_aload_n dX6_goOn_14 rfl ?_
  refine x_getR dX6_goOn_15 gf_RX6_18 (by first | assumption | omega) (fun _ _ => rfl) (by first | assumption | rfl) ?_
  refine x_iload_n dX6_goOn_18 rfl ?_
  refine x_iload_n dX6_goOn_19 rfl ?_
  refine x_iastore dX6_goOn_20 (by first | assumption | omega) (by omega) (by omega) ?_
  exact x_return dX6_goOn_21 rfl (by omega) (by omega) (hp)
def cnt1 (f : Nat → Int) : Nat → Int
  | 0 => 0
  | n + 1 => cnt1 f n + (if f n = 1 then 1 else 0)
theorem cnt1_b (f : Nat → Int) : ∀ n : Nat, 0 ≤ cnt1 f n ∧ cnt1 f n ≤ n := by
  intro n
  induction n with
  | zero => simp [cnt1]
  | succ n ih => simp only [cnt1]; split <;> omega
theorem cnt1_congr {f g : Nat → Int} : ∀ {n : Nat}, (∀ i, i < n → f i = g i) → cnt1 f n = cnt1 g n := by
  intro n
  induction n with
  | zero => intro _; rfl
  | succ n ih => intro h; simp only [cnt1]; rw [ih (fun i hi => h i (by omega)), h n (by omega)]
theorem lp_X6_countPawned (h : ST S R a) (hb : SB I a) (hp : Post (some (.int (iI (cnt1 (I (a + 1)) (I a 3).toNat)))) S I R) : ∀ (m : Nat) (i c : Int), 0 ≤ i → i ≤ I a 3 → (I a 3 - i).toNat = m → c = cnt1 (I (a + 1)) i.toNat → WP n 0 0 mX6_countPawned Post 4 [(0, .ref (S.2.1 a)), (1, .int (iI c)), (2, .int (iI i))] [] 0 0 S I R := by
  obtain ⟨o1, o2, o3, o4, o5, o6, o7⟩ := h
  obtain ⟨b3, b4, b5, b6, b7, b8, bh, bs, bt⟩ := hb
  intro m
  induction m using Nat.strongRecOn with
  | ind m ih =>
    intro i c i0 i1 i2 ic
    refine x_iload_n dX6_countPawned_4 rfl ?_
    refine x_aload_n dX6_countPawned_5 rfl ?_
    refine x_getI dX6_countPawned_6 gf_RX6_31 (by first | assumption | omega) (fun _ _ => rfl) ?_
    refine x_icmp_ge 31 dX6_countPawned_9 (by decide) ⟨(by omega), (by omega)⟩ (fun w9 => ?_) (fun w9 => ?_)
    · refine x_iload_n dX6_countPawned_31 rfl ?_
      exact x_ireturn dX6_countPawned_32 rfl (by omega) (by omega) (by rw [ic, show i = I a 3 by omega]; exact hp)
    · have g1 := bh i.toNat (by omega)
      refine x_aload_n dX6_countPawned_12 rfl ?_
      refine x_getR dX6_countPawned_13 gf_RX6_9 (by first | assumption | omega) (fun _ _ => rfl) (by first | assumption | rfl) ?_
      refine x_iload_n dX6_countPawned_16 rfl ?_
      refine x_iaload dX6_countPawned_17 (by first | assumption | omega) (by omega) (by omega) ?_
      refine x_iconst dX6_countPawned_18 ?_
      refine x_icmp_ne 25 dX6_countPawned_19 (by decide) ⟨(by omega), (by omega)⟩ (fun w19 => ?_) (fun w19 => ?_)
      · refine x_iinc (lv2 := [(2, _), (0, _), (1, _)]) dX6_countPawned_25 rfl (by decide) rfl ?_
        refine x_goto 4 dX6_countPawned_28 (by decide) ?_
        refine x_sub [1, 2, 0] rfl ?_
        exact ih _ (by omega) _ _ (by omega) (by omega) rfl (by rw [show (i + 1).toNat = i.toNat + 1 by omega]; simp only [cnt1]; first | (rw [if_pos (by omega)]; omega) | (rw [if_neg (by omega)]; omega))
      · refine x_iinc (lv2 := [(1, _), (0, _), (2, _)]) dX6_countPawned_22 rfl (by decide) rfl ?_
        refine x_iinc (lv2 := [(2, _), (1, _), (0, _)]) dX6_countPawned_25 rfl (by decide) rfl ?_
        refine x_goto 4 dX6_countPawned_28 (by decide) ?_
        refine x_sub [2, 1, 0] rfl ?_
        exact ih _ (by omega) _ _ (by omega) (by omega) rfl (by rw [show (i + 1).toNat = i.toNat + 1 by omega]; simp only [cnt1]; first | (rw [if_pos (by omega)]; omega) | (rw [if_neg (by omega)]; omega))
theorem sp_X6_countPawned (h : ST S R a) (hb : SB I a) (hp : Post (some (.int (iI (cnt1 (I (a + 1)) (I a 3).toNat)))) S I R) : Call n 0 0 mX6_countPawned [.ref (S.2.1 a)] S I R Post := by
  have h' := h
  have hb' := hb
  obtain ⟨o1, o2, o3, o4, o5, o6, o7⟩ := h
  obtain ⟨b3, b4, b5, b6, b7, b8, bh, bs, bt⟩ := hb
  refine Call.of (by decide +kernel) (Nat.le_of_ble_eq_true rfl) ?_
  show WP _ _ _ _ _ 0 [(0, _)] [] 0 0 _ _ _
  refine x_iconst dX6_countPawned_0 ?_
  refine x_istore_n (lv2 := [(1, _), (0, _)]) dX6_countPawned_1 (by decide) rfl ?_
  refine x_iconst dX6_countPawned_2 ?_
  refine x_istore_n (lv2 := [(2, _), (1, _), (0, _)]) dX6_countPawned_3 (by decide) rfl ?_
  refine x_sub [2, 1, 0] rfl ?_
  exact lp_X6_countPawned h' hb' hp _ 0 0 (by omega) (by omega) rfl rfl
theorem sp_X6_draw {q : Int} (h : ST S R a) (hb : SB I a) (hq : Rg q) (hp : ∀ r x, x = (I a 7 * 619 + 493) % 30871 → (0 < q ∧ r = I a 7 % q ∨ q ≤ 0 ∧ r = 0) → Post (some (.int (iI r))) S (uI I a 7 x) R) : Call n 0 0 mX6_draw [.ref (S.2.1 a), .int (iI q)] S I R Post := by
  obtain ⟨o1, o2, o3, o4, o5, o6, o7⟩ := h
  obtain ⟨b3, b4, b5, b6, b7, b8, bh, bs, bt⟩ := hb
  refine Call.of (by decide +kernel) (Nat.le_of_ble_eq_true rfl) ?_
  show WP _ _ _ _ _ 0 [(0, _), (1, _)] [] 0 0 _ _ _
  refine x_iload_n dX6_draw_0 rfl ?_
  refine x_if_le 13 dX6_draw_1 (by decide) (by omega) (fun w1 => ?_) (fun w1 => ?_)
  · refine x_iconst dX6_draw_13 ?_
    refine x_istore_n (lv2 := [(2, _), (0, _), (1, _)]) dX6_draw_14 (by decide) rfl ?_
    refine x_aload_n dX6_draw_15 rfl ?_
    refine x_aload_n dX6_draw_16 rfl ?_
    refine x_getI dX6_draw_17 gf_RX6_21 (by first | assumption | omega) (fun _ _ => rfl) ?_
    refine x_sipush dX6_draw_20 (by decide) ?_
    refine x_imul dX6_draw_23 ?_
    refine x_sipush dX6_draw_24 (by decide) ?_
    refine x_iadd dX6_draw_27 ?_
    refine x_sipush dX6_draw_28 (by decide) ?_
    refine x_irem dX6_draw_31 (by omega) ?_
    refine x_putI dX6_draw_32 gf_RX6_21 (by first | assumption | omega) rfl ?_
    refine x_iload_n dX6_draw_35 rfl ?_
    exact x_ireturn dX6_draw_36 rfl (by omega) (by omega) (hp _ _ rfl (by omega))
  · refine x_aload_n dX6_draw_4 rfl ?_
    refine x_getI dX6_draw_5 gf_RX6_21 (by first | assumption | omega) (fun _ _ => rfl) ?_
    refine x_iload_n dX6_draw_8 rfl ?_
    refine x_irem dX6_draw_9 (by omega) ?_
    refine x_goto 14 dX6_draw_10 (by decide) ?_
    refine x_istore_n (lv2 := [(2, _), (0, _), (1, _)]) dX6_draw_14 (by decide) rfl ?_
    refine x_aload_n dX6_draw_15 rfl ?_
    refine x_aload_n dX6_draw_16 rfl ?_
    refine x_getI dX6_draw_17 gf_RX6_21 (by first | assumption | omega) (fun _ _ => rfl) ?_
    refine x_sipush dX6_draw_20 (by decide) ?_
    refine x_imul dX6_draw_23 ?_
    refine x_sipush dX6_draw_24 (by decide) ?_
    refine x_iadd dX6_draw_27 ?_
    refine x_sipush dX6_draw_28 (by decide) ?_
    refine x_irem dX6_draw_31 (by omega) ?_
    refine x_putI dX6_draw_32 gf_RX6_21 (by first | assumption | omega) rfl ?_
    refine x_iload_n dX6_draw_35 rfl ?_
    exact x_ireturn dX6_draw_36 rfl (by omega) (by omega) (hp _ _ rfl (by omega))
theorem dX6_take_0 : decode prog_8_method_2_code 0 = .ok (.aload_n 1, 1) := by decide +kernel
theorem dX6_take_1 : decode prog_8_method_2_code 1 = .ok (.getfield 9, 3) := by decide +kernel
theorem dX6_take_4 : decode prog_8_method_2_code 4 = .ok (.iconst 0, 1) := by decide +kernel
theorem dX6_take_5 : decode prog_8_method_2_code 5 = .ok (.aload_n 0, 1) := by decide +kernel
theorem dX6_take_6 : decode prog_8_method_2_code 6 = .ok (.getfield 9, 3) := by decide +kernel
theorem dX6_take_9 : decode prog_8_method_2_code 9 = .ok (.iconst 0, 1) := by decide +kernel
theorem dX6_take_10 : decode prog_8_method_2_code 10 = .ok (.bipush 8, 2) := by decide +kernel
theorem dX6_take_12 : decode prog_8_method_2_code 12 = .ok (.invokestatic 25, 3) := by decide +kernel
theorem dX6_take_15 : decode prog_8_method_2_code 15 = .ok (.aload_n 1, 1) := by decide +kernel
theorem dX6_take_16 : decode prog_8_method_2_code 16 = .ok (.getfield 15, 3) := by decide +kernel
theorem dX6_take_19 : decode prog_8_method_2_code 19 = .ok (.iconst 0, 1) := by decide +kernel
theorem dX6_take_20 : decode prog_8_method_2_code 20 = .ok (.aload_n 0, 1) := by decide +kernel
theorem dX6_take_21 : decode prog_8_method_2_code 21 = .ok (.getfield 15, 3) := by decide +kernel
theorem dX6_take_24 : decode prog_8_method_2_code 24 = .ok (.iconst 0, 1) := by decide +kernel
theorem dX6_take_25 : decode prog_8_method_2_code 25 = .ok (.bipush 8, 2) := by decide +kernel
theorem dX6_take_27 : decode prog_8_method_2_code 27 = .ok (.invokestatic 25, 3) := by decide +kernel
theorem dX6_take_30 : decode prog_8_method_2_code 30 = .ok (.aload_n 1, 1) := by decide +kernel
theorem dX6_take_31 : decode prog_8_method_2_code 31 = .ok (.getfield 18, 3) := by decide +kernel
theorem dX6_take_34 : decode prog_8_method_2_code 34 = .ok (.iconst 0, 1) := by decide +kernel
theorem dX6_take_35 : decode prog_8_method_2_code 35 = .ok (.aload_n 0, 1) := by decide +kernel
theorem dX6_take_36 : decode prog_8_method_2_code 36 = .ok (.getfield 18, 3) := by decide +kernel
theorem dX6_take_39 : decode prog_8_method_2_code 39 = .ok (.iconst 0, 1) := by decide +kernel
theorem dX6_take_40 : decode prog_8_method_2_code 40 = .ok (.bipush 8, 2) := by decide +kernel
theorem dX6_take_42 : decode prog_8_method_2_code 42 = .ok (.invokestatic 25, 3) := by decide +kernel
theorem dX6_take_45 : decode prog_8_method_2_code 45 = .ok (.aload_n 0, 1) := by decide +kernel
theorem dX6_take_46 : decode prog_8_method_2_code 46 = .ok (.aload_n 1, 1) := by decide +kernel
theorem dX6_take_47 : decode prog_8_method_2_code 47 = .ok (.getfield 31, 3) := by decide +kernel
theorem dX6_take_50 : decode prog_8_method_2_code 50 = .ok (.putfield 31, 3) := by decide +kernel
theorem dX6_take_53 : decode prog_8_method_2_code 53 = .ok (.aload_n 0, 1) := by decide +kernel
theorem dX6_take_54 : decode prog_8_method_2_code 54 = .ok (.aload_n 1, 1) := by decide +kernel
theorem dX6_take_55 : decode prog_8_method_2_code 55 = .ok (.getfield 34, 3) := by decide +kernel
theorem dX6_take_58 : decode prog_8_method_2_code 58 = .ok (.putfield 34, 3) := by decide +kernel
theorem dX6_take_61 : decode prog_8_method_2_code 61 = .ok (.aload_n 0, 1) := by decide +kernel
theorem dX6_take_62 : decode prog_8_method_2_code 62 = .ok (.aload_n 1, 1) := by decide +kernel
theorem dX6_take_63 : decode prog_8_method_2_code 63 = .ok (.getfield 37, 3) := by decide +kernel
theorem dX6_take_66 : decode prog_8_method_2_code 66 = .ok (.putfield 37, 3) := by decide +kernel
theorem dX6_take_69 : decode prog_8_method_2_code 69 = .ok (.aload_n 0, 1) := by decide +kernel
theorem dX6_take_70 : decode prog_8_method_2_code 70 = .ok (.aload_n 1, 1) := by decide +kernel
theorem dX6_take_71 : decode prog_8_method_2_code 71 = .ok (.getfield 40, 3) := by decide +kernel
theorem dX6_take_74 : decode prog_8_method_2_code 74 = .ok (.putfield 40, 3) := by decide +kernel
theorem dX6_take_77 : decode prog_8_method_2_code 77 = .ok (.aload_n 0, 1) := by decide +kernel
theorem dX6_take_78 : decode prog_8_method_2_code 78 = .ok (.aload_n 1, 1) := by decide +kernel
theorem dX6_take_79 : decode prog_8_method_2_code 79 = .ok (.getfield 21, 3) := by decide +kernel
theorem dX6_take_82 : decode prog_8_method_2_code 82 = .ok (.putfield 21, 3) := by decide +kernel
theorem dX6_take_85 : decode prog_8_method_2_code 85 = .ok (.aload_n 0, 1) := by decide +kernel
theorem dX6_take_86 : decode prog_8_method_2_code 86 = .ok (.aload_n 1, 1) := by decide +kernel
theorem dX6_take_87 : decode prog_8_method_2_code 87 = .ok (.getfield 43, 3) := by decide +kernel
theorem dX6_take_90 : decode prog_8_method_2_code 90 = .ok (.putfield 43, 3) := by decide +kernel
theorem dX6_take_93 : decode prog_8_method_2_code 93 = .ok (.return_, 1) := by decide +kernel
def stCp (I : CI) (a b : Nat) : CI := fun c i => if c = a then (if 3 ≤ i ∧ i ≤ 8 then I b i else I a i) else if a < c ∧ c ≤ a + 3 ∧ i < 8 then I (b + (c - a)) i else I c i
theorem stCp_eq {I : CI} {a b : Nat} (hab : a + 3 < b ∨ b + 3 < a) : uI (uI (uI (uI (uI (uI (cpI (cpI (cpI I (b + 1) (a + 1) 0 0 8) (b + 2) (a + 2) 0 0 8) (b + 3) (a + 3) 0 0 8) a 3 (I b 3)) a 4 (I b 4)) a 5 (I b 5)) a 6 (I b 6)) a 7 (I b 7)) a 8 (I b 8) = stCp I a b := by
  funext c i
  by_cases c1 : c = a
  · subst c1
    rw [show stCp I c b c i = (if 3 ≤ i ∧ i ≤ 8 then I b i else I c i) by simp [stCp]]
    by_cases i1 : 3 ≤ i ∧ i ≤ 8
    · rw [if_pos i1]
      rcases (show i = 3 ∨ i = 4 ∨ i = 5 ∨ i = 6 ∨ i = 7 ∨ i = 8 by omega) with rfl | rfl | rfl | rfl | rfl | rfl <;> (repeat first | rw [uI_s] | rw [uI_o (Or.inr (by decide))])
    · rw [if_neg i1, uI_o (by omega), uI_o (by omega), uI_o (by omega), uI_o (by omega), uI_o (by omega), uI_o (by omega), cpI_o (by omega), cpI_o (by omega), cpI_o (by omega)]
  · rw [uI_o (Or.inl c1), uI_o (Or.inl c1), uI_o (Or.inl c1), uI_o (Or.inl c1), uI_o (Or.inl c1), uI_o (Or.inl c1)]
    unfold stCp
    rw [if_neg c1]
    by_cases c2 : a < c ∧ c ≤ a + 3 ∧ i < 8
    · rw [if_pos c2]
      rcases (show c = a + 1 ∨ c = a + 2 ∨ c = a + 3 by omega) with rfl | rfl | rfl
      · rw [cpI_o (by omega), cpI_o (by omega), cpI_s (by omega)]; congr 1 <;> omega
      · rw [cpI_o (by omega), cpI_s (by omega), cpI_o (by omega)]; congr 1 <;> omega
      · rw [cpI_s (by omega), cpI_o (by omega), cpI_o (by omega)]; congr 1 <;> omega
    · rw [if_neg c2]
      by_cases c3 : c = a + 3
      · subst c3; rw [cpI_n (by omega), cpI_o (by omega), cpI_o (by omega)]
      · rw [cpI_o c3]
        by_cases c4 : c = a + 2
        · subst c4; rw [cpI_n (by omega), cpI_o (by omega)]
        · rw [cpI_o c4]
          by_cases c5 : c = a + 1
          · subst c5; rw [cpI_n (by omega)]
          · rw [cpI_o c5]
theorem cw_X6_25 : Cond.methodLink RX6 25 arraycopyName ∈ bigW ∧ Cond.native arraycopyName ∈ bigW ∧ Cond.static arraycopyName ∈ bigW ∧ Cond.initialized "java/lang/System" ∈ bigW := ⟨bw_in (lwt_2 (List.mem_of_getElem? (i := 201) rfl)) rfl, bw_in (lwt_2 (List.mem_of_getElem? (i := 196) rfl)) rfl, bw_in (lwt_2 (List.mem_of_getElem? (i := 195) rfl)) rfl, bw_in (lwt_1 (List.mem_of_getElem? (i := 12) rfl)) rfl⟩
theorem sp_X6_take {b : Nat} (h : ST S R a) (h2 : ST S R b) (hab : a + 3 < b ∨ b + 3 < a) (hn : 1 ≤ n) (hp : Post none S (stCp I a b) R) : Call n 0 0 mX6_take [.ref (S.2.1 a), .ref (S.2.1 b)] S I R Post := by
  obtain ⟨o1, o2, o3, o4, o5, o6, o7⟩ := h
  obtain ⟨u1, u2, u3, u4, u5, u6, u7⟩ := h2
  refine Call.of (by decide +kernel) (Nat.le_of_ble_eq_true rfl) ?_
  show WP _ _ _ _ _ 0 [(0, _), (1, _)] [] 0 0 _ _ _
  refine x_aload_n dX6_take_0 rfl ?_
  refine x_getR dX6_take_1 gf_RX6_9 (by first | assumption | omega) (fun _ _ => rfl) (by first | assumption | rfl) ?_
  refine x_iconst dX6_take_4 ?_
  refine x_aload_n dX6_take_5 rfl ?_
  refine x_getR dX6_take_6 gf_RX6_9 (by first | assumption | omega) (fun _ _ => rfl) (by first | assumption | rfl) ?_
  refine x_iconst dX6_take_9 ?_
  refine x_bipush dX6_take_10 (by decide) ?_
  refine x_copyi dX6_take_12 cw_X6_25 (by omega) (Nat.le_of_ble_eq_true rfl) (N0 := 8) (N1 := 8) (by first | assumption | omega) (by first | assumption | omega) (by omega) (by omega) (by omega) ?_
  refine x_aload_n dX6_take_15 rfl ?_
  refine x_getR dX6_take_16 gf_RX6_15 (by first | assumption | omega) (fun _ _ => rfl) (by first | assumption | rfl) ?_
  refine x_iconst dX6_take_19 ?_
  refine x_aload_n dX6_take_20 rfl ?_
  refine x_getR dX6_take_21 gf_RX6_15 (by first | assumption | omega) (fun _ _ => rfl) (by first | assumption | rfl) ?_
  refine x_iconst dX6_take_24 ?_
  refine x_bipush dX6_take_25 (by decide) ?_
  refine x_copyi dX6_take_27 cw_X6_25 (by omega) (Nat.le_of_ble_eq_true rfl) (N0 := 8) (N1 := 8) (by first | assumption | omega) (by first | assumption | omega) (by omega) (by omega) (by omega) ?_
  refine x_aload_n dX6_take_30 rfl ?_
  refine x_getR dX6_take_31 gf_RX6_18 (by first | assumption | omega) (fun _ _ => rfl) (by first | assumption | rfl) ?_
  refine x_iconst dX6_take_34 ?_
  refine x_aload_n dX6_take_35 rfl ?_
  refine x_getR dX6_take_36 gf_RX6_18 (by first | assumption | omega) (fun _ _ => rfl) (by first | assumption | rfl) ?_
  refine x_iconst dX6_take_39 ?_
  refine x_bipush dX6_take_40 (by decide) ?_
  refine x_copyi dX6_take_42 cw_X6_25 (by omega) (Nat.le_of_ble_eq_true rfl) (N0 := 8) (N1 := 8) (by first | assumption | omega) (by first | assumption | omega) (by omega) (by omega) (by omega) ?_
  refine x_aload_n dX6_take_45 rfl ?_
  refine x_aload_n dX6_take_46 rfl ?_
  refine x_getIv (z := I b 3) dX6_take_47 gf_RX6_31 (by first | assumption | omega) (fun _ _ => rfl) (by (repeat first | rw [uI_s] | rw [uI_o (by omega)] | rw [cpI_o (by omega)])) ?_
  refine x_putI dX6_take_50 gf_RX6_31 (by first | assumption | omega) rfl ?_
  refine x_aload_n dX6_take_53 rfl ?_
  refine x_aload_n dX6_take_54 rfl ?_
  refine x_getIv (z := I b 4) dX6_take_55 gf_RX6_34 (by first | assumption | omega) (fun _ _ => rfl) (by (repeat first | rw [uI_s] | rw [uI_o (by omega)] | rw [cpI_o (by omega)])) ?_
  refine x_putI dX6_take_58 gf_RX6_34 (by first | assumption | omega) rfl ?_
  refine x_aload_n dX6_take_61 rfl ?_
  refine x_aload_n dX6_take_62 rfl ?_
  refine x_getIv (z := I b 5) dX6_take_63 gf_RX6_37 (by first | assumption | omega) (fun _ _ => rfl) (by (repeat first | rw [uI_s] | rw [uI_o (by omega)] | rw [cpI_o (by omega)])) ?_
  refine x_putI dX6_take_66 gf_RX6_37 (by first | assumption | omega) rfl ?_
  refine x_aload_n dX6_take_69 rfl ?_
  refine x_aload_n dX6_take_70 rfl ?_
  refine x_getIv (z := I b 6) dX6_take_71 gf_RX6_40 (by first | assumption | omega) (fun _ _ => rfl) (by (repeat first | rw [uI_s] | rw [uI_o (by omega)] | rw [cpI_o (by omega)])) ?_
  refine x_putI dX6_take_74 gf_RX6_40 (by first | assumption | omega) rfl ?_
  refine x_aload_n dX6_take_77 rfl ?_
  refine x_aload_n dX6_take_78 rfl ?_
  refine x_getIv (z := I b 7) dX6_take_79 gf_RX6_21 (by first | assumption | omega) (fun _ _ => rfl) (by (repeat first | rw [uI_s] | rw [uI_o (by omega)] | rw [cpI_o (by omega)])) ?_
  refine x_putI dX6_take_82 gf_RX6_21 (by first | assumption | omega) rfl ?_
  refine x_aload_n dX6_take_85 rfl ?_
  refine x_aload_n dX6_take_86 rfl ?_
  refine x_getIv (z := I b 8) dX6_take_87 gf_RX6_43 (by first | assumption | omega) (fun _ _ => rfl) (by (repeat first | rw [uI_s] | rw [uI_o (by omega)] | rw [cpI_o (by omega)])) ?_
  refine x_putI dX6_take_90 gf_RX6_43 (by first | assumption | omega) rfl ?_
  exact x_return dX6_take_93 rfl (by omega) (by omega) (by rw [← stCp_eq hab] at hp; exact hp)
end StandM
