def ST (S : Sh) (R : CR) (a : Nat) : Prop := OB S a 6 ∧ R a 0 = some (a + 1) ∧ R a 1 = some (a + 2) ∧ R a 2 = some (a + 3) ∧ AR S (a + 1) 13 8 ∧ AR S (a + 2) 13 8 ∧ AR S (a + 3) 13 8
/-- what a stand holds is in its bounds -/
def SB (I : CI) (a : Nat) : Prop := (0 ≤ I a 3 ∧ I a 3 ≤ 8) ∧ (0 ≤ I a 4 ∧ I a 4 ≤ 9999) ∧ (0 ≤ I a 5 ∧ I a 5 ≤ 1) ∧ (0 ≤ I a 6 ∧ I a 6 ≤ 9999) ∧ (0 ≤ I a 7 ∧ I a 7 ≤ 30870) ∧ (0 ≤ I a 8 ∧ I a 8 ≤ 16) ∧ (∀ i, i < 8 → 0 ≤ I (a + 1) i ∧ I (a + 1) i ≤ 3) ∧ (∀ i, i < 8 → 0 ≤ I (a + 2) i ∧ I (a + 2) i ≤ I a 6) ∧ (∀ i, i < 8 → 0 ≤ I (a + 3) i ∧ I (a + 3) i ≤ 9)
section StandM
variable {n : Nat} {Post : PT} {S : Sh} {I : CI} {R : CR} {a : Nat}
theorem dX6_has_0 : decode prog_8_method_3_code 0 = .ok (.iload_n 1, 1) := by decide +kernel
theorem dX6_has_1 : decode prog_8_method_3_code 1 = .ok (.ifCond .lt 15, 3) := by decide +kernel
theorem dX6_has_4 : decode prog_8_method_3_code 4 = .ok (.iload_n 1, 1) := by decide +kernel
theorem dX6_has_5 : decode prog_8_method_3_code 5 = .ok (.aload_n 0, 1) := by decide +kernel
theorem dX6_has_6 : decode prog_8_method_3_code 6 = .ok (.getfield 31, 3) := by decide +kernel
theorem dX6_has_9 : decode prog_8_method_3_code 9 = .ok (.if_icmp .ge 7, 3) := by decide +kernel
theorem dX6_has_12 : decode prog_8_method_3_code 12 = .ok (.iconst 1, 1) := by decide +kernel
theorem dX6_has_13 : decode prog_8_method_3_code 13 = .ok (.goto 4, 3) := by decide +kernel
theorem dX6_has_16 : decode prog_8_method_3_code 16 = .ok (.iconst 0, 1) := by decide +kernel
theorem dX6_has_17 : decode prog_8_method_3_code 17 = .ok (.ireturn, 1) := by decide +kernel
theorem dX6_isHow_0 : decode prog_8_method_4_code 0 = .ok (.aload_n 0, 1) := by decide +kernel
theorem dX6_isHow_1 : decode prog_8_method_4_code 1 = .ok (.iload_n 1, 1) := by decide +kernel
theorem dX6_isHow_2 : decode prog_8_method_4_code 2 = .ok (.invokevirtual 46, 3) := by decide +kernel
theorem dX6_isHow_5 : decode prog_8_method_4_code 5 = .ok (.ifCond .eq 17, 3) := by decide +kernel
theorem dX6_isHow_8 : decode prog_8_method_4_code 8 = .ok (.aload_n 0, 1) := by decide +kernel
theorem dX6_isHow_9 : decode prog_8_method_4_code 9 = .ok (.getfield 9, 3) := by decide +kernel
theorem dX6_isHow_12 : decode prog_8_method_4_code 12 = .ok (.iload_n 1, 1) := by decide +kernel
theorem dX6_isHow_13 : decode prog_8_method_4_code 13 = .ok (.iaload, 1) := by decide +kernel
theorem dX6_isHow_14 : decode prog_8_method_4_code 14 = .ok (.iload_n 2, 1) := by decide +kernel
theorem dX6_isHow_15 : decode prog_8_method_4_code 15 = .ok (.if_icmp .ne 7, 3) := by decide +kernel
theorem dX6_isHow_18 : decode prog_8_method_4_code 18 = .ok (.iconst 1, 1) := by decide +kernel
theorem dX6_isHow_19 : decode prog_8_method_4_code 19 = .ok (.goto 4, 3) := by decide +kernel
theorem dX6_isHow_22 : decode prog_8_method_4_code 22 = .ok (.iconst 0, 1) := by decide +kernel
theorem dX6_isHow_23 : decode prog_8_method_4_code 23 = .ok (.ireturn, 1) := by decide +kernel
theorem dX6_held_0 : decode prog_8_method_5_code 0 = .ok (.aload_n 0, 1) := by decide +kernel
theorem dX6_held_1 : decode prog_8_method_5_code 1 = .ok (.iload_n 1, 1) := by decide +kernel
theorem dX6_held_2 : decode prog_8_method_5_code 2 = .ok (.iconst 1, 1) := by decide +kernel
theorem dX6_held_3 : decode prog_8_method_5_code 3 = .ok (.invokevirtual 50, 3) := by decide +kernel
theorem dX6_held_6 : decode prog_8_method_5_code 6 = .ok (.ifCond .eq 17, 3) := by decide +kernel
theorem dX6_held_9 : decode prog_8_method_5_code 9 = .ok (.aload_n 0, 1) := by decide +kernel
theorem dX6_held_10 : decode prog_8_method_5_code 10 = .ok (.getfield 40, 3) := by decide +kernel
theorem dX6_held_13 : decode prog_8_method_5_code 13 = .ok (.aload_n 0, 1) := by decide +kernel
theorem dX6_held_14 : decode prog_8_method_5_code 14 = .ok (.getfield 15, 3) := by decide +kernel
theorem dX6_held_17 : decode prog_8_method_5_code 17 = .ok (.iload_n 1, 1) := by decide +kernel
theorem dX6_held_18 : decode prog_8_method_5_code 18 = .ok (.iaload, 1) := by decide +kernel
theorem dX6_held_19 : decode prog_8_method_5_code 19 = .ok (.isub, 1) := by decide +kernel
theorem dX6_held_20 : decode prog_8_method_5_code 20 = .ok (.goto 4, 3) := by decide +kernel
theorem dX6_held_23 : decode prog_8_method_5_code 23 = .ok (.iconst 0, 1) := by decide +kernel
theorem dX6_held_24 : decode prog_8_method_5_code 24 = .ok (.ireturn, 1) := by decide +kernel
theorem dX6_goOn_0 : decode prog_8_method_6_code 0 = .ok (.aload_n 0, 1) := by decide +kernel
theorem dX6_goOn_1 : decode prog_8_method_6_code 1 = .ok (.getfield 9, 3) := by decide +kernel
theorem dX6_goOn_4 : decode prog_8_method_6_code 4 = .ok (.iload_n 1, 1) := by decide +kernel
theorem dX6_goOn_5 : decode prog_8_method_6_code 5 = .ok (.iconst 0, 1) := by decide +kernel
theorem dX6_goOn_6 : decode prog_8_method_6_code 6 = .ok (.iastore, 1) := by decide +kernel
theorem dX6_goOn_7 : decode prog_8_method_6_code 7 = .ok (.aload_n 0, 1) := by decide +kernel
theorem dX6_goOn_8 : decode prog_8_method_6_code 8 = .ok (.getfield 15, 3) := by decide +kernel
theorem dX6_goOn_11 : decode prog_8_method_6_code 11 = .ok (.iload_n 1, 1) := by decide +kernel
theorem dX6_goOn_12 : decode prog_8_method_6_code 12 = .ok (.iconst 0, 1) := by decide +kernel
theorem dX6_goOn_13 : decode prog_8_method_6_code 13 = .ok (.iastore, 1) := by decide +kernel
theorem dX6_goOn_14 : decode prog_8_method_6_code 14 = .ok (.aload_n 0, 1) := by decide +kernel
theorem dX6_goOn_15 : decode prog_8_method_6_code 15 = .ok (.getfield 18, 3) := by decide +kernel
theorem dX6_goOn_18 : decode prog_8_method_6_code 18 = .ok (.iload_n 1, 1) := by decide +kernel
theorem dX6_goOn_19 : decode prog_8_method_6_code 19 = .ok (.iload_n 2, 1) := by decide +kernel
theorem dX6_goOn_20 : decode prog_8_method_6_code 20 = .ok (.iastore, 1) := by decide +kernel
theorem dX6_goOn_21 : decode prog_8_method_6_code 21 = .ok (.return_, 1) := by decide +kernel
theorem dX6_countPawned_0 : decode prog_8_method_7_code 0 = .ok (.iconst 0, 1) := by decide +kernel
theorem dX6_countPawned_1 : decode prog_8_method_7_code 1 = .ok (.istore_n 1, 1) := by decide +kernel
theorem dX6_countPawned_2 : decode prog_8_method_7_code 2 = .ok (.iconst 0, 1) := by decide +kernel
theorem dX6_countPawned_3 : decode prog_8_method_7_code 3 = .ok (.istore_n 2, 1) := by decide +kernel
theorem dX6_countPawned_4 : decode prog_8_method_7_code 4 = .ok (.iload_n 2, 1) := by decide +kernel
theorem dX6_countPawned_5 : decode prog_8_method_7_code 5 = .ok (.aload_n 0, 1) := by decide +kernel
theorem dX6_countPawned_6 : decode prog_8_method_7_code 6 = .ok (.getfield 31, 3) := by decide +kernel
theorem dX6_countPawned_9 : decode prog_8_method_7_code 9 = .ok (.if_icmp .ge 22, 3) := by decide +kernel
theorem dX6_countPawned_12 : decode prog_8_method_7_code 12 = .ok (.aload_n 0, 1) := by decide +kernel
theorem dX6_countPawned_13 : decode prog_8_method_7_code 13 = .ok (.getfield 9, 3) := by decide +kernel
theorem dX6_countPawned_16 : decode prog_8_method_7_code 16 = .ok (.iload_n 2, 1) := by decide +kernel
theorem dX6_countPawned_17 : decode prog_8_method_7_code 17 = .ok (.iaload, 1) := by decide +kernel
theorem dX6_countPawned_18 : decode prog_8_method_7_code 18 = .ok (.iconst 1, 1) := by decide +kernel
theorem dX6_countPawned_19 : decode prog_8_method_7_code 19 = .ok (.if_icmp .ne 6, 3) := by decide +kernel
theorem dX6_countPawned_22 : decode prog_8_method_7_code 22 = .ok (.iinc 1 1, 3) := by decide +kernel
theorem dX6_countPawned_25 : decode prog_8_method_7_code 25 = .ok (.iinc 2 1, 3) := by decide +kernel
theorem dX6_countPawned_28 : decode prog_8_method_7_code 28 = .ok (.goto (-24), 3) := by decide +kernel
theorem dX6_countPawned_31 : decode prog_8_method_7_code 31 = .ok (.iload_n 1, 1) := by decide +kernel
theorem dX6_countPawned_32 : decode prog_8_method_7_code 32 = .ok (.ireturn, 1) := by decide +kernel
theorem dX6_draw_0 : decode prog_8_method_8_code 0 = .ok (.iload_n 1, 1) := by decide +kernel
theorem dX6_draw_1 : decode prog_8_method_8_code 1 = .ok (.ifCond .le 12, 3) := by decide +kernel
theorem dX6_draw_4 : decode prog_8_method_8_code 4 = .ok (.aload_n 0, 1) := by decide +kernel
theorem dX6_draw_5 : decode prog_8_method_8_code 5 = .ok (.getfield 21, 3) := by decide +kernel
theorem dX6_draw_8 : decode prog_8_method_8_code 8 = .ok (.iload_n 1, 1) := by decide +kernel
theorem dX6_draw_9 : decode prog_8_method_8_code 9 = .ok (.irem, 1) := by decide +kernel
theorem dX6_draw_10 : decode prog_8_method_8_code 10 = .ok (.goto 4, 3) := by decide +kernel
theorem dX6_draw_13 : decode prog_8_method_8_code 13 = .ok (.iconst 0, 1) := by decide +kernel
theorem dX6_draw_14 : decode prog_8_method_8_code 14 = .ok (.istore_n 2, 1) := by decide +kernel
theorem dX6_draw_15 : decode prog_8_method_8_code 15 = .ok (.aload_n 0, 1) := by decide +kernel
theorem dX6_draw_16 : decode prog_8_method_8_code 16 = .ok (.aload_n 0, 1) := by decide +kernel
theorem dX6_draw_17 : decode prog_8_method_8_code 17 = .ok (.getfield 21, 3) := by decide +kernel
theorem dX6_draw_20 : decode prog_8_method_8_code 20 = .ok (.sipush 619, 3) := by decide +kernel
theorem dX6_draw_23 : decode prog_8_method_8_code 23 = .ok (.imul, 1) := by decide +kernel
theorem dX6_draw_24 : decode prog_8_method_8_code 24 = .ok (.sipush 493, 3) := by decide +kernel
theorem dX6_draw_27 : decode prog_8_method_8_code 27 = .ok (.iadd, 1) := by decide +kernel
theorem dX6_draw_28 : decode prog_8_method_8_code 28 = .ok (.sipush 30871, 3) := by decide +kernel
theorem dX6_draw_31 : decode prog_8_method_8_code 31 = .ok (.irem, 1) := by decide +kernel
theorem dX6_draw_32 : decode prog_8_method_8_code 32 = .ok (.putfield 21, 3) := by decide +kernel
theorem dX6_draw_35 : decode prog_8_method_8_code 35 = .ok (.iload_n 2, 1) := by decide +kernel
theorem dX6_draw_36 : decode prog_8_method_8_code 36 = .ok (.ireturn, 1) := by decide +kernel
theorem sp_X6_has {q : Int} (h : ST S R a) (hq : Rg q) (hb : SB I a) (hp : ∀ r, (r = 1 ∧ 0 ≤ q ∧ q < I a 3 ∨ r = 0 ∧ ¬ (0 ≤ q ∧ q < I a 3)) → Post (some (.int (iI r))) S I R) : Call n 0 0 mX6_has [.ref (S.2.1 a), .int (iI q)] S I R Post := by
  obtain ⟨o1, o2, o3, o4, o5, o6, o7⟩ := h
  obtain ⟨b3, b4, b5, b6, b7, b8, bh, bs, bt⟩ := hb
  refine Call.of rfl (Nat.le_of_ble_eq_true rfl) ?_
  show WP _ _ _ _ _ 0 [(0, _), (1, _)] [] 0 0 _ _ _
  refine x_iload_n dX6_has_0 rfl ?_
  refine x_if_lt 16 dX6_has_1 (by decide) (by omega) (fun c1 => ?_) (fun c1 => ?_)
  · refine x_iconst dX6_has_16 ?_
    exact x_zreturn (by omega) dX6_has_17 rfl (by omega) (by omega) (hp _ (by omega))
  · refine x_iload_n dX6_has_4 rfl ?_
    refine x_aload_n dX6_has_5 rfl ?_
    refine x_getI dX6_has_6 gf_RX6_31 (by first | assumption | omega) (fun _ _ => rfl) ?_
    refine x_icmp_ge 16 dX6_has_9 (by decide) ⟨(by omega), (by omega)⟩ (fun c2 => ?_) (fun c2 => ?_)
    · refine x_iconst dX6_has_16 ?_
      exact x_zreturn (by omega) dX6_has_17 rfl (by omega) (by omega) (hp _ (by omega))
    · refine x_iconst dX6_has_12 ?_
      refine x_goto 17 dX6_has_13 (by decide) ?_
      exact x_zreturn (by omega) dX6_has_17 rfl (by omega) (by omega) (hp _ (by omega))
theorem sp_X6_isHow {q w : Int} (h : ST S R a) (hq : Rg q) (hw : Rg w) (hb : SB I a) (hn : 1 ≤ n) (hp : ∀ r, (r = 1 ∧ 0 ≤ q ∧ q < I a 3 ∧ I (a + 1) q.toNat = w ∨ r = 0 ∧ ¬ (0 ≤ q ∧ q < I a 3 ∧ I (a + 1) q.toNat = w)) → Post (some (.int (iI r))) S I R) : Call n 0 0 mX6_isHow [.ref (S.2.1 a), .int (iI q), .int (iI w)] S I R Post := by
  have h' := h
  have hb' := hb
  obtain ⟨o1, o2, o3, o4, o5, o6, o7⟩ := h
  obtain ⟨b3, b4, b5, b6, b7, b8, bh, bs, bt⟩ := hb
  refine Call.of rfl (Nat.le_of_ble_eq_true rfl) ?_
  show WP _ _ _ _ _ 0 [(0, _), (1, _), (2, _)] [] 0 0 _ _ _
  refine x_aload_n dX6_isHow_0 rfl ?_
  refine x_iload_n dX6_isHow_1 rfl ?_
  refine x_callV1 (mc1 := 0) (ms1 := 0) dX6_isHow_2 cv_RX6_46 (ci := 6) (by first | assumption | omega) rfl (Nat.le_of_ble_eq_true rfl) (n1 := n - 1) (by omega) (by omega) (by omega) ?_
  refine sp_X6_has (by assumption) (by omega) (by assumption) (fun r3 hr3 => ?_)
  refine x_if_eq 22 dX6_isHow_5 (by decide) (by omega) (fun c4 => ?_) (fun c4 => ?_)
  · refine x_iconst dX6_isHow_22 ?_
    exact x_zreturn (by omega) dX6_isHow_23 rfl (by omega) (by omega) (hp _ (by omega))
  · refine x_aload_n dX6_isHow_8 rfl ?_
    refine x_getR dX6_isHow_9 gf_RX6_9 (by first | assumption | omega) (fun _ _ => rfl) (by first | assumption | rfl) ?_
    have g1 := bh q.toNat (by omega)
    refine x_iload_n dX6_isHow_12 rfl ?_
    refine x_iaload dX6_isHow_13 (by first | assumption | omega) (by omega) (by omega) ?_
    refine x_iload_n dX6_isHow_14 rfl ?_
    refine x_icmp_ne 22 dX6_isHow_15 (by decide) ⟨(by omega), (by omega)⟩ (fun c5 => ?_) (fun c5 => ?_)
    · refine x_iconst dX6_isHow_22 ?_
      exact x_zreturn (by omega) dX6_isHow_23 rfl (by omega) (by omega) (hp _ (by omega))
    · refine x_iconst dX6_isHow_18 ?_
      refine x_goto 23 dX6_isHow_19 (by decide) ?_
      exact x_zreturn (by omega) dX6_isHow_23 rfl (by omega) (by omega) (hp _ (by omega))
theorem sp_X6_held {q : Int} (h : ST S R a) (hq : Rg q) (hb : SB I a) (hn : 2 ≤ n) (hp : ∀ r, (0 ≤ q ∧ q < I a 3 ∧ I (a + 1) q.toNat = 1 ∧ r = I a 6 - I (a + 2) q.toNat ∨ r = 0 ∧ ¬ (0 ≤ q ∧ q < I a 3 ∧ I (a + 1) q.toNat = 1)) → Post (some (.int (iI r))) S I R) : Call n 0 0 mX6_held [.ref (S.2.1 a), .int (iI q)] S I R Post := by
  have h' := h
  have hb' := hb
  obtain ⟨o1, o2, o3, o4, o5, o6, o7⟩ := h
  obtain ⟨b3, b4, b5, b6, b7, b8, bh, bs, bt⟩ := hb
  refine Call.of rfl (Nat.le_of_ble_eq_true rfl) ?_
  show WP _ _ _ _ _ 0 [(0, _), (1, _)] [] 0 0 _ _ _
  refine x_aload_n dX6_held_0 rfl ?_
  refine x_iload_n dX6_held_1 rfl ?_
  refine x_iconst dX6_held_2 ?_
  refine x_callV2 (mc1 := 0) (ms1 := 0) dX6_held_3 cv_RX6_50 (ci := 6) (by first | assumption | omega) rfl (Nat.le_of_ble_eq_true rfl) (n1 := n - 1) (by omega) (by omega) (by omega) ?_
  refine sp_X6_isHow (by assumption) (by omega) (by omega) (by assumption) (by omega) (fun r6 hr6 => ?_)
  refine x_if_eq 23 dX6_held_6 (by decide) (by omega) (fun c7 => ?_) (fun c7 => ?_)
  · refine x_iconst dX6_held_23 ?_
    exact x_ireturn dX6_held_24 rfl (by omega) (by omega) (hp _ (by omega))
  · refine x_aload_n dX6_held_9 rfl ?_
    refine x_getI dX6_held_10 gf_RX6_40 (by first | assumption | omega) (fun _ _ => rfl) ?_
    refine x_aload_n dX6_held_13 rfl ?_
    refine x_getR dX6_held_14 gf_RX6_15 (by first | assumption | omega) (fun _ _ => rfl) (by first | assumption | rfl) ?_
    refine x_iload_n dX6_held_17 rfl ?_
    refine x_iaload dX6_held_18 (by first | assumption | omega) (by omega) (by omega) ?_
    refine x_isub dX6_held_19 ?_
    refine x_goto 24 dX6_held_20 (by decide) ?_
    exact x_ireturn dX6_held_24 rfl (by omega) (by omega) (hp _ (by omega))
end StandM
