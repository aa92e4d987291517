section Ref1
variable {n mc ms : Nat} {M : Md} {pc : Nat} {lv : List (Nat × Value)} {st : List Value} {k j : Nat} {Post : PT} {S : Sh} {I : CI} {R : CR} {A : Nat → Int} {tx : Nat → Nat → Int}
theorem x_ald7 {kk : Nat} {z v : Int} (d : decode M.2.1 pc = .ok (.iaload, 1)) (cs : CS S R) (hz : z = (kk : Int)) (hk : kk < 2875) (hv : I 307 kk = v) (h : WP n mc ms M Post (pc + 1) lv (.int (iI v) :: st) k j S I R) : WP n mc ms M Post pc lv (.int (iI z) :: .ref (S.2.1 307) :: st) k j S I R := by
  subst hz; subst hv
  refine x_iaload d (k_ar_307 cs) (by omega) (by omega) ?_
  rw [Int.toNat_natCast]; exact h
theorem x_ast7 {kk : Nat} {z v : Int} {B : Nat → Int} (d : decode M.2.1 pc = .ok (.iastore, 1)) (cs : CS S R) (hz : z = (kk : Int)) (hk : kk < 2875) (ha : I 307 = B) (h : ∀ I', I' 307 = upA B kk v → (∀ c, c ≠ 307 → I' c = I c) → WP n mc ms M Post (pc + 1) lv st k j S I' R) : WP n mc ms M Post pc lv (.int (iI v) :: .int (iI z) :: .ref (S.2.1 307) :: st) k j S I R := by
  subst hz; subst ha
  refine x_iastore d (k_ar_307 cs) (by omega) (by omega) ?_
  rw [Int.toNat_natCast]
  refine h _ ?_ (fun c hc => uI_row hc)
  funext i
  unfold upA
  by_cases e : i = kk
  · rw [if_pos e, e, uI_s]
  · rw [if_neg e, uI_o (Or.inr e)]
/-- nothing but the reference's row changes -/
def F7 (I I' : CI) : Prop := ∀ c, c ≠ 307 → I' c = I c
theorem F7.rf {I : CI} : F7 I I := fun _ _ => rfl
theorem F7.tr {I I' I'' : CI} (h : F7 I I') (h2 : F7 I' I'') : F7 I I'' := fun c hc => (h2 c hc).trans (h c hc)
theorem dX12_isIn_0 : decode prog_14_method_3_code 0 = .ok (.iload_n 0, 1) := by decide +kernel
theorem dX12_isIn_1 : decode prog_14_method_3_code 1 = .ok (.iload_n 1, 1) := by decide +kernel
theorem dX12_isIn_2 : decode prog_14_method_3_code 2 = .ok (.if_icmp .lt 12, 3) := by decide +kernel
theorem dX12_isIn_5 : decode prog_14_method_3_code 5 = .ok (.iload_n 0, 1) := by decide +kernel
theorem dX12_isIn_6 : decode prog_14_method_3_code 6 = .ok (.iload_n 2, 1) := by decide +kernel
theorem dX12_isIn_7 : decode prog_14_method_3_code 7 = .ok (.if_icmp .gt 7, 3) := by decide +kernel
theorem dX12_isIn_10 : decode prog_14_method_3_code 10 = .ok (.iconst 1, 1) := by decide +kernel
theorem dX12_isIn_11 : decode prog_14_method_3_code 11 = .ok (.goto 4, 3) := by decide +kernel
theorem dX12_isIn_14 : decode prog_14_method_3_code 14 = .ok (.iconst 0, 1) := by decide +kernel
theorem dX12_isIn_15 : decode prog_14_method_3_code 15 = .ok (.ireturn, 1) := by decide +kernel
theorem sp_X12_isIn {v lo hi : Int} (hv : Rg v) (hl : Rg lo) (hh : Rg hi) (hp : ∀ r, (r = 1 ∧ (lo ≤ v ∧ v ≤ hi) ∨ r = 0 ∧ ¬ (lo ≤ v ∧ v ≤ hi)) → Post (some (.int (iI r))) S I R) : Call n 0 0 mX12_isIn [.int (iI v), .int (iI lo), .int (iI hi)] S I R Post := by
  refine Call.of (by decide +kernel) (Nat.le_of_ble_eq_true rfl) ?_
  show WP _ _ _ _ _ 0 [(0, _), (1, _), (2, _)] [] 0 0 _ _ _
  refine x_iload_n dX12_isIn_0 rfl ?_
  refine x_iload_n dX12_isIn_1 rfl ?_
  refine x_icmp_lt 14 dX12_isIn_2 (by decide) ⟨(by omega), (by omega)⟩ (fun w2 => ?_) (fun w2 => ?_)
  · refine x_iconst dX12_isIn_14 ?_
    exact x_zreturn (by omega) dX12_isIn_15 rfl (by omega) (by omega) (by first | exact hp 1 (Or.inl ⟨rfl, by omega⟩) | exact hp 0 (Or.inr ⟨rfl, by omega⟩))
  · refine x_iload_n dX12_isIn_5 rfl ?_
    refine x_iload_n dX12_isIn_6 rfl ?_
    refine x_icmp_gt 14 dX12_isIn_7 (by decide) ⟨(by omega), (by omega)⟩ (fun w7 => ?_) (fun w7 => ?_)
    · refine x_iconst dX12_isIn_14 ?_
      exact x_zreturn (by omega) dX12_isIn_15 rfl (by omega) (by omega) (by first | exact hp 1 (Or.inl ⟨rfl, by omega⟩) | exact hp 0 (Or.inr ⟨rfl, by omega⟩))
    · refine x_iconst dX12_isIn_10 ?_
      refine x_goto 15 dX12_isIn_11 (by decide) ?_
      exact x_zreturn (by omega) dX12_isIn_15 rfl (by omega) (by omega) (by first | exact hp 1 (Or.inl ⟨rfl, by omega⟩) | exact hp 0 (Or.inr ⟨rfl, by omega⟩))
theorem dX12_isPerson_0 : decode prog_14_method_9_code 0 = .ok (.iload_n 0, 1) := by decide +kernel
theorem dX12_isPerson_1 : decode prog_14_method_9_code 1 = .ok (.iconst 0, 1) := by decide +kernel
theorem dX12_isPerson_2 : decode prog_14_method_9_code 2 = .ok (.iconst 5, 1) := by decide +kernel
theorem dX12_isPerson_3 : decode prog_14_method_9_code 3 = .ok (.invokestatic 81, 3) := by decide +kernel
theorem dX12_isPerson_6 : decode prog_14_method_9_code 6 = .ok (.ireturn, 1) := by decide +kernel
theorem sp_X12_isPerson {q : Int} (hq : Rg q) (hn : 1 ≤ n) (hp : ∀ r, (r = 1 ∧ (0 ≤ q ∧ q < 6) ∨ r = 0 ∧ ¬ (0 ≤ q ∧ q < 6)) → Post (some (.int (iI r))) S I R) : Call n 0 0 mX12_isPerson [.int (iI q)] S I R Post := by
  refine Call.of (by decide +kernel) (Nat.le_of_ble_eq_true rfl) ?_
  show WP _ _ _ _ _ 0 [(0, _)] [] 0 0 _ _ _
  refine x_iload_n dX12_isPerson_0 rfl ?_
  refine x_iconst dX12_isPerson_1 ?_
  refine x_iconst dX12_isPerson_2 ?_
  refine x_callS3 (mc1 := 0) (ms1 := 0) dX12_isPerson_3 cv_RX12_81 (Nat.le_of_ble_eq_true rfl) (n1 := n - 1) (by omega) (by omega) (by omega) ?_
  refine sp_X12_isIn (by omega) (by omega) (by omega) (fun r3 hr3 => ?_)
  exact x_zreturn (by omega) dX12_isPerson_6 rfl (by omega) (by omega) (hp r3 (by omega))
theorem dX12_has_0 : decode prog_14_method_6_code 0 = .ok (.iload_n 0, 1) := by decide +kernel
theorem dX12_has_1 : decode prog_14_method_6_code 1 = .ok (.iload_n 1, 1) := by decide +kernel
theorem dX12_has_2 : decode prog_14_method_6_code 2 = .ok (.ishr, 1) := by decide +kernel
theorem dX12_has_3 : decode prog_14_method_6_code 3 = .ok (.iconst 1, 1) := by decide +kernel
theorem dX12_has_4 : decode prog_14_method_6_code 4 = .ok (.iand, 1) := by decide +kernel
theorem dX12_has_5 : decode prog_14_method_6_code 5 = .ok (.iconst 1, 1) := by decide +kernel
theorem dX12_has_6 : decode prog_14_method_6_code 6 = .ok (.if_icmp .ne 7, 3) := by decide +kernel
theorem dX12_has_9 : decode prog_14_method_6_code 9 = .ok (.iconst 1, 1) := by decide +kernel
theorem dX12_has_10 : decode prog_14_method_6_code 10 = .ok (.goto 4, 3) := by decide +kernel
theorem dX12_has_13 : decode prog_14_method_6_code 13 = .ok (.iconst 0, 1) := by decide +kernel
theorem dX12_has_14 : decode prog_14_method_6_code 14 = .ok (.ireturn, 1) := by decide +kernel
theorem sp_X12_has {x k : Nat} (hx : x < 2147483648) (hk : k < 31) (hp : ∀ r, (r = 1 ∧ x.testBit k = true ∨ r = 0 ∧ x.testBit k = false) → Post (some (.int (iI r))) S I R) : Call n 0 0 mX12_has [.int (iI (x : Int)), .int (iI (k : Int))] S I R Post := by
  have hb := has_c hx hk
  refine Call.of (by decide +kernel) (Nat.le_of_ble_eq_true rfl) ?_
  show WP _ _ _ _ _ 0 [(0, _), (1, _)] [] 0 0 _ _ _
  refine x_iload_n dX12_has_0 rfl ?_
  refine x_iload_n dX12_has_1 rfl ?_
  refine x_ishr dX12_has_2 ?_
  refine x_iconst dX12_has_3 ?_
  refine x_iand dX12_has_4 ?_
  refine x_iconst dX12_has_5 ?_
  refine x_icmp_ne 13 dX12_has_6 (by decide) ⟨(by omega), (by omega)⟩ (fun w6 => ?_) (fun w6 => ?_)
  · refine x_iconst dX12_has_13 ?_
    exact x_zreturn (by omega) dX12_has_14 rfl (by omega) (by omega) (by rcases hb with hh | hh <;> first | exact hp 1 (Or.inl ⟨rfl, hh.2⟩) | exact hp 0 (Or.inr ⟨rfl, hh.2⟩) | (exfalso; omega))
  · refine x_iconst dX12_has_9 ?_
    refine x_goto 14 dX12_has_10 (by decide) ?_
    exact x_zreturn (by omega) dX12_has_14 rfl (by omega) (by omega) (by rcases hb with hh | hh <;> first | exact hp 1 (Or.inl ⟨rfl, hh.2⟩) | exact hp 0 (Or.inr ⟨rfl, hh.2⟩) | (exfalso; omega))
theorem dX12_isQuarrel_0 : decode prog_14_method_8_code 0 = .ok (.iload_n 1, 1) := by decide +kernel
theorem dX12_isQuarrel_1 : decode prog_14_method_8_code 1 = .ok (.iconst 0, 1) := by decide +kernel
theorem dX12_isQuarrel_2 : decode prog_14_method_8_code 2 = .ok (.aload_n 0, 1) := by decide +kernel
theorem dX12_isQuarrel_3 : decode prog_14_method_8_code 3 = .ok (.getfield 7, 3) := by decide +kernel
theorem dX12_isQuarrel_6 : decode prog_14_method_8_code 6 = .ok (.iconst 0, 1) := by decide +kernel
theorem dX12_isQuarrel_7 : decode prog_14_method_8_code 7 = .ok (.iaload, 1) := by decide +kernel
theorem dX12_isQuarrel_8 : decode prog_14_method_8_code 8 = .ok (.iconst 1, 1) := by decide +kernel
theorem dX12_isQuarrel_9 : decode prog_14_method_8_code 9 = .ok (.isub, 1) := by decide +kernel
theorem dX12_isQuarrel_10 : decode prog_14_method_8_code 10 = .ok (.invokestatic 81, 3) := by decide +kernel
theorem dX12_isQuarrel_13 : decode prog_14_method_8_code 13 = .ok (.ireturn, 1) := by decide +kernel
theorem sp_X12_isQuarrel {q : Int} (cs : CS S R) (hA : I 307 = A) (h0 : 0 ≤ A 0 ∧ A 0 ≤ 8) (hq : Rg q) (hn : 1 ≤ n) (hp : ∀ r, (r = 1 ∧ (0 ≤ q ∧ q < A 0) ∨ r = 0 ∧ ¬ (0 ≤ q ∧ q < A 0)) → Post (some (.int (iI r))) S I R) : Call n 0 0 mX12_isQuarrel [.ref (S.2.1 306), .int (iI q)] S I R Post := by
  refine Call.of (by decide +kernel) (Nat.le_of_ble_eq_true rfl) ?_
  show WP _ _ _ _ _ 0 [(0, _), (1, _)] [] 0 0 _ _ _
  refine x_iload_n dX12_isQuarrel_0 rfl ?_
  refine x_iconst dX12_isQuarrel_1 ?_
  refine x_aload_n dX12_isQuarrel_2 rfl ?_
  refine x_getR (b := 307) dX12_isQuarrel_3 gf_RX12_7 (k_ob_306 cs) (fun _ _ => rfl) (k_r_306_0 cs) ?_
  refine x_iconst dX12_isQuarrel_6 ?_
  refine x_ald7 (kk := 0) (v := A 0) dX12_isQuarrel_7 cs (by omega) (by omega) (by rw [hA]; repeat (first | rfl | rw [upA_s] | rw [upA_o (by omega)])) ?_
  refine x_iconst dX12_isQuarrel_8 ?_
  refine x_isub dX12_isQuarrel_9 ?_
  refine x_callS3 (mc1 := 0) (ms1 := 0) dX12_isQuarrel_10 cv_RX12_81 (Nat.le_of_ble_eq_true rfl) (n1 := n - 1) (by omega) (by omega) (by omega) ?_
  refine sp_X12_isIn (by omega) (by omega) (by omega) (fun r10 hr10 => ?_)
  exact x_zreturn (by omega) dX12_isQuarrel_13 rfl (by omega) (by omega) (hp r10 (by omega))
theorem dX12_howOf_0 : decode prog_14_method_10_code 0 = .ok (.aload_n 0, 1) := by decide +kernel
theorem dX12_howOf_1 : decode prog_14_method_10_code 1 = .ok (.getfield 7, 3) := by decide +kernel
theorem dX12_howOf_4 : decode prog_14_method_10_code 4 = .ok (.bipush 12, 2) := by decide +kernel
theorem dX12_howOf_6 : decode prog_14_method_10_code 6 = .ok (.iconst 3, 1) := by decide +kernel
theorem dX12_howOf_7 : decode prog_14_method_10_code 7 = .ok (.iload_n 1, 1) := by decide +kernel
theorem dX12_howOf_8 : decode prog_14_method_10_code 8 = .ok (.imul, 1) := by decide +kernel
theorem dX12_howOf_9 : decode prog_14_method_10_code 9 = .ok (.iadd, 1) := by decide +kernel
theorem dX12_howOf_10 : decode prog_14_method_10_code 10 = .ok (.iaload, 1) := by decide +kernel
theorem dX12_howOf_11 : decode prog_14_method_10_code 11 = .ok (.ireturn, 1) := by decide +kernel
theorem sp_X12_howOf {q : Nat} (cs : CS S R) (hA : I 307 = A) (hq : q < 8) (hp : Post (some (.int (iI (A (12 + 3 * q))))) S I R) : Call n 0 0 mX12_howOf [.ref (S.2.1 306), .int (iI (q : Int))] S I R Post := by
  refine Call.of (by decide +kernel) (Nat.le_of_ble_eq_true rfl) ?_
  show WP _ _ _ _ _ 0 [(0, _), (1, _)] [] 0 0 _ _ _
  refine x_aload_n dX12_howOf_0 rfl ?_
  refine x_getR (b := 307) dX12_howOf_1 gf_RX12_7 (k_ob_306 cs) (fun _ _ => rfl) (k_r_306_0 cs) ?_
  refine x_bipush dX12_howOf_4 (by decide) ?_
  refine x_iconst dX12_howOf_6 ?_
  refine x_iload_n dX12_howOf_7 rfl ?_
  refine x_imul dX12_howOf_8 ?_
  refine x_iadd dX12_howOf_9 ?_
  refine x_ald7 (kk := 12 + 3 * q) (v := A (12 + 3 * q)) dX12_howOf_10 cs (by omega) (by omega) (by rw [hA]; repeat (first | rfl | rw [upA_s] | rw [upA_o (by omega)])) ?_
  exact x_ireturn dX12_howOf_11 rfl (by omega) (by omega) (hp)
theorem dX12_heatOf_0 : decode prog_14_method_11_code 0 = .ok (.aload_n 0, 1) := by decide +kernel
theorem dX12_heatOf_1 : decode prog_14_method_11_code 1 = .ok (.getfield 7, 3) := by decide +kernel
theorem dX12_heatOf_4 : decode prog_14_method_11_code 4 = .ok (.bipush 12, 2) := by decide +kernel
theorem dX12_heatOf_6 : decode prog_14_method_11_code 6 = .ok (.iconst 3, 1) := by decide +kernel
theorem dX12_heatOf_7 : decode prog_14_method_11_code 7 = .ok (.iload_n 1, 1) := by decide +kernel
theorem dX12_heatOf_8 : decode prog_14_method_11_code 8 = .ok (.imul, 1) := by decide +kernel
theorem dX12_heatOf_9 : decode prog_14_method_11_code 9 = .ok (.iadd, 1) := by decide +kernel
theorem dX12_heatOf_10 : decode prog_14_method_11_code 10 = .ok (.iconst 2, 1) := by decide +kernel
theorem dX12_heatOf_11 : decode prog_14_method_11_code 11 = .ok (.iadd, 1) := by decide +kernel
theorem dX12_heatOf_12 : decode prog_14_method_11_code 12 = .ok (.iaload, 1) := by decide +kernel
theorem dX12_heatOf_13 : decode prog_14_method_11_code 13 = .ok (.ireturn, 1) := by decide +kernel
theorem sp_X12_heatOf {q : Nat} (cs : CS S R) (hA : I 307 = A) (hq : q < 8) (hp : Post (some (.int (iI (A (14 + 3 * q))))) S I R) : Call n 0 0 mX12_heatOf [.ref (S.2.1 306), .int (iI (q : Int))] S I R Post := by
  refine Call.of (by decide +kernel) (Nat.le_of_ble_eq_true rfl) ?_
  show WP _ _ _ _ _ 0 [(0, _), (1, _)] [] 0 0 _ _ _
  refine x_aload_n dX12_heatOf_0 rfl ?_
  refine x_getR (b := 307) dX12_heatOf_1 gf_RX12_7 (k_ob_306 cs) (fun _ _ => rfl) (k_r_306_0 cs) ?_
  refine x_bipush dX12_heatOf_4 (by decide) ?_
  refine x_iconst dX12_heatOf_6 ?_
  refine x_iload_n dX12_heatOf_7 rfl ?_
  refine x_imul dX12_heatOf_8 ?_
  refine x_iadd dX12_heatOf_9 ?_
  refine x_iconst dX12_heatOf_10 ?_
  refine x_iadd dX12_heatOf_11 ?_
  refine x_ald7 (kk := 14 + 3 * q) (v := A (14 + 3 * q)) dX12_heatOf_12 cs (by omega) (by omega) (by rw [hA]; repeat (first | rfl | rw [upA_s] | rw [upA_o (by omega)])) ?_
  exact x_ireturn dX12_heatOf_13 rfl (by omega) (by omega) (hp)
theorem dX12_isPawned_0 : decode prog_14_method_12_code 0 = .ok (.aload_n 0, 1) := by decide +kernel
theorem dX12_isPawned_1 : decode prog_14_method_12_code 1 = .ok (.iload_n 1, 1) := by decide +kernel
theorem dX12_isPawned_2 : decode prog_14_method_12_code 2 = .ok (.invokevirtual 85, 3) := by decide +kernel
theorem dX12_isPawned_5 : decode prog_14_method_12_code 5 = .ok (.iconst 1, 1) := by decide +kernel
theorem dX12_isPawned_6 : decode prog_14_method_12_code 6 = .ok (.if_icmp .ne 7, 3) := by decide +kernel
theorem dX12_isPawned_9 : decode prog_14_method_12_code 9 = .ok (.iconst 1, 1) := by decide +kernel
theorem dX12_isPawned_10 : decode prog_14_method_12_code 10 = .ok (.goto 4, 3) := by decide +kernel
theorem dX12_isPawned_13 : decode prog_14_method_12_code 13 = .ok (.iconst 0, 1) := by decide +kernel
theorem dX12_isPawned_14 : decode prog_14_method_12_code 14 = .ok (.ireturn, 1) := by decide +kernel
theorem sp_X12_isPawned {q : Nat} (cs : CS S R) (hA : I 307 = A) (hq : q < 8) (hr : Rg (A (12 + 3 * q))) (hn : 1 ≤ n) (hp : ∀ r, (r = 1 ∧ A (12 + 3 * q) = 1 ∨ r = 0 ∧ ¬ (A (12 + 3 * q) = 1)) → Post (some (.int (iI r))) S I R) : Call n 0 0 mX12_isPawned [.ref (S.2.1 306), .int (iI (q : Int))] S I R Post := by
  refine Call.of (by decide +kernel) (Nat.le_of_ble_eq_true rfl) ?_
  show WP _ _ _ _ _ 0 [(0, _), (1, _)] [] 0 0 _ _ _
  refine x_aload_n dX12_isPawned_0 rfl ?_
  refine x_iload_n dX12_isPawned_1 rfl ?_
  refine x_callV1 (mc1 := 0) (ms1 := 0) dX12_isPawned_2 cv_RX12_85 (ci := 12) (k_ob_306 cs) rfl (Nat.le_of_ble_eq_true rfl) (n1 := n - 1) (by omega) (by omega) (by omega) ?_
  refine sp_X12_howOf cs hA (by omega) ?_
  refine x_iconst dX12_isPawned_5 ?_
  refine x_icmp_ne 13 dX12_isPawned_6 (by decide) ⟨(by omega), (by omega)⟩ (fun w6 => ?_) (fun w6 => ?_)
  · refine x_iconst dX12_isPawned_13 ?_
    exact x_zreturn (by omega) dX12_isPawned_14 rfl (by omega) (by omega) (by first | exact hp 1 (Or.inl ⟨rfl, by omega⟩) | exact hp 0 (Or.inr ⟨rfl, by omega⟩))
  · refine x_iconst dX12_isPawned_9 ?_
    refine x_goto 14 dX12_isPawned_10 (by decide) ?_
    exact x_zreturn (by omega) dX12_isPawned_14 rfl (by omega) (by omega) (by first | exact hp 1 (Or.inl ⟨rfl, by omega⟩) | exact hp 0 (Or.inr ⟨rfl, by omega⟩))
theorem dX12_daysOf_0 : decode prog_14_method_13_code 0 = .ok (.aload_n 0, 1) := by decide +kernel
theorem dX12_daysOf_1 : decode prog_14_method_13_code 1 = .ok (.iload_n 1, 1) := by decide +kernel
theorem dX12_daysOf_2 : decode prog_14_method_13_code 2 = .ok (.invokevirtual 89, 3) := by decide +kernel
theorem dX12_daysOf_5 : decode prog_14_method_13_code 5 = .ok (.ifCond .eq 27, 3) := by decide +kernel
theorem dX12_daysOf_8 : decode prog_14_method_13_code 8 = .ok (.aload_n 0, 1) := by decide +kernel
theorem dX12_daysOf_9 : decode prog_14_method_13_code 9 = .ok (.getfield 7, 3) := by decide +kernel
theorem dX12_daysOf_12 : decode prog_14_method_13_code 12 = .ok (.bipush 7, 2) := by decide +kernel
theorem dX12_daysOf_14 : decode prog_14_method_13_code 14 = .ok (.iaload, 1) := by decide +kernel
theorem dX12_daysOf_15 : decode prog_14_method_13_code 15 = .ok (.aload_n 0, 1) := by decide +kernel
theorem dX12_daysOf_16 : decode prog_14_method_13_code 16 = .ok (.getfield 7, 3) := by decide +kernel
theorem dX12_daysOf_19 : decode prog_14_method_13_code 19 = .ok (.bipush 12, 2) := by decide +kernel
theorem dX12_daysOf_21 : decode prog_14_method_13_code 21 = .ok (.iconst 3, 1) := by decide +kernel
theorem dX12_daysOf_22 : decode prog_14_method_13_code 22 = .ok (.iload_n 1, 1) := by decide +kernel
theorem dX12_daysOf_23 : decode prog_14_method_13_code 23 = .ok (.imul, 1) := by decide +kernel
theorem dX12_daysOf_24 : decode prog_14_method_13_code 24 = .ok (.iadd, 1) := by decide +kernel
theorem dX12_daysOf_25 : decode prog_14_method_13_code 25 = .ok (.iconst 1, 1) := by decide +kernel
theorem dX12_daysOf_26 : decode prog_14_method_13_code 26 = .ok (.iadd, 1) := by decide +kernel
theorem dX12_daysOf_27 : decode prog_14_method_13_code 27 = .ok (.iaload, 1) := by decide +kernel
theorem dX12_daysOf_28 : decode prog_14_method_13_code 28 = .ok (.isub, 1) := by decide +kernel
theorem dX12_daysOf_29 : decode prog_14_method_13_code 29 = .ok (.goto 4, 3) := by decide +kernel
theorem dX12_daysOf_32 : decode prog_14_method_13_code 32 = .ok (.iconst 0, 1) := by decide +kernel
theorem dX12_daysOf_33 : decode prog_14_method_13_code 33 = .ok (.ireturn, 1) := by decide +kernel
theorem sp_X12_daysOf {q : Nat} (cs : CS S R) (hA : I 307 = A) (hq : q < 8) (hr : Rg (A (12 + 3 * q))) (hn : 2 ≤ n) (hp : Post (some (.int (iI (if A (12 + 3 * q) = 1 then A 7 - A (13 + 3 * q) else 0)))) S I R) : Call n 0 0 mX12_daysOf [.ref (S.2.1 306), .int (iI (q : Int))] S I R Post := by
  refine Call.of (by decide +kernel) (Nat.le_of_ble_eq_true rfl) ?_
  show WP _ _ _ _ _ 0 [(0, _), (1, _)] [] 0 0 _ _ _
  refine x_aload_n dX12_daysOf_0 rfl ?_
  refine x_iload_n dX12_daysOf_1 rfl ?_
  refine x_callV1 (mc1 := 0) (ms1 := 0) dX12_daysOf_2 cv_RX12_89 (ci := 12) (k_ob_306 cs) rfl (Nat.le_of_ble_eq_true rfl) (n1 := n - 1) (by omega) (by omega) (by omega) ?_
  refine sp_X12_isPawned cs hA (by omega) (by omega) (by omega) (fun r2 hr2 => ?_)
  refine x_if_eq 32 dX12_daysOf_5 (by decide) (by omega) (fun w5 => ?_) (fun w5 => ?_)
  · refine x_iconst dX12_daysOf_32 ?_
    exact x_ireturn dX12_daysOf_33 rfl (by omega) (by omega) (by first | (rw [if_pos (by omega)] at hp; exact hp) | (rw [if_neg (by omega)] at hp; exact hp))
  · refine x_aload_n dX12_daysOf_8 rfl ?_
    refine x_getR (b := 307) dX12_daysOf_9 gf_RX12_7 (k_ob_306 cs) (fun _ _ => rfl) (k_r_306_0 cs) ?_
    refine x_bipush dX12_daysOf_12 (by decide) ?_
    refine x_ald7 (kk := 7) (v := A 7) dX12_daysOf_14 cs (by omega) (by omega) (by rw [hA]; repeat (first | rfl | rw [upA_s] | rw [upA_o (by omega)])) ?_
    refine x_aload_n dX12_daysOf_15 rfl ?_
    refine x_getR (b := 307) dX12_daysOf_16 gf_RX12_7 (k_ob_306 cs) (fun _ _ => rfl) (k_r_306_0 cs) ?_
    refine x_bipush dX12_daysOf_19 (by decide) ?_
    refine x_iconst dX12_daysOf_21 ?_
    refine x_iload_n dX12_daysOf_22 rfl ?_
    refine x_imul dX12_daysOf_23 ?_
    refine x_iadd dX12_daysOf_24 ?_
    refine x_iconst dX12_daysOf_25 ?_
    refine x_iadd dX12_daysOf_26 ?_
    refine x_ald7 (kk := 13 + 3 * q) (v := A (13 + 3 * q)) dX12_daysOf_27 cs (by omega) (by omega) (by rw [hA]; repeat (first | rfl | rw [upA_s] | rw [upA_o (by omega)])) ?_
    refine x_isub dX12_daysOf_28 ?_
    refine x_goto 33 dX12_daysOf_29 (by decide) ?_
    exact x_ireturn dX12_daysOf_33 rfl (by omega) (by omega) (by first | (rw [if_pos (by omega)] at hp; exact hp) | (rw [if_neg (by omega)] at hp; exact hp))
theorem dX12_pawnedNow_0 : decode prog_14_method_14_code 0 = .ok (.iconst 0, 1) := by decide +kernel
theorem dX12_pawnedNow_1 : decode prog_14_method_14_code 1 = .ok (.istore_n 1, 1) := by decide +kernel
theorem dX12_pawnedNow_2 : decode prog_14_method_14_code 2 = .ok (.iconst 0, 1) := by decide +kernel
theorem dX12_pawnedNow_3 : decode prog_14_method_14_code 3 = .ok (.istore_n 2, 1) := by decide +kernel
theorem dX12_pawnedNow_4 : decode prog_14_method_14_code 4 = .ok (.iload_n 2, 1) := by decide +kernel
theorem dX12_pawnedNow_5 : decode prog_14_method_14_code 5 = .ok (.aload_n 0, 1) := by decide +kernel
theorem dX12_pawnedNow_6 : decode prog_14_method_14_code 6 = .ok (.getfield 7, 3) := by decide +kernel
theorem dX12_pawnedNow_9 : decode prog_14_method_14_code 9 = .ok (.iconst 0, 1) := by decide +kernel
theorem dX12_pawnedNow_10 : decode prog_14_method_14_code 10 = .ok (.iaload, 1) := by decide +kernel
theorem dX12_pawnedNow_11 : decode prog_14_method_14_code 11 = .ok (.if_icmp .ge 27, 3) := by decide +kernel
theorem dX12_pawnedNow_14 : decode prog_14_method_14_code 14 = .ok (.iload_n 1, 1) := by decide +kernel
theorem dX12_pawnedNow_15 : decode prog_14_method_14_code 15 = .ok (.aload_n 0, 1) := by decide +kernel
theorem dX12_pawnedNow_16 : decode prog_14_method_14_code 16 = .ok (.iload_n 2, 1) := by decide +kernel
theorem dX12_pawnedNow_17 : decode prog_14_method_14_code 17 = .ok (.invokevirtual 89, 3) := by decide +kernel
theorem dX12_pawnedNow_20 : decode prog_14_method_14_code 20 = .ok (.ifCond .eq 9, 3) := by decide +kernel
theorem dX12_pawnedNow_23 : decode prog_14_method_14_code 23 = .ok (.iconst 1, 1) := by decide +kernel
theorem dX12_pawnedNow_24 : decode prog_14_method_14_code 24 = .ok (.iload_n 2, 1) := by decide +kernel
theorem dX12_pawnedNow_25 : decode prog_14_method_14_code 25 = .ok (.ishl, 1) := by decide +kernel
theorem dX12_pawnedNow_26 : decode prog_14_method_14_code 26 = .ok (.goto 4, 3) := by decide +kernel
theorem dX12_pawnedNow_29 : decode prog_14_method_14_code 29 = .ok (.iconst 0, 1) := by decide +kernel
theorem dX12_pawnedNow_30 : decode prog_14_method_14_code 30 = .ok (.ior, 1) := by decide +kernel
theorem dX12_pawnedNow_31 : decode prog_14_method_14_code 31 = .ok (.istore_n 1, 1) := by decide +kernel
theorem dX12_pawnedNow_32 : decode prog_14_method_14_code 32 = .ok (.iinc 2 1, 3) := by decide +kernel
theorem dX12_pawnedNow_35 : decode prog_14_method_14_code 35 = .ok (.goto (-31), 3) := by decide +kernel
theorem dX12_pawnedNow_38 : decode prog_14_method_14_code 38 = .ok (.iload_n 1, 1) := by decide +kernel
theorem dX12_pawnedNow_39 : decode prog_14_method_14_code 39 = .ok (.ireturn, 1) := by decide +kernel
theorem lp_X12_pawnedNow (cs : CS S R) (hA : I 307 = A) (hb : BA A) (hn : 2 ≤ n) (hp : Post (some (.int (iI (pwN A (A 0).toNat : Int)))) S I R) : ∀ (d k : Nat), (k : Int) ≤ A 0 → (A 0).toNat - k = d → WP n 0 0 mX12_pawnedNow Post 4 [(0, .ref (S.2.1 306)), (1, .int (iI (pwN A k : Int))), (2, .int (iI (k : Int)))] [] 0 0 S I R := by
  have b0 := hb.1.1
  intro d
  induction d using Nat.strongRecOn with
  | ind d ih =>
    intro k k1 k2
    have hlt := pwN_lt (A := A) k
    have h256 : 2 ^ k ≤ 2 ^ 8 := Nat.pow_le_pow_right (by decide) (by omega)
    have bq : k < 8 → _ := fun h => (hb.1.2.2.2.2.2.1 k h).1
    rw [show 6 + 6 + 3 * k = 12 + 3 * k by omega] at bq
    refine x_iload_n dX12_pawnedNow_4 rfl ?_
    refine x_aload_n dX12_pawnedNow_5 rfl ?_
    refine x_getR (b := 307) dX12_pawnedNow_6 gf_RX12_7 (k_ob_306 cs) (fun _ _ => rfl) (k_r_306_0 cs) ?_
    refine x_iconst dX12_pawnedNow_9 ?_
    refine x_ald7 (kk := 0) (v := A 0) dX12_pawnedNow_10 cs (by omega) (by omega) (by rw [hA]; repeat (first | rfl | rw [upA_s] | rw [upA_o (by omega)])) ?_
    refine x_icmp_ge 38 dX12_pawnedNow_11 (by decide) ⟨(by omega), (by omega)⟩ (fun w11 => ?_) (fun w11 => ?_)
    · refine x_iload_n dX12_pawnedNow_38 rfl ?_
      exact x_ireturn dX12_pawnedNow_39 rfl (by omega) (by omega) (by obtain rfl : k = (A 0).toNat := (by omega); exact hp)
    · refine x_iload_n dX12_pawnedNow_14 rfl ?_
      refine x_aload_n dX12_pawnedNow_15 rfl ?_
      refine x_iload_n dX12_pawnedNow_16 rfl ?_
      have g2 := bq (by omega)
      refine x_callV1 (mc1 := 0) (ms1 := 0) dX12_pawnedNow_17 cv_RX12_89 (ci := 12) (k_ob_306 cs) rfl (Nat.le_of_ble_eq_true rfl) (n1 := n - 1) (by omega) (by omega) (by omega) ?_
      refine sp_X12_isPawned cs hA (by omega) (by omega) (by omega) (fun r17 hr17 => ?_)
      refine x_if_eq 29 dX12_pawnedNow_20 (by decide) (by omega) (fun w20 => ?_) (fun w20 => ?_)
      · refine x_iconst dX12_pawnedNow_29 ?_
        refine x_ior dX12_pawnedNow_30 ?_
        first | rw [show (0 : Int) = ((0 : Nat) : Int) from rfl, orI_n (by omega) (by omega), Nat.or_zero] | rw [orI_n (by omega) (by omega)]
        refine x_istore_n (lv2 := [(1, _), (0, _), (2, _)]) dX12_pawnedNow_31 (by decide) rfl ?_
        refine x_iinc (lv2 := [(2, _), (1, _), (0, _)]) dX12_pawnedNow_32 rfl (by decide) rfl ?_
        refine x_goto 4 dX12_pawnedNow_35 (by decide) ?_
        refine x_sub [2, 1, 0] rfl ?_
        have hg := ih _ (by omega) (k + 1) (by omega) rfl
        first
          | (rw [show pwN A (k + 1) = pwN A k ||| 2 ^ k from if_pos (by omega)] at hg; exact hg)
          | (rw [show pwN A (k + 1) = pwN A k from if_neg (by omega)] at hg; exact hg)
      · refine x_iconst dX12_pawnedNow_23 ?_
        refine x_iload_n dX12_pawnedNow_24 rfl ?_
        refine x_ishl dX12_pawnedNow_25 ?_
        rw [shl1_n (by omega)]
        refine x_goto 30 dX12_pawnedNow_26 (by decide) ?_
        refine x_ior dX12_pawnedNow_30 ?_
        first | rw [show (0 : Int) = ((0 : Nat) : Int) from rfl, orI_n (by omega) (by omega), Nat.or_zero] | rw [orI_n (by omega) (by omega)]
        refine x_istore_n (lv2 := [(1, _), (0, _), (2, _)]) dX12_pawnedNow_31 (by decide) rfl ?_
        refine x_iinc (lv2 := [(2, _), (1, _), (0, _)]) dX12_pawnedNow_32 rfl (by decide) rfl ?_
        refine x_goto 4 dX12_pawnedNow_35 (by decide) ?_
        refine x_sub [2, 1, 0] rfl ?_
        have hg := ih _ (by omega) (k + 1) (by omega) rfl
        first
          | (rw [show pwN A (k + 1) = pwN A k ||| 2 ^ k from if_pos (by omega)] at hg; exact hg)
          | (rw [show pwN A (k + 1) = pwN A k from if_neg (by omega)] at hg; exact hg)
theorem sp_X12_pawnedNow  (cs : CS S R) (hA : I 307 = A) (hb : BA A) (hn : 2 ≤ n) (hp : Post (some (.int (iI ((pwN A (A 0).toNat : Int))))) S I R) : Call n 0 0 mX12_pawnedNow [.ref (S.2.1 306)] S I R Post := by
  have b0 := hb.1.1
  refine Call.of (by decide +kernel) (Nat.le_of_ble_eq_true rfl) ?_
  show WP _ _ _ _ _ 0 [(0, _)] [] 0 0 _ _ _
  refine x_iconst dX12_pawnedNow_0 ?_
  refine x_istore_n (lv2 := [(1, _), (0, _)]) dX12_pawnedNow_1 (by decide) rfl ?_
  refine x_iconst dX12_pawnedNow_2 ?_
  refine x_istore_n (lv2 := [(2, _), (1, _), (0, _)]) dX12_pawnedNow_3 (by decide) rfl ?_
  refine x_sub [2, 1, 0] rfl ?_
  exact lp_X12_pawnedNow cs hA hb hn hp _ 0 (by omega) rfl
theorem dX12_begin_0 : decode prog_14_method_17_code 0 = .ok (.aload_n 0, 1) := by decide +kernel
theorem dX12_begin_1 : decode prog_14_method_17_code 1 = .ok (.getfield 7, 3) := by decide +kernel
theorem dX12_begin_4 : decode prog_14_method_17_code 4 = .ok (.bipush 12, 2) := by decide +kernel
theorem dX12_begin_6 : decode prog_14_method_17_code 6 = .ok (.iconst 3, 1) := by decide +kernel
theorem dX12_begin_7 : decode prog_14_method_17_code 7 = .ok (.iload_n 1, 1) := by decide +kernel
theorem dX12_begin_8 : decode prog_14_method_17_code 8 = .ok (.imul, 1) := by decide +kernel
theorem dX12_begin_9 : decode prog_14_method_17_code 9 = .ok (.iadd, 1) := by decide +kernel
theorem dX12_begin_10 : decode prog_14_method_17_code 10 = .ok (.iconst 0, 1) := by decide +kernel
theorem dX12_begin_11 : decode prog_14_method_17_code 11 = .ok (.iastore, 1) := by decide +kernel
theorem dX12_begin_12 : decode prog_14_method_17_code 12 = .ok (.aload_n 0, 1) := by decide +kernel
theorem dX12_begin_13 : decode prog_14_method_17_code 13 = .ok (.getfield 7, 3) := by decide +kernel
theorem dX12_begin_16 : decode prog_14_method_17_code 16 = .ok (.bipush 12, 2) := by decide +kernel
theorem dX12_begin_18 : decode prog_14_method_17_code 18 = .ok (.iconst 3, 1) := by decide +kernel
theorem dX12_begin_19 : decode prog_14_method_17_code 19 = .ok (.iload_n 1, 1) := by decide +kernel
theorem dX12_begin_20 : decode prog_14_method_17_code 20 = .ok (.imul, 1) := by decide +kernel
theorem dX12_begin_21 : decode prog_14_method_17_code 21 = .ok (.iadd, 1) := by decide +kernel
theorem dX12_begin_22 : decode prog_14_method_17_code 22 = .ok (.iconst 1, 1) := by decide +kernel
theorem dX12_begin_23 : decode prog_14_method_17_code 23 = .ok (.iadd, 1) := by decide +kernel
theorem dX12_begin_24 : decode prog_14_method_17_code 24 = .ok (.iconst 0, 1) := by decide +kernel
theorem dX12_begin_25 : decode prog_14_method_17_code 25 = .ok (.iastore, 1) := by decide +kernel
theorem dX12_begin_26 : decode prog_14_method_17_code 26 = .ok (.aload_n 0, 1) := by decide +kernel
theorem dX12_begin_27 : decode prog_14_method_17_code 27 = .ok (.getfield 7, 3) := by decide +kernel
theorem dX12_begin_30 : decode prog_14_method_17_code 30 = .ok (.bipush 12, 2) := by decide +kernel
theorem dX12_begin_32 : decode prog_14_method_17_code 32 = .ok (.iconst 3, 1) := by decide +kernel
theorem dX12_begin_33 : decode prog_14_method_17_code 33 = .ok (.iload_n 1, 1) := by decide +kernel
theorem dX12_begin_34 : decode prog_14_method_17_code 34 = .ok (.imul, 1) := by decide +kernel
theorem dX12_begin_35 : decode prog_14_method_17_code 35 = .ok (.iadd, 1) := by decide +kernel
theorem dX12_begin_36 : decode prog_14_method_17_code 36 = .ok (.iconst 2, 1) := by decide +kernel
theorem dX12_begin_37 : decode prog_14_method_17_code 37 = .ok (.iadd, 1) := by decide +kernel
theorem dX12_begin_38 : decode prog_14_method_17_code 38 = .ok (.aload_n 0, 1) := by decide +kernel
theorem dX12_begin_39 : decode prog_14_method_17_code 39 = .ok (.getfield 7, 3) := by decide +kernel
theorem dX12_begin_42 : decode prog_14_method_17_code 42 = .ok (.bipush 60, 2) := by decide +kernel
theorem dX12_begin_44 : decode prog_14_method_17_code 44 = .ok (.iload_n 1, 1) := by decide +kernel
theorem dX12_begin_45 : decode prog_14_method_17_code 45 = .ok (.iadd, 1) := by decide +kernel
theorem dX12_begin_46 : decode prog_14_method_17_code 46 = .ok (.iaload, 1) := by decide +kernel
theorem dX12_begin_47 : decode prog_14_method_17_code 47 = .ok (.iastore, 1) := by decide +kernel
theorem dX12_begin_48 : decode prog_14_method_17_code 48 = .ok (.return_, 1) := by decide +kernel
theorem sp_X12_begin {q : Nat} (cs : CS S R) (hA : I 307 = A) (hq : q < 8) (hp : ∀ I', I' 307 = goA A q → F7 I I' → Post none S I' R) : Call n 0 0 mX12_begin [.ref (S.2.1 306), .int (iI (q : Int))] S I R Post := by
  refine Call.of (by decide +kernel) (Nat.le_of_ble_eq_true rfl) ?_
  show WP _ _ _ _ _ 0 [(0, _), (1, _)] [] 0 0 _ _ _
  refine x_aload_n dX12_begin_0 rfl ?_
  refine x_getR (b := 307) dX12_begin_1 gf_RX12_7 (k_ob_306 cs) (fun _ _ => rfl) (k_r_306_0 cs) ?_
  refine x_bipush dX12_begin_4 (by decide) ?_
  refine x_iconst dX12_begin_6 ?_
  refine x_iload_n dX12_begin_7 rfl ?_
  refine x_imul dX12_begin_8 ?_
  refine x_iadd dX12_begin_9 ?_
  refine x_iconst dX12_begin_10 ?_
  refine x_ast7 (kk := 12 + 3 * q) dX12_begin_11 cs (by omega) (by omega) hA (fun J11 a11 f11 => ?_)
  refine x_aload_n dX12_begin_12 rfl ?_
  refine x_getR (b := 307) dX12_begin_13 gf_RX12_7 (k_ob_306 cs) (fun _ _ => rfl) (k_r_306_0 cs) ?_
  refine x_bipush dX12_begin_16 (by decide) ?_
  refine x_iconst dX12_begin_18 ?_
  refine x_iload_n dX12_begin_19 rfl ?_
  refine x_imul dX12_begin_20 ?_
  refine x_iadd dX12_begin_21 ?_
  refine x_iconst dX12_begin_22 ?_
  refine x_iadd dX12_begin_23 ?_
  refine x_iconst dX12_begin_24 ?_
  refine x_ast7 (kk := 13 + 3 * q) dX12_begin_25 cs (by omega) (by omega) a11 (fun J25 a25 f25 => ?_)
  refine x_aload_n dX12_begin_26 rfl ?_
  refine x_getR (b := 307) dX12_begin_27 gf_RX12_7 (k_ob_306 cs) (fun _ _ => rfl) (k_r_306_0 cs) ?_
  refine x_bipush dX12_begin_30 (by decide) ?_
  refine x_iconst dX12_begin_32 ?_
  refine x_iload_n dX12_begin_33 rfl ?_
  refine x_imul dX12_begin_34 ?_
  refine x_iadd dX12_begin_35 ?_
  refine x_iconst dX12_begin_36 ?_
  refine x_iadd dX12_begin_37 ?_
  refine x_aload_n dX12_begin_38 rfl ?_
  refine x_getR (b := 307) dX12_begin_39 gf_RX12_7 (k_ob_306 cs) (fun _ _ => rfl) (k_r_306_0 cs) ?_
  refine x_bipush dX12_begin_42 (by decide) ?_
  refine x_iload_n dX12_begin_44 rfl ?_
  refine x_iadd dX12_begin_45 ?_
  refine x_ald7 (kk := 60 + q) (v := A (60 + q)) dX12_begin_46 cs (by omega) (by omega) (by rw [a25]; repeat (first | rfl | rw [upA_s] | rw [upA_o (by omega)])) ?_
  refine x_ast7 (kk := 14 + 3 * q) dX12_begin_47 cs (by omega) (by omega) a25 (fun J47 a47 f47 => ?_)
  exact x_return dX12_begin_48 rfl (by omega) (by omega) (hp _ a47 (((F7.rf.tr f11).tr f25).tr f47))
theorem dX12_earns_0 : decode prog_14_method_18_code 0 = .ok (.iload_n 1, 1) := by decide +kernel
theorem dX12_earns_1 : decode prog_14_method_18_code 1 = .ok (.iconst 0, 1) := by decide +kernel
theorem dX12_earns_2 : decode prog_14_method_18_code 2 = .ok (.bipush 99, 2) := by decide +kernel
theorem dX12_earns_4 : decode prog_14_method_18_code 4 = .ok (.invokestatic 81, 3) := by decide +kernel
theorem dX12_earns_7 : decode prog_14_method_18_code 7 = .ok (.ifCond .ne 5, 3) := by decide +kernel
theorem dX12_earns_10 : decode prog_14_method_18_code 10 = .ok (.iconst 0, 1) := by decide +kernel
theorem dX12_earns_11 : decode prog_14_method_18_code 11 = .ok (.ireturn, 1) := by decide +kernel
theorem dX12_earns_12 : decode prog_14_method_18_code 12 = .ok (.aload_n 0, 1) := by decide +kernel
theorem dX12_earns_13 : decode prog_14_method_18_code 13 = .ok (.getfield 7, 3) := by decide +kernel
theorem dX12_earns_16 : decode prog_14_method_18_code 16 = .ok (.bipush 114, 2) := by decide +kernel
theorem dX12_earns_18 : decode prog_14_method_18_code 18 = .ok (.iload_n 1, 1) := by decide +kernel
theorem dX12_earns_19 : decode prog_14_method_18_code 19 = .ok (.iastore, 1) := by decide +kernel
theorem dX12_earns_20 : decode prog_14_method_18_code 20 = .ok (.iconst 1, 1) := by decide +kernel
theorem dX12_earns_21 : decode prog_14_method_18_code 21 = .ok (.ireturn, 1) := by decide +kernel
theorem sp_X12_earns {q : Int} (cs : CS S R) (hA : I 307 = A) (hq : Rg q) (hn : 1 ≤ n) (hp : ∀ I', I' 307 = (f_earns A q).2 → F7 I I' → Post (some (.int (iI (f_earns A q).1))) S I' R) : Call n 0 0 mX12_earns [.ref (S.2.1 306), .int (iI q)] S I R Post := by
  unfold f_earns at hp
  refine Call.of (by decide +kernel) (Nat.le_of_ble_eq_true rfl) ?_
  show WP _ _ _ _ _ 0 [(0, _), (1, _)] [] 0 0 _ _ _
  refine x_iload_n dX12_earns_0 rfl ?_
  refine x_iconst dX12_earns_1 ?_
  refine x_bipush dX12_earns_2 (by decide) ?_
  refine x_callS3 (mc1 := 0) (ms1 := 0) dX12_earns_4 cv_RX12_81 (Nat.le_of_ble_eq_true rfl) (n1 := n - 1) (by omega) (by omega) (by omega) ?_
  refine sp_X12_isIn (by omega) (by omega) (by omega) (fun r4 hr4 => ?_)
  refine x_if_ne 12 dX12_earns_7 (by decide) (by omega) (fun w7 => ?_) (fun w7 => ?_)
  · refine x_aload_n dX12_earns_12 rfl ?_
    refine x_getR (b := 307) dX12_earns_13 gf_RX12_7 (k_ob_306 cs) (fun _ _ => rfl) (k_r_306_0 cs) ?_
    refine x_bipush dX12_earns_16 (by decide) ?_
    refine x_iload_n dX12_earns_18 rfl ?_
    refine x_ast7 (kk := 114) dX12_earns_19 cs (by omega) (by omega) hA (fun J19 a19 f19 => ?_)
    refine x_iconst dX12_earns_20 ?_
    exact x_zreturn (by omega) dX12_earns_21 rfl (by omega) (by omega) (by first | (rw [if_neg (by omega)] at hp; exact hp _ a19 (F7.rf.tr f19)) | (rw [if_pos (by omega)] at hp; exact hp _ a19 (F7.rf.tr f19)))
  · refine x_iconst dX12_earns_10 ?_
    exact x_zreturn (by omega) dX12_earns_11 rfl (by omega) (by omega) (by first | (rw [if_neg (by omega)] at hp; exact hp _ hA F7.rf) | (rw [if_pos (by omega)] at hp; exact hp _ hA F7.rf))
theorem dX12_digit_0 : decode prog_14_method_19_code 0 = .ok (.iload_n 1, 1) := by decide +kernel
theorem dX12_digit_1 : decode prog_14_method_19_code 1 = .ok (.iconst 0, 1) := by decide +kernel
theorem dX12_digit_2 : decode prog_14_method_19_code 2 = .ok (.iconst 3, 1) := by decide +kernel
theorem dX12_digit_3 : decode prog_14_method_19_code 3 = .ok (.invokestatic 81, 3) := by decide +kernel
theorem dX12_digit_6 : decode prog_14_method_19_code 6 = .ok (.ifCond .eq 13, 3) := by decide +kernel
theorem dX12_digit_9 : decode prog_14_method_19_code 9 = .ok (.iload_n 2, 1) := by decide +kernel
theorem dX12_digit_10 : decode prog_14_method_19_code 10 = .ok (.iconst (-1), 1) := by decide +kernel
theorem dX12_digit_11 : decode prog_14_method_19_code 11 = .ok (.bipush 9, 2) := by decide +kernel
theorem dX12_digit_13 : decode prog_14_method_19_code 13 = .ok (.invokestatic 81, 3) := by decide +kernel
theorem dX12_digit_16 : decode prog_14_method_19_code 16 = .ok (.ifCond .ne 5, 3) := by decide +kernel
theorem dX12_digit_19 : decode prog_14_method_19_code 19 = .ok (.iconst 0, 1) := by decide +kernel
theorem dX12_digit_20 : decode prog_14_method_19_code 20 = .ok (.ireturn, 1) := by decide +kernel
theorem dX12_digit_21 : decode prog_14_method_19_code 21 = .ok (.aload_n 0, 1) := by decide +kernel
theorem dX12_digit_22 : decode prog_14_method_19_code 22 = .ok (.getfield 7, 3) := by decide +kernel
theorem dX12_digit_25 : decode prog_14_method_19_code 25 = .ok (.bipush 110, 2) := by decide +kernel
theorem dX12_digit_27 : decode prog_14_method_19_code 27 = .ok (.iload_n 1, 1) := by decide +kernel
theorem dX12_digit_28 : decode prog_14_method_19_code 28 = .ok (.iadd, 1) := by decide +kernel
theorem dX12_digit_29 : decode prog_14_method_19_code 29 = .ok (.iload_n 2, 1) := by decide +kernel
theorem dX12_digit_30 : decode prog_14_method_19_code 30 = .ok (.iastore, 1) := by decide +kernel
theorem dX12_digit_31 : decode prog_14_method_19_code 31 = .ok (.iconst 1, 1) := by decide +kernel
theorem dX12_digit_32 : decode prog_14_method_19_code 32 = .ok (.ireturn, 1) := by decide +kernel
theorem sp_X12_digit {q d : Int} (cs : CS S R) (hA : I 307 = A) (hq : Rg q) (hd : Rg d) (hn : 1 ≤ n) (hp : ∀ I', I' 307 = (f_digit A q d).2 → F7 I I' → Post (some (.int (iI (f_digit A q d).1))) S I' R) : Call n 0 0 mX12_digit [.ref (S.2.1 306), .int (iI q), .int (iI d)] S I R Post := by
  unfold f_digit at hp
  refine Call.of (by decide +kernel) (Nat.le_of_ble_eq_true rfl) ?_
  show WP _ _ _ _ _ 0 [(0, _), (1, _), (2, _)] [] 0 0 _ _ _
  refine x_iload_n dX12_digit_0 rfl ?_
  refine x_iconst dX12_digit_1 ?_
  refine x_iconst dX12_digit_2 ?_
  refine x_callS3 (mc1 := 0) (ms1 := 0) dX12_digit_3 cv_RX12_81 (Nat.le_of_ble_eq_true rfl) (n1 := n - 1) (by omega) (by omega) (by omega) ?_
  refine sp_X12_isIn (by omega) (by omega) (by omega) (fun r3 hr3 => ?_)
  refine x_if_eq 19 dX12_digit_6 (by decide) (by omega) (fun w6 => ?_) (fun w6 => ?_)
  · refine x_iconst dX12_digit_19 ?_
    exact x_zreturn (by omega) dX12_digit_20 rfl (by omega) (by omega) (by first | (rw [if_neg (by omega)] at hp; exact hp _ hA F7.rf) | (rw [if_pos (by omega)] at hp; exact hp _ hA F7.rf))
  · refine x_iload_n dX12_digit_9 rfl ?_
    refine x_iconst dX12_digit_10 ?_
    refine x_bipush dX12_digit_11 (by decide) ?_
    refine x_callS3 (mc1 := 0) (ms1 := 0) dX12_digit_13 cv_RX12_81 (Nat.le_of_ble_eq_true rfl) (n1 := n - 1) (by omega) (by omega) (by omega) ?_
    refine sp_X12_isIn (by omega) (by omega) (by omega) (fun r13 hr13 => ?_)
    refine x_if_ne 21 dX12_digit_16 (by decide) (by omega) (fun w16 => ?_) (fun w16 => ?_)
    · refine x_aload_n dX12_digit_21 rfl ?_
      refine x_getR (b := 307) dX12_digit_22 gf_RX12_7 (k_ob_306 cs) (fun _ _ => rfl) (k_r_306_0 cs) ?_
      refine x_bipush dX12_digit_25 (by decide) ?_
      refine x_iload_n dX12_digit_27 rfl ?_
      refine x_iadd dX12_digit_28 ?_
      refine x_iload_n dX12_digit_29 rfl ?_
      refine x_ast7 (kk := 110 + q.toNat) dX12_digit_30 cs (by omega) (by omega) hA (fun J30 a30 f30 => ?_)
      refine x_iconst dX12_digit_31 ?_
      exact x_zreturn (by omega) dX12_digit_32 rfl (by omega) (by omega) (by first | (rw [if_neg (by omega)] at hp; exact hp _ a30 (F7.rf.tr f30)) | (rw [if_pos (by omega)] at hp; exact hp _ a30 (F7.rf.tr f30)))
    · refine x_iconst dX12_digit_19 ?_
      exact x_zreturn (by omega) dX12_digit_20 rfl (by omega) (by omega) (by first | (rw [if_neg (by omega)] at hp; exact hp _ hA F7.rf) | (rw [if_pos (by omega)] at hp; exact hp _ hA F7.rf))
theorem dX12_by_0 : decode prog_14_method_62_code 0 = .ok (.iload_n 1, 1) := by decide +kernel
theorem dX12_by_1 : decode prog_14_method_62_code 1 = .ok (.iconst (-1), 1) := by decide +kernel
theorem dX12_by_2 : decode prog_14_method_62_code 2 = .ok (.aload_n 0, 1) := by decide +kernel
theorem dX12_by_3 : decode prog_14_method_62_code 3 = .ok (.getfield 7, 3) := by decide +kernel
theorem dX12_by_6 : decode prog_14_method_62_code 6 = .ok (.iconst 1, 1) := by decide +kernel
theorem dX12_by_7 : decode prog_14_method_62_code 7 = .ok (.iaload, 1) := by decide +kernel
theorem dX12_by_8 : decode prog_14_method_62_code 8 = .ok (.iconst 1, 1) := by decide +kernel
theorem dX12_by_9 : decode prog_14_method_62_code 9 = .ok (.isub, 1) := by decide +kernel
theorem dX12_by_10 : decode prog_14_method_62_code 10 = .ok (.invokestatic 81, 3) := by decide +kernel
theorem dX12_by_13 : decode prog_14_method_62_code 13 = .ok (.ifCond .ne 5, 3) := by decide +kernel
theorem dX12_by_16 : decode prog_14_method_62_code 16 = .ok (.iconst 0, 1) := by decide +kernel
theorem dX12_by_17 : decode prog_14_method_62_code 17 = .ok (.ireturn, 1) := by decide +kernel
theorem dX12_by_18 : decode prog_14_method_62_code 18 = .ok (.aload_n 0, 1) := by decide +kernel
theorem dX12_by_19 : decode prog_14_method_62_code 19 = .ok (.getfield 7, 3) := by decide +kernel
theorem dX12_by_22 : decode prog_14_method_62_code 22 = .ok (.iconst 2, 1) := by decide +kernel
theorem dX12_by_23 : decode prog_14_method_62_code 23 = .ok (.iload_n 1, 1) := by decide +kernel
theorem dX12_by_24 : decode prog_14_method_62_code 24 = .ok (.iastore, 1) := by decide +kernel
theorem dX12_by_25 : decode prog_14_method_62_code 25 = .ok (.iconst 1, 1) := by decide +kernel
theorem dX12_by_26 : decode prog_14_method_62_code 26 = .ok (.ireturn, 1) := by decide +kernel
theorem sp_X12_by {t : Int} (cs : CS S R) (hA : I 307 = A) (hb : BA A) (ht : Rg t) (hn : 1 ≤ n) (hp : ∀ I', I' 307 = (f_by A t).2 → F7 I I' → Post (some (.int (iI (f_by A t).1))) S I' R) : Call n 0 0 mX12_by [.ref (S.2.1 306), .int (iI t)] S I R Post := by
  have b0 := hb.1.1
  have b1 := hb.2.1.1
  have b2 := hb.2.1.2.1
  have b3 := hb.2.1.2.2.1
  have b4 := hb.2.1.2.2.2.1
  have b5 := hb.2.1.2.2.2.2.1
  have b6 := hb.2.1.2.2.2.2.2.1
  have b114 := hb.2.1.2.2.2.2.2.2
  have b7 : 0 ≤ A 7 ∧ A 7 ≤ 9999 := hb.1.2.1
  have b8 : 0 ≤ A 8 ∧ A 8 ≤ 30870 := hb.1.2.2.1
  have b9 : 0 ≤ A 9 ∧ A 9 ≤ 9999 := hb.1.2.2.2.1
  have b10 : 0 ≤ A 10 ∧ A 10 ≤ 1 := hb.1.2.2.2.2.1
  have b11 := BA_11 hb
  unfold f_by at hp
  refine Call.of (by decide +kernel) (Nat.le_of_ble_eq_true rfl) ?_
  show WP _ _ _ _ _ 0 [(0, _), (1, _)] [] 0 0 _ _ _
  refine x_iload_n dX12_by_0 rfl ?_
  refine x_iconst dX12_by_1 ?_
  refine x_aload_n dX12_by_2 rfl ?_
  refine x_getR (b := 307) dX12_by_3 gf_RX12_7 (k_ob_306 cs) (fun _ _ => rfl) (k_r_306_0 cs) ?_
  refine x_iconst dX12_by_6 ?_
  refine x_ald7 (kk := 1) (v := A 1) dX12_by_7 cs (by omega) (by omega) (by rw [hA]; repeat (first | rfl | rw [upA_s] | rw [upA_o (by omega)])) ?_
  refine x_iconst dX12_by_8 ?_
  refine x_isub dX12_by_9 ?_
  refine x_callS3 (mc1 := 0) (ms1 := 0) dX12_by_10 cv_RX12_81 (Nat.le_of_ble_eq_true rfl) (n1 := n - 1) (by omega) (by omega) (by omega) ?_
  refine sp_X12_isIn (by omega) (by omega) (by omega) (fun r10 hr10 => ?_)
  refine x_if_ne 18 dX12_by_13 (by decide) (by omega) (fun w13 => ?_) (fun w13 => ?_)
  · refine x_aload_n dX12_by_18 rfl ?_
    refine x_getR (b := 307) dX12_by_19 gf_RX12_7 (k_ob_306 cs) (fun _ _ => rfl) (k_r_306_0 cs) ?_
    refine x_iconst dX12_by_22 ?_
    refine x_iload_n dX12_by_23 rfl ?_
    refine x_ast7 (kk := 2) dX12_by_24 cs (by omega) (by omega) hA (fun J24 a24 f24 => ?_)
    refine x_iconst dX12_by_25 ?_
    exact x_zreturn (by omega) dX12_by_26 rfl (by omega) (by omega) (by first | (rw [if_neg (by omega)] at hp; exact hp _ a24 (F7.rf.tr f24)) | (rw [if_pos (by omega)] at hp; exact hp _ a24 (F7.rf.tr f24)))
  · refine x_iconst dX12_by_16 ?_
    exact x_zreturn (by omega) dX12_by_17 rfl (by omega) (by omega) (by first | (rw [if_neg (by omega)] at hp; exact hp _ hA F7.rf) | (rw [if_pos (by omega)] at hp; exact hp _ hA F7.rf))
theorem dX12_hook_0 : decode prog_14_method_132_code 0 = .ok (.iload_n 1, 1) := by decide +kernel
theorem dX12_hook_1 : decode prog_14_method_132_code 1 = .ok (.iconst (-1), 1) := by decide +kernel
theorem dX12_hook_2 : decode prog_14_method_132_code 2 = .ok (.if_icmp .ne 12, 3) := by decide +kernel
theorem dX12_hook_5 : decode prog_14_method_132_code 5 = .ok (.aload_n 0, 1) := by decide +kernel
theorem dX12_hook_6 : decode prog_14_method_132_code 6 = .ok (.getfield 7, 3) := by decide +kernel
theorem dX12_hook_9 : decode prog_14_method_132_code 9 = .ok (.iconst 4, 1) := by decide +kernel
theorem dX12_hook_10 : decode prog_14_method_132_code 10 = .ok (.iconst 0, 1) := by decide +kernel
theorem dX12_hook_11 : decode prog_14_method_132_code 11 = .ok (.iastore, 1) := by decide +kernel
theorem dX12_hook_12 : decode prog_14_method_132_code 12 = .ok (.iconst 0, 1) := by decide +kernel
theorem dX12_hook_13 : decode prog_14_method_132_code 13 = .ok (.ireturn, 1) := by decide +kernel
theorem dX12_hook_14 : decode prog_14_method_132_code 14 = .ok (.iload_n 1, 1) := by decide +kernel
theorem dX12_hook_15 : decode prog_14_method_132_code 15 = .ok (.iconst 1, 1) := by decide +kernel
theorem dX12_hook_16 : decode prog_14_method_132_code 16 = .ok (.bipush 99, 2) := by decide +kernel
theorem dX12_hook_18 : decode prog_14_method_132_code 18 = .ok (.invokestatic 81, 3) := by decide +kernel
theorem dX12_hook_21 : decode prog_14_method_132_code 21 = .ok (.ifCond .eq 14, 3) := by decide +kernel
theorem dX12_hook_24 : decode prog_14_method_132_code 24 = .ok (.aload_n 0, 1) := by decide +kernel
theorem dX12_hook_25 : decode prog_14_method_132_code 25 = .ok (.getfield 7, 3) := by decide +kernel
theorem dX12_hook_28 : decode prog_14_method_132_code 28 = .ok (.iconst 4, 1) := by decide +kernel
theorem dX12_hook_29 : decode prog_14_method_132_code 29 = .ok (.iaload, 1) := by decide +kernel
theorem dX12_hook_30 : decode prog_14_method_132_code 30 = .ok (.bipush 6, 2) := by decide +kernel
theorem dX12_hook_32 : decode prog_14_method_132_code 32 = .ok (.if_icmp .ne 6, 3) := by decide +kernel
theorem dX12_hook_35 : decode prog_14_method_132_code 35 = .ok (.bipush (-2), 2) := by decide +kernel
theorem dX12_hook_37 : decode prog_14_method_132_code 37 = .ok (.ireturn, 1) := by decide +kernel
theorem dX12_hook_38 : decode prog_14_method_132_code 38 = .ok (.aload_n 0, 1) := by decide +kernel
theorem dX12_hook_39 : decode prog_14_method_132_code 39 = .ok (.getfield 7, 3) := by decide +kernel
theorem dX12_hook_42 : decode prog_14_method_132_code 42 = .ok (.bipush 68, 2) := by decide +kernel
theorem dX12_hook_44 : decode prog_14_method_132_code 44 = .ok (.aload_n 0, 1) := by decide +kernel
theorem dX12_hook_45 : decode prog_14_method_132_code 45 = .ok (.getfield 7, 3) := by decide +kernel
theorem dX12_hook_48 : decode prog_14_method_132_code 48 = .ok (.iconst 4, 1) := by decide +kernel
theorem dX12_hook_49 : decode prog_14_method_132_code 49 = .ok (.iaload, 1) := by decide +kernel
theorem dX12_hook_50 : decode prog_14_method_132_code 50 = .ok (.iadd, 1) := by decide +kernel
theorem dX12_hook_51 : decode prog_14_method_132_code 51 = .ok (.iload_n 1, 1) := by decide +kernel
theorem dX12_hook_52 : decode prog_14_method_132_code 52 = .ok (.iastore, 1) := by decide +kernel
theorem dX12_hook_53 : decode prog_14_method_132_code 53 = .ok (.aload_n 0, 1) := by decide +kernel
theorem dX12_hook_54 : decode prog_14_method_132_code 54 = .ok (.getfield 7, 3) := by decide +kernel
theorem dX12_hook_57 : decode prog_14_method_132_code 57 = .ok (.iconst 4, 1) := by decide +kernel
theorem dX12_hook_58 : decode prog_14_method_132_code 58 = .ok (.dup2, 1) := by decide +kernel
theorem dX12_hook_59 : decode prog_14_method_132_code 59 = .ok (.iaload, 1) := by decide +kernel
theorem dX12_hook_60 : decode prog_14_method_132_code 60 = .ok (.iconst 1, 1) := by decide +kernel
theorem dX12_hook_61 : decode prog_14_method_132_code 61 = .ok (.iadd, 1) := by decide +kernel
theorem dX12_hook_62 : decode prog_14_method_132_code 62 = .ok (.iastore, 1) := by decide +kernel
theorem dX12_hook_63 : decode prog_14_method_132_code 63 = .ok (.aload_n 0, 1) := by decide +kernel
theorem dX12_hook_64 : decode prog_14_method_132_code 64 = .ok (.getfield 7, 3) := by decide +kernel
theorem dX12_hook_67 : decode prog_14_method_132_code 67 = .ok (.iconst 4, 1) := by decide +kernel
theorem dX12_hook_68 : decode prog_14_method_132_code 68 = .ok (.iaload, 1) := by decide +kernel
theorem dX12_hook_69 : decode prog_14_method_132_code 69 = .ok (.ireturn, 1) := by decide +kernel
theorem sp_X12_hook {q : Int} (cs : CS S R) (hA : I 307 = A) (hb : BA A) (hq : Rg q) (hn : 1 ≤ n) (hp : ∀ I', I' 307 = (f_hook A q).2 → F7 I I' → Post (some (.int (iI (f_hook A q).1))) S I' R) : Call n 0 0 mX12_hook [.ref (S.2.1 306), .int (iI q)] S I R Post := by
  have b0 := hb.1.1
  have b1 := hb.2.1.1
  have b2 := hb.2.1.2.1
  have b3 := hb.2.1.2.2.1
  have b4 := hb.2.1.2.2.2.1
  have b5 := hb.2.1.2.2.2.2.1
  have b6 := hb.2.1.2.2.2.2.2.1
  have b114 := hb.2.1.2.2.2.2.2.2
  have b7 : 0 ≤ A 7 ∧ A 7 ≤ 9999 := hb.1.2.1
  have b8 : 0 ≤ A 8 ∧ A 8 ≤ 30870 := hb.1.2.2.1
  have b9 : 0 ≤ A 9 ∧ A 9 ≤ 9999 := hb.1.2.2.2.1
  have b10 : 0 ≤ A 10 ∧ A 10 ≤ 1 := hb.1.2.2.2.2.1
  have b11 := BA_11 hb
  unfold f_hook at hp
  refine Call.of (by decide +kernel) (Nat.le_of_ble_eq_true rfl) ?_
  show WP _ _ _ _ _ 0 [(0, _), (1, _)] [] 0 0 _ _ _
  refine x_iload_n dX12_hook_0 rfl ?_
  refine x_iconst dX12_hook_1 ?_
  refine x_icmp_ne 14 dX12_hook_2 (by decide) ⟨(by omega), (by omega)⟩ (fun w2 => ?_) (fun w2 => ?_)
  · refine x_iload_n dX12_hook_14 rfl ?_
    refine x_iconst dX12_hook_15 ?_
    refine x_bipush dX12_hook_16 (by decide) ?_
    refine x_callS3 (mc1 := 0) (ms1 := 0) dX12_hook_18 cv_RX12_81 (Nat.le_of_ble_eq_true rfl) (n1 := n - 1) (by omega) (by omega) (by omega) ?_
    refine sp_X12_isIn (by omega) (by omega) (by omega) (fun r18 hr18 => ?_)
    refine x_if_eq 35 dX12_hook_21 (by decide) (by omega) (fun w21 => ?_) (fun w21 => ?_)
    · refine x_bipush dX12_hook_35 (by decide) ?_
      exact x_ireturn dX12_hook_37 rfl (by omega) (by omega) (by first | (rw [if_pos (by omega)] at hp; exact hp _ hA F7.rf) | (rw [if_neg (by omega), if_neg (by omega)] at hp; exact hp _ hA F7.rf) | (rw [if_neg (by omega), if_pos (by omega)] at hp; exact hp _ hA F7.rf))
    · refine x_aload_n dX12_hook_24 rfl ?_
      refine x_getR (b := 307) dX12_hook_25 gf_RX12_7 (k_ob_306 cs) (fun _ _ => rfl) (k_r_306_0 cs) ?_
      refine x_iconst dX12_hook_28 ?_
      refine x_ald7 (kk := 4) (v := A 4) dX12_hook_29 cs (by omega) (by omega) (by rw [hA]; repeat (first | rfl | rw [upA_s] | rw [upA_o (by omega)])) ?_
      refine x_bipush dX12_hook_30 (by decide) ?_
      refine x_icmp_ne 38 dX12_hook_32 (by decide) ⟨(by omega), (by omega)⟩ (fun w32 => ?_) (fun w32 => ?_)
      · refine x_aload_n dX12_hook_38 rfl ?_
        refine x_getR (b := 307) dX12_hook_39 gf_RX12_7 (k_ob_306 cs) (fun _ _ => rfl) (k_r_306_0 cs) ?_
        refine x_bipush dX12_hook_42 (by decide) ?_
        refine x_aload_n dX12_hook_44 rfl ?_
        refine x_getR (b := 307) dX12_hook_45 gf_RX12_7 (k_ob_306 cs) (fun _ _ => rfl) (k_r_306_0 cs) ?_
        refine x_iconst dX12_hook_48 ?_
        refine x_ald7 (kk := 4) (v := A 4) dX12_hook_49 cs (by omega) (by omega) (by rw [hA]; repeat (first | rfl | rw [upA_s] | rw [upA_o (by omega)])) ?_
        refine x_iadd dX12_hook_50 ?_
        refine x_iload_n dX12_hook_51 rfl ?_
        refine x_ast7 (kk := 68 + (A 4).toNat) dX12_hook_52 cs (by omega) (by omega) hA (fun J52 a52 f52 => ?_)
        refine x_aload_n dX12_hook_53 rfl ?_
        refine x_getR (b := 307) dX12_hook_54 gf_RX12_7 (k_ob_306 cs) (fun _ _ => rfl) (k_r_306_0 cs) ?_
        refine x_iconst dX12_hook_57 ?_
        refine x_dup2 dX12_hook_58 rfl rfl ?_
        refine x_ald7 (kk := 4) (v := A 4) dX12_hook_59 cs (by omega) (by omega) (by rw [a52]; repeat (first | rfl | rw [upA_s] | rw [upA_o (by omega)])) ?_
        refine x_iconst dX12_hook_60 ?_
        refine x_iadd dX12_hook_61 ?_
        refine x_ast7 (kk := 4) dX12_hook_62 cs (by omega) (by omega) a52 (fun J62 a62 f62 => ?_)
        refine x_aload_n dX12_hook_63 rfl ?_
        refine x_getR (b := 307) dX12_hook_64 gf_RX12_7 (k_ob_306 cs) (fun _ _ => rfl) (k_r_306_0 cs) ?_
        refine x_iconst dX12_hook_67 ?_
        refine x_ald7 (kk := 4) (v := A 4 + 1) dX12_hook_68 cs (by omega) (by omega) (by rw [a62]; repeat (first | rfl | rw [upA_s] | rw [upA_o (by omega)])) ?_
        exact x_ireturn dX12_hook_69 rfl (by omega) (by omega) (by first | (rw [if_pos (by omega)] at hp; exact hp _ a62 ((F7.rf.tr f52).tr f62)) | (rw [if_neg (by omega), if_neg (by omega)] at hp; exact hp _ a62 ((F7.rf.tr f52).tr f62)) | (rw [if_neg (by omega), if_pos (by omega)] at hp; exact hp _ a62 ((F7.rf.tr f52).tr f62)))
      · refine x_bipush dX12_hook_35 (by decide) ?_
        exact x_ireturn dX12_hook_37 rfl (by omega) (by omega) (by first | (rw [if_pos (by omega)] at hp; exact hp _ hA F7.rf) | (rw [if_neg (by omega), if_neg (by omega)] at hp; exact hp _ hA F7.rf) | (rw [if_neg (by omega), if_pos (by omega)] at hp; exact hp _ hA F7.rf))
  · refine x_aload_n dX12_hook_5 rfl ?_
    refine x_getR (b := 307) dX12_hook_6 gf_RX12_7 (k_ob_306 cs) (fun _ _ => rfl) (k_r_306_0 cs) ?_
    refine x_iconst dX12_hook_9 ?_
    refine x_iconst dX12_hook_10 ?_
    refine x_ast7 (kk := 4) dX12_hook_11 cs (by omega) (by omega) hA (fun J11 a11 f11 => ?_)
    refine x_iconst dX12_hook_12 ?_
    exact x_ireturn dX12_hook_13 rfl (by omega) (by omega) (by first | (rw [if_pos (by omega)] at hp; exact hp _ a11 (F7.rf.tr f11)) | (rw [if_neg (by omega), if_neg (by omega)] at hp; exact hp _ a11 (F7.rf.tr f11)) | (rw [if_neg (by omega), if_pos (by omega)] at hp; exact hp _ a11 (F7.rf.tr f11)))
end Ref1
