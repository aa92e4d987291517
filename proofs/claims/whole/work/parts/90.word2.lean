section Word2
variable {n mc ms : Nat} {M : Md} {pc : Nat} {lv : List (Nat × Value)} {st : List Value} {k j : Nat} {Post : PT} {S : Sh} {I : CI} {R : CR} {A : Nat → Int} {tx : Nat → Nat → Int}
theorem dX12_isWord_0 : decode prog_14_method_33_code 0 = .ok (.aload_n 0, 1) := by decide +kernel
theorem dX12_isWord_1 : decode prog_14_method_33_code 1 = .ok (.getfield 115, 3) := by decide +kernel
theorem dX12_isWord_4 : decode prog_14_method_33_code 4 = .ok (.iconst 2, 1) := by decide +kernel
theorem dX12_isWord_5 : decode prog_14_method_33_code 5 = .ok (.if_icmp .ne 16, 3) := by decide +kernel
theorem dX12_isWord_8 : decode prog_14_method_33_code 8 = .ok (.aload_n 0, 1) := by decide +kernel
theorem dX12_isWord_9 : decode prog_14_method_33_code 9 = .ok (.getfield 128, 3) := by decide +kernel
theorem dX12_isWord_12 : decode prog_14_method_33_code 12 = .ok (.lload_n 1, 1) := by decide +kernel
theorem dX12_isWord_13 : decode prog_14_method_33_code 13 = .ok (.lcmp, 1) := by decide +kernel
theorem dX12_isWord_14 : decode prog_14_method_33_code 14 = .ok (.ifCond .ne 7, 3) := by decide +kernel
theorem dX12_isWord_17 : decode prog_14_method_33_code 17 = .ok (.iconst 1, 1) := by decide +kernel
theorem dX12_isWord_18 : decode prog_14_method_33_code 18 = .ok (.goto 4, 3) := by decide +kernel
theorem dX12_isWord_21 : decode prog_14_method_33_code 21 = .ok (.iconst 0, 1) := by decide +kernel
theorem dX12_isWord_22 : decode prog_14_method_33_code 22 = .ok (.ireturn, 1) := by decide +kernel
theorem sp_X12_isWord {w : Int} (cs : CS S R) (hw : Rl w ∧ Rl (I 306 11) ∧ Rg (I 306 9)) (hp : ∀ r : Int, (r = 1 ∧ I 306 9 = 2 ∧ I 306 11 = w ∨ r = 0 ∧ ¬ (I 306 9 = 2 ∧ I 306 11 = w)) → Post (some (.int (iI r))) S I R) : Call n 0 0 mX12_isWord [.ref (S.2.1 306), .long (lI w)] S I R Post := by
  refine Call.of (by decide +kernel) (Nat.le_of_ble_eq_true rfl) ?_
  show WP _ _ _ _ _ 0 [(0, _), (1, _)] [] 0 0 _ _ _
  refine x_aload_n dX12_isWord_0 rfl ?_
  refine x_getI dX12_isWord_1 gf_RX12_115 (k_ob_306 cs) (fun _ _ => rfl) ?_
  refine x_iconst dX12_isWord_4 ?_
  refine x_icmp_ne 21 dX12_isWord_5 (by decide) ⟨(by omega), (by omega)⟩ (fun w5 => ?_) (fun w5 => ?_)
  · refine x_iconst dX12_isWord_21 ?_
    exact x_zreturn (by omega) dX12_isWord_22 rfl (by omega) (by omega) (hp _ (by omega))
  · refine x_aload_n dX12_isWord_8 rfl ?_
    refine x_getL dX12_isWord_9 gf_RX12_128 (k_ob_306 cs) (fun _ _ => rfl) ?_
    refine x_lload_n dX12_isWord_12 rfl ?_
    refine x_lcif_ne 21 dX12_isWord_13 dX12_isWord_14 (by decide) (by omega) (fun w13 => ?_) (fun w13 => ?_)
    · refine x_iconst dX12_isWord_21 ?_
      exact x_zreturn (by omega) dX12_isWord_22 rfl (by omega) (by omega) (hp _ (by omega))
    · refine x_iconst dX12_isWord_17 ?_
      refine x_goto 22 dX12_isWord_18 (by decide) ?_
      exact x_zreturn (by omega) dX12_isWord_22 rfl (by omega) (by omega) (hp _ (by omega))
end Word2
