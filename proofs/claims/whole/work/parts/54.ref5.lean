section Ref5
variable {n mc ms : Nat} {M : Md} {pc : Nat} {lv : List (Nat × Value)} {st : List Value} {k j : Nat} {Post : PT} {S : Sh} {I : CI} {R : CR} {A : Nat → Int} {tx : Nat → Nat → Int}
theorem dX12_undo_0 : decode prog_14_method_87_code 0 = .ok (.aload_n 0, 1) := by decide +kernel
theorem dX12_undo_1 : decode prog_14_method_87_code 1 = .ok (.getfield 7, 3) := by decide +kernel
theorem dX12_undo_4 : decode prog_14_method_87_code 4 = .ok (.iconst 3, 1) := by decide +kernel
theorem dX12_undo_5 : decode prog_14_method_87_code 5 = .ok (.iaload, 1) := by decide +kernel
theorem dX12_undo_6 : decode prog_14_method_87_code 6 = .ok (.ifCond .ne 5, 3) := by decide +kernel
theorem dX12_undo_9 : decode prog_14_method_87_code 9 = .ok (.iconst (-1), 1) := by decide +kernel
theorem dX12_undo_10 : decode prog_14_method_87_code 10 = .ok (.ireturn, 1) := by decide +kernel
theorem dX12_undo_11 : decode prog_14_method_87_code 11 = .ok (.aload_n 0, 1) := by decide +kernel
theorem dX12_undo_12 : decode prog_14_method_87_code 12 = .ok (.getfield 7, 3) := by decide +kernel
theorem dX12_undo_15 : decode prog_14_method_87_code 15 = .ok (.iconst 3, 1) := by decide +kernel
theorem dX12_undo_16 : decode prog_14_method_87_code 16 = .ok (.dup2, 1) := by decide +kernel
theorem dX12_undo_17 : decode prog_14_method_87_code 17 = .ok (.iaload, 1) := by decide +kernel
theorem dX12_undo_18 : decode prog_14_method_87_code 18 = .ok (.iconst 1, 1) := by decide +kernel
theorem dX12_undo_19 : decode prog_14_method_87_code 19 = .ok (.isub, 1) := by decide +kernel
theorem dX12_undo_20 : decode prog_14_method_87_code 20 = .ok (.iastore, 1) := by decide +kernel
theorem dX12_undo_21 : decode prog_14_method_87_code 21 = .ok (.bipush 115, 2) := by decide +kernel
theorem dX12_undo_23 : decode prog_14_method_87_code 23 = .ok (.bipush 90, 2) := by decide +kernel
theorem dX12_undo_25 : decode prog_14_method_87_code 25 = .ok (.aload_n 0, 1) := by decide +kernel
theorem dX12_undo_26 : decode prog_14_method_87_code 26 = .ok (.getfield 7, 3) := by decide +kernel
theorem dX12_undo_29 : decode prog_14_method_87_code 29 = .ok (.iconst 3, 1) := by decide +kernel
theorem dX12_undo_30 : decode prog_14_method_87_code 30 = .ok (.iaload, 1) := by decide +kernel
theorem dX12_undo_31 : decode prog_14_method_87_code 31 = .ok (.imul, 1) := by decide +kernel
theorem dX12_undo_32 : decode prog_14_method_87_code 32 = .ok (.iadd, 1) := by decide +kernel
theorem dX12_undo_33 : decode prog_14_method_87_code 33 = .ok (.istore_n 1, 1) := by decide +kernel
theorem dX12_undo_34 : decode prog_14_method_87_code 34 = .ok (.iconst 0, 1) := by decide +kernel
theorem dX12_undo_35 : decode prog_14_method_87_code 35 = .ok (.istore_n 2, 1) := by decide +kernel
theorem dX12_undo_36 : decode prog_14_method_87_code 36 = .ok (.iload_n 2, 1) := by decide +kernel
theorem dX12_undo_37 : decode prog_14_method_87_code 37 = .ok (.bipush 29, 2) := by decide +kernel
theorem dX12_undo_39 : decode prog_14_method_87_code 39 = .ok (.if_icmp .ge 28, 3) := by decide +kernel
theorem dX12_undo_42 : decode prog_14_method_87_code 42 = .ok (.aload_n 0, 1) := by decide +kernel
theorem dX12_undo_43 : decode prog_14_method_87_code 43 = .ok (.getfield 7, 3) := by decide +kernel
theorem dX12_undo_46 : decode prog_14_method_87_code 46 = .ok (.bipush 7, 2) := by decide +kernel
theorem dX12_undo_48 : decode prog_14_method_87_code 48 = .ok (.iload_n 2, 1) := by decide +kernel
theorem dX12_undo_49 : decode prog_14_method_87_code 49 = .ok (.iadd, 1) := by decide +kernel
theorem dX12_undo_50 : decode prog_14_method_87_code 50 = .ok (.aload_n 0, 1) := by decide +kernel
theorem dX12_undo_51 : decode prog_14_method_87_code 51 = .ok (.getfield 7, 3) := by decide +kernel
theorem dX12_undo_54 : decode prog_14_method_87_code 54 = .ok (.iload_n 1, 1) := by decide +kernel
theorem dX12_undo_55 : decode prog_14_method_87_code 55 = .ok (.iconst 1, 1) := by decide +kernel
theorem dX12_undo_56 : decode prog_14_method_87_code 56 = .ok (.iadd, 1) := by decide +kernel
theorem dX12_undo_57 : decode prog_14_method_87_code 57 = .ok (.iload_n 2, 1) := by decide +kernel
theorem dX12_undo_58 : decode prog_14_method_87_code 58 = .ok (.iadd, 1) := by decide +kernel
theorem dX12_undo_59 : decode prog_14_method_87_code 59 = .ok (.iaload, 1) := by decide +kernel
theorem dX12_undo_60 : decode prog_14_method_87_code 60 = .ok (.iastore, 1) := by decide +kernel
theorem dX12_undo_61 : decode prog_14_method_87_code 61 = .ok (.iinc 2 1, 3) := by decide +kernel
theorem dX12_undo_64 : decode prog_14_method_87_code 64 = .ok (.goto (-28), 3) := by decide +kernel
theorem dX12_undo_67 : decode prog_14_method_87_code 67 = .ok (.aload_n 0, 1) := by decide +kernel
theorem dX12_undo_68 : decode prog_14_method_87_code 68 = .ok (.getfield 7, 3) := by decide +kernel
theorem dX12_undo_71 : decode prog_14_method_87_code 71 = .ok (.iload_n 1, 1) := by decide +kernel
theorem dX12_undo_72 : decode prog_14_method_87_code 72 = .ok (.iaload, 1) := by decide +kernel
theorem dX12_undo_73 : decode prog_14_method_87_code 73 = .ok (.istore_n 2, 1) := by decide +kernel
theorem dX12_undo_74 : decode prog_14_method_87_code 74 = .ok (.iload_n 2, 1) := by decide +kernel
theorem dX12_undo_75 : decode prog_14_method_87_code 75 = .ok (.aload_n 0, 1) := by decide +kernel
theorem dX12_undo_76 : decode prog_14_method_87_code 76 = .ok (.getfield 7, 3) := by decide +kernel
theorem dX12_undo_79 : decode prog_14_method_87_code 79 = .ok (.iconst 0, 1) := by decide +kernel
theorem dX12_undo_80 : decode prog_14_method_87_code 80 = .ok (.iaload, 1) := by decide +kernel
theorem dX12_undo_81 : decode prog_14_method_87_code 81 = .ok (.if_icmp .ge 14, 3) := by decide +kernel
theorem dX12_undo_84 : decode prog_14_method_87_code 84 = .ok (.aload_n 0, 1) := by decide +kernel
theorem dX12_undo_85 : decode prog_14_method_87_code 85 = .ok (.iload_n 2, 1) := by decide +kernel
theorem dX12_undo_86 : decode prog_14_method_87_code 86 = .ok (.invokevirtual 96, 3) := by decide +kernel
theorem dX12_undo_89 : decode prog_14_method_87_code 89 = .ok (.iinc 2 1, 3) := by decide +kernel
theorem dX12_undo_92 : decode prog_14_method_87_code 92 = .ok (.goto (-18), 3) := by decide +kernel
theorem dX12_undo_95 : decode prog_14_method_87_code 95 = .ok (.iconst 0, 1) := by decide +kernel
theorem dX12_undo_96 : decode prog_14_method_87_code 96 = .ok (.istore_n 2, 1) := by decide +kernel
theorem dX12_undo_97 : decode prog_14_method_87_code 97 = .ok (.iload_n 2, 1) := by decide +kernel
theorem dX12_undo_98 : decode prog_14_method_87_code 98 = .ok (.bipush 60, 2) := by decide +kernel
theorem dX12_undo_100 : decode prog_14_method_87_code 100 = .ok (.if_icmp .ge 30, 3) := by decide +kernel
theorem dX12_undo_103 : decode prog_14_method_87_code 103 = .ok (.aload_n 0, 1) := by decide +kernel
theorem dX12_undo_104 : decode prog_14_method_87_code 104 = .ok (.getfield 7, 3) := by decide +kernel
theorem dX12_undo_107 : decode prog_14_method_87_code 107 = .ok (.sipush 2815, 3) := by decide +kernel
theorem dX12_undo_110 : decode prog_14_method_87_code 110 = .ok (.iload_n 2, 1) := by decide +kernel
theorem dX12_undo_111 : decode prog_14_method_87_code 111 = .ok (.iadd, 1) := by decide +kernel
theorem dX12_undo_112 : decode prog_14_method_87_code 112 = .ok (.aload_n 0, 1) := by decide +kernel
theorem dX12_undo_113 : decode prog_14_method_87_code 113 = .ok (.getfield 7, 3) := by decide +kernel
theorem dX12_undo_116 : decode prog_14_method_87_code 116 = .ok (.iload_n 1, 1) := by decide +kernel
theorem dX12_undo_117 : decode prog_14_method_87_code 117 = .ok (.bipush 30, 2) := by decide +kernel
theorem dX12_undo_119 : decode prog_14_method_87_code 119 = .ok (.iadd, 1) := by decide +kernel
theorem dX12_undo_120 : decode prog_14_method_87_code 120 = .ok (.iload_n 2, 1) := by decide +kernel
theorem dX12_undo_121 : decode prog_14_method_87_code 121 = .ok (.iadd, 1) := by decide +kernel
theorem dX12_undo_122 : decode prog_14_method_87_code 122 = .ok (.iaload, 1) := by decide +kernel
theorem dX12_undo_123 : decode prog_14_method_87_code 123 = .ok (.iastore, 1) := by decide +kernel
theorem dX12_undo_124 : decode prog_14_method_87_code 124 = .ok (.iinc 2 1, 3) := by decide +kernel
theorem dX12_undo_127 : decode prog_14_method_87_code 127 = .ok (.goto (-30), 3) := by decide +kernel
theorem dX12_undo_130 : decode prog_14_method_87_code 130 = .ok (.aload_n 0, 1) := by decide +kernel
theorem dX12_undo_131 : decode prog_14_method_87_code 131 = .ok (.getfield 7, 3) := by decide +kernel
theorem dX12_undo_134 : decode prog_14_method_87_code 134 = .ok (.iconst 3, 1) := by decide +kernel
theorem dX12_undo_135 : decode prog_14_method_87_code 135 = .ok (.iaload, 1) := by decide +kernel
theorem dX12_undo_136 : decode prog_14_method_87_code 136 = .ok (.ireturn, 1) := by decide +kernel
theorem lp1_undo {B : Nat → Int} {x : Nat} (hx : 115 ≤ x ∧ x ≤ 2725) (cs : CS S R) (hK : ∀ J, J 307 = mvA B (7) (x + 1) 29 → F7 I J → WP n 0 0 mX12_undo Post 67 [(0, .ref (S.2.1 306)), (1, .int (iI (x : Int)))] [] 0 0 S J R) : ∀ (d k : Nat) (J : CI), k ≤ 29 → 29 - k = d → J 307 = mvA B (7) (x + 1) k → F7 I J → WP n 0 0 mX12_undo Post 36 [(0, .ref (S.2.1 306)), (1, .int (iI (x : Int))), (2, .int (iI (k : Int)))] [] 0 0 S J R := by
  intro d
  induction d using Nat.strongRecOn with
  | ind d ih =>
    intro k J k1 k2 hA hF
    refine x_iload_n dX12_undo_36 rfl ?_
    refine x_bipush dX12_undo_37 (by decide) ?_
    refine x_icmp_ge 67 dX12_undo_39 (by decide) ⟨(by omega), (by omega)⟩ (fun w39 => ?_) (fun w39 => ?_)
    · refine x_sub [0, 1] rfl ?_
      obtain rfl : k = 29 := by omega
      exact hK _ hA hF
    · refine x_aload_n dX12_undo_42 rfl ?_
      refine x_getR (b := 307) dX12_undo_43 gf_RX12_7 (k_ob_306 cs) (fun _ _ => rfl) (k_r_306_0 cs) ?_
      refine x_bipush dX12_undo_46 (by decide) ?_
      refine x_iload_n dX12_undo_48 rfl ?_
      refine x_iadd dX12_undo_49 ?_
      refine x_aload_n dX12_undo_50 rfl ?_
      refine x_getR (b := 307) dX12_undo_51 gf_RX12_7 (k_ob_306 cs) (fun _ _ => rfl) (k_r_306_0 cs) ?_
      refine x_iload_n dX12_undo_54 rfl ?_
      refine x_iconst dX12_undo_55 ?_
      refine x_iadd dX12_undo_56 ?_
      refine x_iload_n dX12_undo_57 rfl ?_
      refine x_iadd dX12_undo_58 ?_
      refine x_ald7 (kk := x + 1 + k) (v := B (x + 1 + k)) dX12_undo_59 cs (by omega) (by omega) (by rw [hA]; exact mvA_at (by omega)) ?_
      refine x_ast7 (kk := 7 + k) dX12_undo_60 cs (by omega) (by omega) hA (fun J60 a60 f60 => ?_)
      refine x_iinc (lv2 := [(2, _), (0, _), (1, _)]) dX12_undo_61 rfl (by decide) rfl ?_
      refine x_goto 36 dX12_undo_64 (by decide) ?_
      refine x_sub [1, 2, 0] rfl ?_
      refine ih _ (by omega) (k + 1) _ (by omega) rfl ?_ (hF.tr (F7.rf.tr f60))
      rw [a60]
      exact mvA_s
theorem lp3_undo {B : Nat → Int} {x : Nat} (hx : 115 ≤ x ∧ x ≤ 2725) (cs : CS S R) (hK : ∀ J, J 307 = mvA B (2815) (x + 30) 60 → F7 I J → WP n 0 0 mX12_undo Post 130 [(0, .ref (S.2.1 306))] [] 0 0 S J R) : ∀ (d k : Nat) (J : CI), k ≤ 60 → 60 - k = d → J 307 = mvA B (2815) (x + 30) k → F7 I J → WP n 0 0 mX12_undo Post 97 [(0, .ref (S.2.1 306)), (1, .int (iI (x : Int))), (2, .int (iI (k : Int)))] [] 0 0 S J R := by
  intro d
  induction d using Nat.strongRecOn with
  | ind d ih =>
    intro k J k1 k2 hA hF
    refine x_iload_n dX12_undo_97 rfl ?_
    refine x_bipush dX12_undo_98 (by decide) ?_
    refine x_icmp_ge 130 dX12_undo_100 (by decide) ⟨(by omega), (by omega)⟩ (fun w100 => ?_) (fun w100 => ?_)
    · refine x_sub [0] rfl ?_
      obtain rfl : k = 60 := by omega
      exact hK _ hA hF
    · refine x_aload_n dX12_undo_103 rfl ?_
      refine x_getR (b := 307) dX12_undo_104 gf_RX12_7 (k_ob_306 cs) (fun _ _ => rfl) (k_r_306_0 cs) ?_
      refine x_sipush dX12_undo_107 (by decide) ?_
      refine x_iload_n dX12_undo_110 rfl ?_
      refine x_iadd dX12_undo_111 ?_
      refine x_aload_n dX12_undo_112 rfl ?_
      refine x_getR (b := 307) dX12_undo_113 gf_RX12_7 (k_ob_306 cs) (fun _ _ => rfl) (k_r_306_0 cs) ?_
      refine x_iload_n dX12_undo_116 rfl ?_
      refine x_bipush dX12_undo_117 (by decide) ?_
      refine x_iadd dX12_undo_119 ?_
      refine x_iload_n dX12_undo_120 rfl ?_
      refine x_iadd dX12_undo_121 ?_
      refine x_ald7 (kk := x + 30 + k) (v := B (x + 30 + k)) dX12_undo_122 cs (by omega) (by omega) (by rw [hA]; exact mvA_at (by omega)) ?_
      refine x_ast7 (kk := 2815 + k) dX12_undo_123 cs (by omega) (by omega) hA (fun J123 a123 f123 => ?_)
      refine x_iinc (lv2 := [(2, _), (0, _), (1, _)]) dX12_undo_124 rfl (by decide) rfl ?_
      refine x_goto 97 dX12_undo_127 (by decide) ?_
      refine x_sub [1, 2, 0] rfl ?_
      refine ih _ (by omega) (k + 1) _ (by omega) rfl ?_ (hF.tr (F7.rf.tr f123))
      rw [a123]
      exact mvA_s
theorem goL_cong {B B' : Nat → Int} {q0 i : Nat} : ∀ k : Nat, q0 + k ≤ 8 → B i = B' i → (∀ q, q < 8 → B (60 + q) = B' (60 + q)) → goL B q0 k i = goL B' q0 k i := by
  intro k
  induction k with
  | zero => intro _ h _; exact h
  | succ k ih =>
    intro h1 h2 h3
    show goA (goL B q0 k) (q0 + k) i = goA (goL B' q0 k) (q0 + k) i
    unfold goA upA
    rw [goL_o (B := B) (i := 60 + (q0 + k)) k (by omega) (by omega), goL_o (B := B') (i := 60 + (q0 + k)) k (by omega) (by omega), h3 _ (by omega), ih (by omega) h2 h3]
theorem undo_eq (h3 : 0 < A 3 ∧ A 3 ≤ 30) (h0 : 0 ≤ A (uX A) ∧ A (uX A) ≤ A 0 ∧ A 0 ≤ 8) : mvA (goL (mvA (upA A 3 (A 3 - 1)) 7 (uX A + 1) 29) (A (uX A)).toNat (A 0 - A (uX A)).toNat) 2815 (uX A + 30) 60 = undoA A := by
  have hx : 115 ≤ uX A ∧ uX A ≤ 2725 := by unfold uX; omega
  have hd : ∀ i, i ≠ 0 → (i < 2815 ∨ 2875 ≤ i) → mvA (upA A 3 (A 3 - 1)) 7 (uX A + 1) 29 i = undX A i := by
    intro i h1 h2
    unfold undX
    rw [if_neg h1]
    by_cases c3 : i = 3
    · rw [if_pos c3, c3, mvA_at (by omega), upA_s]
    · rw [if_neg c3]
      by_cases c7 : 7 ≤ i ∧ i ≤ 35
      · rw [if_pos c7]
        show (if _ then _ else _) = _
        rw [if_pos (by omega), upA_o (by omega), show uX A + 1 + (i - 7) = uX A + (i - 6) by omega]
      · rw [if_neg c7, if_neg (by omega), mvA_at (by omega), upA_o c3]
  funext i
  unfold undoA
  by_cases c0 : i = 0
  · subst c0
    rw [upA_s, mvA_at (by omega), goL_o _ (by omega) (by omega), mvA_at (by omega), upA_o (by omega)]
  · rw [upA_o c0]
    by_cases c1 : 2815 ≤ i ∧ i < 2875
    · rw [show mvA (goL (mvA (upA A 3 (A 3 - 1)) 7 (uX A + 1) 29) (A (uX A)).toNat (A 0 - A (uX A)).toNat) 2815 (uX A + 30) 60 i = goL (mvA (upA A 3 (A 3 - 1)) 7 (uX A + 1) 29) (A (uX A)).toNat (A 0 - A (uX A)).toNat (uX A + 30 + (i - 2815)) from if_pos (by omega), goL_o _ (by omega) (by omega), goL_o _ (by omega) (by omega), mvA_at (by omega), upA_o (by omega)]
      unfold undX
      rw [if_neg c0, if_neg (by omega), if_neg (by omega), if_pos c1, show uX A + 30 + (i - 2815) = uX A + (i - 2785) by omega]
    · rw [mvA_at (by omega)]
      exact goL_cong _ (by omega) (hd i c0 (by omega)) (fun q hq => hd _ (by omega) (by omega))
theorem lp2_undo {B : Nat → Int} {x q0 mm : Nat} (cs : CS S R) (hB0 : B 0 = (q0 : Int) + mm) (hm : q0 + mm ≤ 8) (hn : 1 ≤ n) (hK : ∀ J, J 307 = goL B q0 mm → F7 I J → WP n 0 0 mX12_undo Post 95 [(0, .ref (S.2.1 306)), (1, .int (iI (x : Int)))] [] 0 0 S J R) : ∀ (d k : Nat) (J : CI), k ≤ mm → mm - k = d → J 307 = goL B q0 k → F7 I J → WP n 0 0 mX12_undo Post 74 [(0, .ref (S.2.1 306)), (1, .int (iI (x : Int))), (2, .int (iI ((q0 + k : Nat) : Int)))] [] 0 0 S J R := by
  intro d
  induction d using Nat.strongRecOn with
  | ind d ih =>
    intro k J k1 k2 hA hF
    refine x_iload_n dX12_undo_74 rfl ?_
    refine x_aload_n dX12_undo_75 rfl ?_
    refine x_getR (b := 307) dX12_undo_76 gf_RX12_7 (k_ob_306 cs) (fun _ _ => rfl) (k_r_306_0 cs) ?_
    refine x_iconst dX12_undo_79 ?_
    refine x_ald7 (kk := 0) (v := (q0 : Int) + mm) dX12_undo_80 cs (by omega) (by omega) (by rw [hA]; rw [goL_o k (by omega) (by omega)]; exact hB0) ?_
    refine x_icmp_ge 95 dX12_undo_81 (by decide) ⟨(by omega), (by omega)⟩ (fun w81 => ?_) (fun w81 => ?_)
    · refine x_sub [0, 1] rfl ?_
      obtain rfl : k = mm := by omega
      exact hK _ hA hF
    · refine x_aload_n dX12_undo_84 rfl ?_
      refine x_iload_n dX12_undo_85 rfl ?_
      refine x_callV1 (mc1 := 0) (ms1 := 0) dX12_undo_86 cv_RX12_96 (ci := 12) (k_ob_306 cs) rfl (Nat.le_of_ble_eq_true rfl) (n1 := n - 1) (by omega) (by omega) (by omega) ?_
      refine sp_X12_begin (q := q0 + k) cs hA (by omega) (fun J86 a86 f86 => ?_)
      refine x_iinc (lv2 := [(2, _), (0, _), (1, _)]) dX12_undo_89 rfl (by decide) rfl ?_
      refine x_goto 74 dX12_undo_92 (by decide) ?_
      refine x_sub [1, 2, 0] rfl ?_
      rw [show ((q0 + k : Nat) : Int) + 1 = ((q0 + (k + 1) : Nat) : Int) by omega]
      exact ih _ (by omega) (k + 1) _ (by omega) rfl a86 (hF.tr f86)
theorem sp_X12_undo  (cs : CS S R) (hA : I 307 = A) (hb : BA A) (hn : 1 ≤ n) (hp : ∀ I', I' 307 = (f_undo A).2 → F7 I I' → Post (some (.int (iI (f_undo A).1))) S I' R) : Call n 0 0 mX12_undo [.ref (S.2.1 306)] S I R Post := by
  have b0 := hb.1.1
  have b1 := hb.2.1.1
  have b2 := hb.2.1.2.1
  have b3 := hb.2.1.2.2.1
  have b4 := hb.2.1.2.2.2.1
  have b5 := hb.2.1.2.2.2.2.1
  have b6 := hb.2.1.2.2.2.2.2.1
  have b114 := hb.2.1.2.2.2.2.2.2
  have b7 : 0 ≤ A 7 ∧ A 7 ≤ 9999 := hb.1.2.1
  have b8 : 0 ≤ A 8 ∧ A 8 ≤ 30870 := hb.1.2.2.1
  have b9 : 0 ≤ A 9 ∧ A 9 ≤ 9999 := hb.1.2.2.2.1
  have b10 : 0 ≤ A 10 ∧ A 10 ≤ 1 := hb.1.2.2.2.2.1
  have b11 := BA_11 hb
  unfold f_undo at hp
  refine Call.of (by decide +kernel) (Nat.le_of_ble_eq_true rfl) ?_
  show WP _ _ _ _ _ 0 [(0, _)] [] 0 0 _ _ _
  refine x_aload_n dX12_undo_0 rfl ?_
  refine x_getR (b := 307) dX12_undo_1 gf_RX12_7 (k_ob_306 cs) (fun _ _ => rfl) (k_r_306_0 cs) ?_
  refine x_iconst dX12_undo_4 ?_
  refine x_ald7 (kk := 3) (v := A 3) dX12_undo_5 cs (by omega) (by omega) (by rw [hA]; repeat (first | rfl | rw [upA_s] | rw [upA_o (by omega)])) ?_
  refine x_if_ne 11 dX12_undo_6 (by decide) (by omega) (fun w6 => ?_) (fun w6 => ?_)
  · refine x_aload_n dX12_undo_11 rfl ?_
    refine x_getR (b := 307) dX12_undo_12 gf_RX12_7 (k_ob_306 cs) (fun _ _ => rfl) (k_r_306_0 cs) ?_
    refine x_iconst dX12_undo_15 ?_
    refine x_dup2 dX12_undo_16 rfl rfl ?_
    refine x_ald7 (kk := 3) (v := A 3) dX12_undo_17 cs (by omega) (by omega) (by rw [hA]; repeat (first | rfl | rw [upA_s] | rw [upA_o (by omega)])) ?_
    refine x_iconst dX12_undo_18 ?_
    refine x_isub dX12_undo_19 ?_
    refine x_ast7 (kk := 3) dX12_undo_20 cs (by omega) (by omega) hA (fun J20 a20 f20 => ?_)
    refine x_bipush dX12_undo_21 (by decide) ?_
    refine x_bipush dX12_undo_23 (by decide) ?_
    refine x_aload_n dX12_undo_25 rfl ?_
    refine x_getR (b := 307) dX12_undo_26 gf_RX12_7 (k_ob_306 cs) (fun _ _ => rfl) (k_r_306_0 cs) ?_
    refine x_iconst dX12_undo_29 ?_
    refine x_ald7 (kk := 3) (v := A 3 - 1) dX12_undo_30 cs (by omega) (by omega) (by rw [a20]; repeat (first | rfl | rw [upA_s] | rw [upA_o (by omega)])) ?_
    refine x_imul dX12_undo_31 ?_
    refine x_iadd dX12_undo_32 ?_
    refine x_istore_n (lv2 := [(1, _), (0, _)]) dX12_undo_33 (by decide) rfl ?_
    refine x_iconst dX12_undo_34 ?_
    refine x_istore_n (lv2 := [(2, _), (1, _), (0, _)]) dX12_undo_35 (by decide) rfl ?_
    refine x_sub [2, 1, 0] rfl ?_
    rw [if_neg (by omega)] at hp
    have hx : 115 ≤ uX A ∧ uX A ≤ 2725 := by unfold uX; omega
    have hst := hb.2.2.2.2.2.2.2 (A 3 - 1).toNat (by omega)
    have hu : A (uX A) = A (115 + 90 * (A 3 - 1).toNat) := rfl
    have hq0 := hst.1.1
    rw [← hu] at hq0
    have hq1 : A (uX A) ≤ A 0 := hst.2.1
    rw [show (115 : Int) + 90 * (A 3 - 1) = ((uX A : Nat) : Int) by unfold uX; omega]
    refine lp1_undo (x := uX A) hx cs (fun J1 a1 f1 => ?_) _ 0 _ (by omega) rfl (by rw [a20, mvA_0]) F7.rf
    refine x_aload_n dX12_undo_67 rfl ?_
    refine x_getR (b := 307) dX12_undo_68 gf_RX12_7 (k_ob_306 cs) (fun _ _ => rfl) (k_r_306_0 cs) ?_
    refine x_iload_n dX12_undo_71 rfl ?_
    refine x_ald7 (kk := uX A) (v := A (uX A)) dX12_undo_72 cs (by omega) (by omega) (by rw [a1, mvA_at (by omega), upA_o (by omega)]) ?_
    refine x_istore_n (lv2 := [(2, _), (0, _), (1, _)]) dX12_undo_73 (by decide) rfl ?_
    refine x_sub [1, 2, 0] rfl ?_
    rw [show A (uX A) = (((A (uX A)).toNat + 0 : Nat) : Int) by omega]
    refine lp2_undo (B := mvA (upA A 3 (A 3 - 1)) 7 (uX A + 1) 29) (x := uX A) (q0 := (A (uX A)).toNat) (mm := (A 0 - A (uX A)).toNat) cs (by rw [mvA_at (by omega), upA_o (by omega)]; omega) (by omega) hn (fun J2 a2 f2 => ?_) _ 0 _ (by omega) rfl a1 F7.rf
    refine x_iconst dX12_undo_95 ?_
    refine x_istore_n (lv2 := [(2, _), (0, _), (1, _)]) dX12_undo_96 (by decide) rfl ?_
    refine x_sub [1, 2, 0] rfl ?_
    refine lp3_undo (x := uX A) hx cs (fun J3 a3 f3 => ?_) _ 0 _ (by omega) rfl (by rw [a2, mvA_0]) F7.rf
    rw [undo_eq (by omega) ⟨hq0.1, hq1, b0.2⟩] at a3
    refine x_aload_n dX12_undo_130 rfl ?_
    refine x_getR (b := 307) dX12_undo_131 gf_RX12_7 (k_ob_306 cs) (fun _ _ => rfl) (k_r_306_0 cs) ?_
    refine x_iconst dX12_undo_134 ?_
    refine x_ald7 (kk := 3) (v := A 3 - 1) dX12_undo_135 cs (by omega) (by omega) (by rw [a3]; unfold undoA; rw [upA_o (by omega), goL_o _ (by omega) (by omega)]; unfold undX; rw [if_neg (by omega), if_pos rfl]) ?_
    exact x_ireturn dX12_undo_136 rfl (by omega) (by omega) (hp _ a3 ((((F7.rf.tr f20)).tr f1).tr (f2.tr f3)))
  · refine x_iconst dX12_undo_9 ?_
    exact x_ireturn dX12_undo_10 rfl (by omega) (by omega) (by rw [if_pos (by omega)] at hp; exact hp _ hA F7.rf)
theorem dX12_earn_0 : decode prog_14_method_90_code 0 = .ok (.aload_n 0, 1) := by decide +kernel
theorem dX12_earn_1 : decode prog_14_method_90_code 1 = .ok (.iload_n 1, 1) := by decide +kernel
theorem dX12_earn_2 : decode prog_14_method_90_code 2 = .ok (.invokevirtual 375, 3) := by decide +kernel
theorem dX12_earn_5 : decode prog_14_method_90_code 5 = .ok (.ifCond .ne 5, 3) := by decide +kernel
theorem dX12_earn_8 : decode prog_14_method_90_code 8 = .ok (.iconst 0, 1) := by decide +kernel
theorem dX12_earn_9 : decode prog_14_method_90_code 9 = .ok (.ireturn, 1) := by decide +kernel
theorem dX12_earn_10 : decode prog_14_method_90_code 10 = .ok (.aload_n 0, 1) := by decide +kernel
theorem dX12_earn_11 : decode prog_14_method_90_code 11 = .ok (.invokevirtual 363, 3) := by decide +kernel
theorem dX12_earn_14 : decode prog_14_method_90_code 14 = .ok (.aload_n 0, 1) := by decide +kernel
theorem dX12_earn_15 : decode prog_14_method_90_code 15 = .ok (.getfield 7, 3) := by decide +kernel
theorem dX12_earn_18 : decode prog_14_method_90_code 18 = .ok (.bipush 9, 2) := by decide +kernel
theorem dX12_earn_20 : decode prog_14_method_90_code 20 = .ok (.dup2, 1) := by decide +kernel
theorem dX12_earn_21 : decode prog_14_method_90_code 21 = .ok (.iaload, 1) := by decide +kernel
theorem dX12_earn_22 : decode prog_14_method_90_code 22 = .ok (.iload_n 1, 1) := by decide +kernel
theorem dX12_earn_23 : decode prog_14_method_90_code 23 = .ok (.iadd, 1) := by decide +kernel
theorem dX12_earn_24 : decode prog_14_method_90_code 24 = .ok (.iastore, 1) := by decide +kernel
theorem dX12_earn_25 : decode prog_14_method_90_code 25 = .ok (.iconst 1, 1) := by decide +kernel
theorem dX12_earn_26 : decode prog_14_method_90_code 26 = .ok (.ireturn, 1) := by decide +kernel
theorem sp_X12_earn {s : Int} (cs : CS S R) (hA : I 307 = A) (hb : BA A) (hs : Rg s) (hn : 2 ≤ n) (hp : ∀ I', I' 307 = (f_earn A s).2 → F7 I I' → Post (some (.int (iI (f_earn A s).1))) S I' R) : Call n 0 0 mX12_earn [.ref (S.2.1 306), .int (iI s)] S I R Post := by
  have b0 := hb.1.1
  have b1 := hb.2.1.1
  have b2 := hb.2.1.2.1
  have b3 := hb.2.1.2.2.1
  have b4 := hb.2.1.2.2.2.1
  have b5 := hb.2.1.2.2.2.2.1
  have b6 := hb.2.1.2.2.2.2.2.1
  have b114 := hb.2.1.2.2.2.2.2.2
  have b7 : 0 ≤ A 7 ∧ A 7 ≤ 9999 := hb.1.2.1
  have b8 : 0 ≤ A 8 ∧ A 8 ≤ 30870 := hb.1.2.2.1
  have b9 : 0 ≤ A 9 ∧ A 9 ≤ 9999 := hb.1.2.2.2.1
  have b10 : 0 ≤ A 10 ∧ A 10 ≤ 1 := hb.1.2.2.2.2.1
  have b11 := BA_11 hb
  unfold f_earn at hp
  refine Call.of (by decide +kernel) (Nat.le_of_ble_eq_true rfl) ?_
  show WP _ _ _ _ _ 0 [(0, _), (1, _)] [] 0 0 _ _ _
  refine x_aload_n dX12_earn_0 rfl ?_
  refine x_iload_n dX12_earn_1 rfl ?_
  refine x_callV1 (mc1 := 0) (ms1 := 0) dX12_earn_2 cv_RX12_375 (ci := 12) (k_ob_306 cs) rfl (Nat.le_of_ble_eq_true rfl) (n1 := n - 1) (by omega) (by omega) (by omega) ?_
  refine sp_X12_canEarn cs hA hb (by omega) (by omega) (fun r2 hr2 => ?_)
  refine x_if_ne 10 dX12_earn_5 (by decide) (by omega) (fun w5 => ?_) (fun w5 => ?_)
  · refine x_aload_n dX12_earn_10 rfl ?_
    refine x_callV0 (mc1 := 0) (ms1 := 0) dX12_earn_11 cv_RX12_363 (ci := 12) (k_ob_306 cs) rfl (Nat.le_of_ble_eq_true rfl) (n1 := n - 1) (by omega) (by omega) (by omega) ?_
    refine sp_X12_keep cs hA hb (fun J11 a11 f11 => ?_)
    refine x_aload_n dX12_earn_14 rfl ?_
    refine x_getR (b := 307) dX12_earn_15 gf_RX12_7 (k_ob_306 cs) (fun _ _ => rfl) (k_r_306_0 cs) ?_
    refine x_bipush dX12_earn_18 (by decide) ?_
    refine x_dup2 dX12_earn_20 rfl rfl ?_
    refine x_ald7 (kk := 9) (v := A 9) dX12_earn_21 cs (by omega) (by omega) (by rw [a11]; exact kp_lo (by omega) (by omega)) ?_
    refine x_iload_n dX12_earn_22 rfl ?_
    refine x_iadd dX12_earn_23 ?_
    refine x_ast7 (kk := 9) dX12_earn_24 cs (by omega) (by omega) a11 (fun J24 a24 f24 => ?_)
    refine x_iconst dX12_earn_25 ?_
    exact x_zreturn (by omega) dX12_earn_26 rfl (by omega) (by omega) (by first | (rw [if_neg (by omega)] at hp; exact hp _ a24 ((F7.rf.tr f11).tr f24)) | (rw [if_pos (by omega)] at hp; exact hp _ a24 ((F7.rf.tr f11).tr f24)))
  · refine x_iconst dX12_earn_8 ?_
    exact x_zreturn (by omega) dX12_earn_9 rfl (by omega) (by omega) (by first | (rw [if_neg (by omega)] at hp; exact hp _ hA F7.rf) | (rw [if_pos (by omega)] at hp; exact hp _ hA F7.rf))
theorem dX12_pawn_0 : decode prog_14_method_88_code 0 = .ok (.aload_n 0, 1) := by decide +kernel
theorem dX12_pawn_1 : decode prog_14_method_88_code 1 = .ok (.iload_n 1, 1) := by decide +kernel
theorem dX12_pawn_2 : decode prog_14_method_88_code 2 = .ok (.invokevirtual 360, 3) := by decide +kernel
theorem dX12_pawn_5 : decode prog_14_method_88_code 5 = .ok (.ifCond .ne 5, 3) := by decide +kernel
theorem dX12_pawn_8 : decode prog_14_method_88_code 8 = .ok (.iconst 0, 1) := by decide +kernel
theorem dX12_pawn_9 : decode prog_14_method_88_code 9 = .ok (.ireturn, 1) := by decide +kernel
theorem dX12_pawn_10 : decode prog_14_method_88_code 10 = .ok (.aload_n 0, 1) := by decide +kernel
theorem dX12_pawn_11 : decode prog_14_method_88_code 11 = .ok (.invokevirtual 363, 3) := by decide +kernel
theorem dX12_pawn_14 : decode prog_14_method_88_code 14 = .ok (.aload_n 0, 1) := by decide +kernel
theorem dX12_pawn_15 : decode prog_14_method_88_code 15 = .ok (.iload_n 1, 1) := by decide +kernel
theorem dX12_pawn_16 : decode prog_14_method_88_code 16 = .ok (.invokevirtual 366, 3) := by decide +kernel
theorem dX12_pawn_19 : decode prog_14_method_88_code 19 = .ok (.iconst 1, 1) := by decide +kernel
theorem dX12_pawn_20 : decode prog_14_method_88_code 20 = .ok (.ireturn, 1) := by decide +kernel
theorem sp_X12_pawn {q : Int} (cs : CS S R) (hA : I 307 = A) (hb : BA A) (hz : I 306 23 = 1) (hq : Rg q) (hn : 3 ≤ n) (hp : ∀ I', I' 307 = (f_pawn A q).2 → F7 I I' → Post (some (.int (iI (f_pawn A q).1))) S I' R) : Call n 0 0 mX12_pawn [.ref (S.2.1 306), .int (iI q)] S I R Post := by
  have b0 := hb.1.1
  have b1 := hb.2.1.1
  have b2 := hb.2.1.2.1
  have b3 := hb.2.1.2.2.1
  have b4 := hb.2.1.2.2.2.1
  have b5 := hb.2.1.2.2.2.2.1
  have b6 := hb.2.1.2.2.2.2.2.1
  have b114 := hb.2.1.2.2.2.2.2.2
  have b7 : 0 ≤ A 7 ∧ A 7 ≤ 9999 := hb.1.2.1
  have b8 : 0 ≤ A 8 ∧ A 8 ≤ 30870 := hb.1.2.2.1
  have b9 : 0 ≤ A 9 ∧ A 9 ≤ 9999 := hb.1.2.2.2.1
  have b10 : 0 ≤ A 10 ∧ A 10 ≤ 1 := hb.1.2.2.2.2.1
  have b11 := BA_11 hb
  unfold f_pawn at hp
  refine Call.of (by decide +kernel) (Nat.le_of_ble_eq_true rfl) ?_
  show WP _ _ _ _ _ 0 [(0, _), (1, _)] [] 0 0 _ _ _
  refine x_aload_n dX12_pawn_0 rfl ?_
  refine x_iload_n dX12_pawn_1 rfl ?_
  refine x_callV1 (mc1 := 0) (ms1 := 0) dX12_pawn_2 cv_RX12_360 (ci := 12) (k_ob_306 cs) rfl (Nat.le_of_ble_eq_true rfl) (n1 := n - 1) (by omega) (by omega) (by omega) ?_
  refine sp_X12_canPawn cs hA hb (by omega) (by omega) (fun r2 hr2 => ?_)
  refine x_if_ne 10 dX12_pawn_5 (by decide) (by omega) (fun w5 => ?_) (fun w5 => ?_)
  · refine x_aload_n dX12_pawn_10 rfl ?_
    refine x_callV0 (mc1 := 0) (ms1 := 0) dX12_pawn_11 cv_RX12_363 (ci := 12) (k_ob_306 cs) rfl (Nat.le_of_ble_eq_true rfl) (n1 := n - 1) (by omega) (by omega) (by omega) ?_
    refine sp_X12_keep cs hA hb (fun J11 a11 f11 => ?_)
    refine x_aload_n dX12_pawn_14 rfl ?_
    refine x_iload_n dX12_pawn_15 rfl ?_
    refine x_callV1 (mc1 := 0) (ms1 := 0) dX12_pawn_16 cv_RX12_366 (ci := 12) (k_ob_306 cs) rfl (Nat.le_of_ble_eq_true rfl) (n1 := n - 1) (by omega) (by omega) (by omega) ?_
    refine sp_X12_pawnNow cs a11 (BA_keep hb) (by rw [(F7.rf.tr f11) 306 (by omega)]; exact hz) (by omega) (by omega) (fun J16 a16 f16 => ?_)
    refine x_iconst dX12_pawn_19 ?_
    exact x_zreturn (by omega) dX12_pawn_20 rfl (by omega) (by omega) (by first | (rw [if_neg (by omega)] at hp; exact hp _ a16 ((F7.rf.tr f11).tr f16)) | (rw [if_pos (by omega)] at hp; exact hp _ a16 ((F7.rf.tr f11).tr f16)))
  · refine x_iconst dX12_pawn_8 ?_
    exact x_zreturn (by omega) dX12_pawn_9 rfl (by omega) (by omega) (by first | (rw [if_neg (by omega)] at hp; exact hp _ hA F7.rf) | (rw [if_pos (by omega)] at hp; exact hp _ hA F7.rf))
theorem dX12_clip_0 : decode prog_14_method_63_code 0 = .ok (.lload_n 0, 1) := by decide +kernel
theorem dX12_clip_1 : decode prog_14_method_63_code 1 = .ok (.ldc2_w 273, 3) := by decide +kernel
theorem dX12_clip_4 : decode prog_14_method_63_code 4 = .ok (.lcmp, 1) := by decide +kernel
theorem dX12_clip_5 : decode prog_14_method_63_code 5 = .ok (.ifCond .le 9, 3) := by decide +kernel
theorem dX12_clip_8 : decode prog_14_method_63_code 8 = .ok (.ldc2_w 273, 3) := by decide +kernel
theorem dX12_clip_11 : decode prog_14_method_63_code 11 = .ok (.goto 18, 3) := by decide +kernel
theorem dX12_clip_14 : decode prog_14_method_63_code 14 = .ok (.lload_n 0, 1) := by decide +kernel
theorem dX12_clip_15 : decode prog_14_method_63_code 15 = .ok (.ldc2_w 275, 3) := by decide +kernel
theorem dX12_clip_18 : decode prog_14_method_63_code 18 = .ok (.lcmp, 1) := by decide +kernel
theorem dX12_clip_19 : decode prog_14_method_63_code 19 = .ok (.ifCond .ge 9, 3) := by decide +kernel
theorem dX12_clip_22 : decode prog_14_method_63_code 22 = .ok (.ldc2_w 275, 3) := by decide +kernel
theorem dX12_clip_25 : decode prog_14_method_63_code 25 = .ok (.goto 4, 3) := by decide +kernel
theorem dX12_clip_28 : decode prog_14_method_63_code 28 = .ok (.lload_n 0, 1) := by decide +kernel
theorem dX12_clip_29 : decode prog_14_method_63_code 29 = .ok (.lreturn, 1) := by decide +kernel
theorem sp_X12_clip {v : Int} (hv : -9000000000000000000 ≤ v ∧ v ≤ 9000000000000000000) (hp : Post (some (.long (lI (clipI v)))) S I R) : Call n 0 0 mX12_clip [.long (lI v)] S I R Post := by
  unfold clipI at hp
  have hr : Rl v := by unfold Rl; omega
  refine Call.of (by decide +kernel) (Nat.le_of_ble_eq_true rfl) ?_
  show WP _ _ _ _ _ 0 [(0, _)] [] 0 0 _ _ _
  refine x_lload_n dX12_clip_0 rfl ?_
  refine x_ldc2 (z := 1000000) dX12_clip_1 (bw_in (lwt_8 (List.mem_of_getElem? (i := 81) (by decide +kernel))) (by decide +kernel)) ?_
  refine x_lcif_le 14 dX12_clip_4 dX12_clip_5 (by decide) (by unfold Rl at *; omega) (fun w4 => ?_) (fun w4 => ?_)
  · refine x_lload_n dX12_clip_14 rfl ?_
    refine x_ldc2 (z := (-1000000)) dX12_clip_15 (bw_in (lwt_8 (List.mem_of_getElem? (i := 82) (by decide +kernel))) (by decide +kernel)) ?_
    refine x_lcif_ge 28 dX12_clip_18 dX12_clip_19 (by decide) (by unfold Rl at *; omega) (fun w18 => ?_) (fun w18 => ?_)
    · refine x_lload_n dX12_clip_28 rfl ?_
      exact x_lreturn dX12_clip_29 rfl (by omega) (by omega) (by first | (rw [if_pos (by omega)] at hp; exact hp) | (rw [if_neg (by omega), if_pos (by omega)] at hp; exact hp) | (rw [if_neg (by omega), if_neg (by omega)] at hp; exact hp))
    · refine x_ldc2 (z := (-1000000)) dX12_clip_22 (bw_in (lwt_8 (List.mem_of_getElem? (i := 82) (by decide +kernel))) (by decide +kernel)) ?_
      refine x_goto 29 dX12_clip_25 (by decide) ?_
      exact x_lreturn dX12_clip_29 rfl (by omega) (by omega) (by first | (rw [if_pos (by omega)] at hp; exact hp) | (rw [if_neg (by omega), if_pos (by omega)] at hp; exact hp) | (rw [if_neg (by omega), if_neg (by omega)] at hp; exact hp))
  · refine x_ldc2 (z := 1000000) dX12_clip_8 (bw_in (lwt_8 (List.mem_of_getElem? (i := 81) (by decide +kernel))) (by decide +kernel)) ?_
    refine x_goto 29 dX12_clip_11 (by decide) ?_
    exact x_lreturn dX12_clip_29 rfl (by omega) (by omega) (by first | (rw [if_pos (by omega)] at hp; exact hp) | (rw [if_neg (by omega), if_pos (by omega)] at hp; exact hp) | (rw [if_neg (by omega), if_neg (by omega)] at hp; exact hp))
end Ref5
