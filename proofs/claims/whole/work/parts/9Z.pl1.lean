section Pl1s
variable {n mc ms : Nat} {M : Md} {pc : Nat} {lv : List (Nat × Value)} {st : List Value} {k j : Nat} {Post : PT} {S : Sh} {I : CI} {R : CR} {A : Nat → Int} {tx : Nat → Nat → Int}
theorem ndv (a b : Nat) : ((a : Int) / (b : Int)) = ((a / b : Nat) : Int) := by first | rfl | simp
theorem nmd (a b : Nat) : ((a : Int) % (b : Int)) = ((a % b : Nat) : Int) := by first | rfl | simp
theorem fcN_5 {m : Nat} (h : m ≤ 5) : 1 ≤ fcN m ∧ fcN m ≤ 120 := by
  have : ∀ m < 6, 1 ≤ fcN m ∧ fcN m ≤ 120 := by decide
  exact this m (by omega)
theorem dX12_factorial_0 : decode prog_14_method_124_code 0 = .ok (.iconst 1, 1) := by decide +kernel
theorem dX12_factorial_1 : decode prog_14_method_124_code 1 = .ok (.istore_n 1, 1) := by decide +kernel
theorem dX12_factorial_2 : decode prog_14_method_124_code 2 = .ok (.iconst 2, 1) := by decide +kernel
theorem dX12_factorial_3 : decode prog_14_method_124_code 3 = .ok (.istore_n 2, 1) := by decide +kernel
theorem dX12_factorial_4 : decode prog_14_method_124_code 4 = .ok (.iload_n 2, 1) := by decide +kernel
theorem dX12_factorial_5 : decode prog_14_method_124_code 5 = .ok (.iload_n 0, 1) := by decide +kernel
theorem dX12_factorial_6 : decode prog_14_method_124_code 6 = .ok (.if_icmp .gt 13, 3) := by decide +kernel
theorem dX12_factorial_9 : decode prog_14_method_124_code 9 = .ok (.iload_n 1, 1) := by decide +kernel
theorem dX12_factorial_10 : decode prog_14_method_124_code 10 = .ok (.iload_n 2, 1) := by decide +kernel
theorem dX12_factorial_11 : decode prog_14_method_124_code 11 = .ok (.imul, 1) := by decide +kernel
theorem dX12_factorial_12 : decode prog_14_method_124_code 12 = .ok (.istore_n 1, 1) := by decide +kernel
theorem dX12_factorial_13 : decode prog_14_method_124_code 13 = .ok (.iinc 2 1, 3) := by decide +kernel
theorem dX12_factorial_16 : decode prog_14_method_124_code 16 = .ok (.goto (-12), 3) := by decide +kernel
theorem dX12_factorial_19 : decode prog_14_method_124_code 19 = .ok (.iload_n 1, 1) := by decide +kernel
theorem dX12_factorial_20 : decode prog_14_method_124_code 20 = .ok (.ireturn, 1) := by decide +kernel
theorem lp_X12_factorial {m : Nat} (hm : m ≤ 5) (hp : Post (some (.int (iI (fcN m : Int)))) S I R) : ∀ (d q : Nat), 2 ≤ q → q ≤ m + 1 → m + 1 - q = d → WP n 0 0 mX12_factorial Post 4 [(0, .int (iI (m : Int))), (1, .int (iI (fcN (q - 1) : Int))), (2, .int (iI (q : Int)))] [] 0 0 S I R := by
  intro d
  induction d using Nat.strongRecOn with
  | ind d ih =>
    intro q h1 h2 h3
    have hf := fcN_5 (m := q - 1) (by omega)
    refine x_iload_n dX12_factorial_4 rfl ?_
    refine x_iload_n dX12_factorial_5 rfl ?_
    refine x_icmp_gt 19 dX12_factorial_6 (by decide) ⟨(by omega), (by omega)⟩ (fun w6 => ?_) (fun w6 => ?_)
    · refine x_iload_n dX12_factorial_19 rfl ?_
      exact x_ireturn dX12_factorial_20 rfl (by omega) (by omega) (by obtain rfl : q = m + 1 := (by omega); exact hp)
    · refine x_iload_n dX12_factorial_9 rfl ?_
      refine x_iload_n dX12_factorial_10 rfl ?_
      refine x_imul dX12_factorial_11 ?_
      refine x_istore_n (lv2 := [(1, _), (0, _), (2, _)]) dX12_factorial_12 (by decide) rfl ?_
      refine x_iinc (lv2 := [(2, _), (1, _), (0, _)]) dX12_factorial_13 rfl (by decide) rfl ?_
      refine x_goto 4 dX12_factorial_16 (by decide) ?_
      refine x_sub [2, 1, 0] rfl ?_
      have e : fcN (q + 1 - 1) = q * fcN (q - 1) := by
        obtain ⟨r, rfl⟩ : ∃ r, q = r + 1 := ⟨q - 1, by omega⟩
        rfl
      have h9 := ih (m + 1 - (q + 1)) (by omega) (q + 1) (by omega) (by omega) rfl
      rw [e, show ((q * fcN (q - 1) : Nat) : Int) = (fcN (q - 1) : Int) * (q : Int) by rw [Nat.mul_comm]; rfl, show ((q + 1 : Nat) : Int) = (q : Int) + 1 from rfl] at h9
      exact h9
theorem sp_X12_factorial {m : Nat} (hm : m ≤ 5) (hp : Post (some (.int (iI (fcN m : Int)))) S I R) : Call n 0 0 mX12_factorial [.int (iI (m : Int))] S I R Post := by
  refine Call.of (by decide +kernel) (Nat.le_of_ble_eq_true rfl) ?_
  show WP _ _ _ _ _ 0 [(0, _)] [] 0 0 _ _ _
  refine x_iconst dX12_factorial_0 ?_
  refine x_istore_n (lv2 := [(1, _), (0, _)]) dX12_factorial_1 (by decide) rfl ?_
  refine x_iconst dX12_factorial_2 ?_
  refine x_istore_n (lv2 := [(2, _), (1, _), (0, _)]) dX12_factorial_3 (by decide) rfl ?_
  refine x_sub [2, 1, 0] rfl ?_
  by_cases h0 : m = 0
  · subst h0
    refine x_iload_n dX12_factorial_4 rfl ?_
    refine x_iload_n dX12_factorial_5 rfl ?_
    refine x_icmp_gt 19 dX12_factorial_6 (by decide) ⟨(by omega), (by omega)⟩ (fun w6 => ?_) (fun w6 => ?_)
    · refine x_iload_n dX12_factorial_19 rfl ?_
      exact x_ireturn dX12_factorial_20 rfl (by omega) (by omega) (hp)
    · exfalso; omega
  · have h9 := lp_X12_factorial (n := n) hm hp (m + 1 - 2) 2 (by omega) (by omega) rfl
    exact h9
theorem dX12_layOrder_0 : decode prog_14_method_125_code 0 = .ok (.iload_n 2, 1) := by decide +kernel
theorem dX12_layOrder_1 : decode prog_14_method_125_code 1 = .ok (.istore 4, 2) := by decide +kernel
theorem dX12_layOrder_3 : decode prog_14_method_125_code 3 = .ok (.iconst 0, 1) := by decide +kernel
theorem dX12_layOrder_4 : decode prog_14_method_125_code 4 = .ok (.istore 5, 2) := by decide +kernel
theorem dX12_layOrder_6 : decode prog_14_method_125_code 6 = .ok (.iconst 0, 1) := by decide +kernel
theorem dX12_layOrder_7 : decode prog_14_method_125_code 7 = .ok (.istore 6, 2) := by decide +kernel
theorem dX12_layOrder_9 : decode prog_14_method_125_code 9 = .ok (.iload 6, 2) := by decide +kernel
theorem dX12_layOrder_11 : decode prog_14_method_125_code 11 = .ok (.iload_n 3, 1) := by decide +kernel
theorem dX12_layOrder_12 : decode prog_14_method_125_code 12 = .ok (.if_icmp .ge 107, 3) := by decide +kernel
theorem dX12_layOrder_15 : decode prog_14_method_125_code 15 = .ok (.iload 4, 2) := by decide +kernel
theorem dX12_layOrder_17 : decode prog_14_method_125_code 17 = .ok (.iload_n 3, 1) := by decide +kernel
theorem dX12_layOrder_18 : decode prog_14_method_125_code 18 = .ok (.iconst 1, 1) := by decide +kernel
theorem dX12_layOrder_19 : decode prog_14_method_125_code 19 = .ok (.isub, 1) := by decide +kernel
theorem dX12_layOrder_20 : decode prog_14_method_125_code 20 = .ok (.iload 6, 2) := by decide +kernel
theorem dX12_layOrder_22 : decode prog_14_method_125_code 22 = .ok (.isub, 1) := by decide +kernel
theorem dX12_layOrder_23 : decode prog_14_method_125_code 23 = .ok (.invokestatic 442, 3) := by decide +kernel
theorem dX12_layOrder_26 : decode prog_14_method_125_code 26 = .ok (.idiv, 1) := by decide +kernel
theorem dX12_layOrder_27 : decode prog_14_method_125_code 27 = .ok (.istore 7, 2) := by decide +kernel
theorem dX12_layOrder_29 : decode prog_14_method_125_code 29 = .ok (.iload 4, 2) := by decide +kernel
theorem dX12_layOrder_31 : decode prog_14_method_125_code 31 = .ok (.iload_n 3, 1) := by decide +kernel
theorem dX12_layOrder_32 : decode prog_14_method_125_code 32 = .ok (.iconst 1, 1) := by decide +kernel
theorem dX12_layOrder_33 : decode prog_14_method_125_code 33 = .ok (.isub, 1) := by decide +kernel
theorem dX12_layOrder_34 : decode prog_14_method_125_code 34 = .ok (.iload 6, 2) := by decide +kernel
theorem dX12_layOrder_36 : decode prog_14_method_125_code 36 = .ok (.isub, 1) := by decide +kernel
theorem dX12_layOrder_37 : decode prog_14_method_125_code 37 = .ok (.invokestatic 442, 3) := by decide +kernel
theorem dX12_layOrder_40 : decode prog_14_method_125_code 40 = .ok (.irem, 1) := by decide +kernel
theorem dX12_layOrder_41 : decode prog_14_method_125_code 41 = .ok (.istore 4, 2) := by decide +kernel
theorem dX12_layOrder_43 : decode prog_14_method_125_code 43 = .ok (.iconst 0, 1) := by decide +kernel
theorem dX12_layOrder_44 : decode prog_14_method_125_code 44 = .ok (.istore 8, 2) := by decide +kernel
theorem dX12_layOrder_46 : decode prog_14_method_125_code 46 = .ok (.iload_n 1, 1) := by decide +kernel
theorem dX12_layOrder_47 : decode prog_14_method_125_code 47 = .ok (.iload 5, 2) := by decide +kernel
theorem dX12_layOrder_49 : decode prog_14_method_125_code 49 = .ok (.iconst (-1), 1) := by decide +kernel
theorem dX12_layOrder_50 : decode prog_14_method_125_code 50 = .ok (.ixor, 1) := by decide +kernel
theorem dX12_layOrder_51 : decode prog_14_method_125_code 51 = .ok (.iand, 1) := by decide +kernel
theorem dX12_layOrder_52 : decode prog_14_method_125_code 52 = .ok (.iload 8, 2) := by decide +kernel
theorem dX12_layOrder_54 : decode prog_14_method_125_code 54 = .ok (.invokestatic 259, 3) := by decide +kernel
theorem dX12_layOrder_57 : decode prog_14_method_125_code 57 = .ok (.ifCond .eq 8, 3) := by decide +kernel
theorem dX12_layOrder_60 : decode prog_14_method_125_code 60 = .ok (.iload 7, 2) := by decide +kernel
theorem dX12_layOrder_62 : decode prog_14_method_125_code 62 = .ok (.ifCond .le 33, 3) := by decide +kernel
theorem dX12_layOrder_65 : decode prog_14_method_125_code 65 = .ok (.iload 7, 2) := by decide +kernel
theorem dX12_layOrder_67 : decode prog_14_method_125_code 67 = .ok (.iload_n 1, 1) := by decide +kernel
theorem dX12_layOrder_68 : decode prog_14_method_125_code 68 = .ok (.iload 5, 2) := by decide +kernel
theorem dX12_layOrder_70 : decode prog_14_method_125_code 70 = .ok (.iconst (-1), 1) := by decide +kernel
theorem dX12_layOrder_71 : decode prog_14_method_125_code 71 = .ok (.ixor, 1) := by decide +kernel
theorem dX12_layOrder_72 : decode prog_14_method_125_code 72 = .ok (.iand, 1) := by decide +kernel
theorem dX12_layOrder_73 : decode prog_14_method_125_code 73 = .ok (.iload 8, 2) := by decide +kernel
theorem dX12_layOrder_75 : decode prog_14_method_125_code 75 = .ok (.invokestatic 259, 3) := by decide +kernel
theorem dX12_layOrder_78 : decode prog_14_method_125_code 78 = .ok (.ifCond .eq 7, 3) := by decide +kernel
theorem dX12_layOrder_81 : decode prog_14_method_125_code 81 = .ok (.iconst 1, 1) := by decide +kernel
theorem dX12_layOrder_82 : decode prog_14_method_125_code 82 = .ok (.goto 4, 3) := by decide +kernel
theorem dX12_layOrder_85 : decode prog_14_method_125_code 85 = .ok (.iconst 0, 1) := by decide +kernel
theorem dX12_layOrder_86 : decode prog_14_method_125_code 86 = .ok (.isub, 1) := by decide +kernel
theorem dX12_layOrder_87 : decode prog_14_method_125_code 87 = .ok (.istore 7, 2) := by decide +kernel
theorem dX12_layOrder_89 : decode prog_14_method_125_code 89 = .ok (.iinc 8 1, 3) := by decide +kernel
theorem dX12_layOrder_92 : decode prog_14_method_125_code 92 = .ok (.goto (-46), 3) := by decide +kernel
theorem dX12_layOrder_95 : decode prog_14_method_125_code 95 = .ok (.iload 5, 2) := by decide +kernel
theorem dX12_layOrder_97 : decode prog_14_method_125_code 97 = .ok (.iconst 1, 1) := by decide +kernel
theorem dX12_layOrder_98 : decode prog_14_method_125_code 98 = .ok (.iload 8, 2) := by decide +kernel
theorem dX12_layOrder_100 : decode prog_14_method_125_code 100 = .ok (.ishl, 1) := by decide +kernel
theorem dX12_layOrder_101 : decode prog_14_method_125_code 101 = .ok (.ior, 1) := by decide +kernel
theorem dX12_layOrder_102 : decode prog_14_method_125_code 102 = .ok (.istore 5, 2) := by decide +kernel
theorem dX12_layOrder_104 : decode prog_14_method_125_code 104 = .ok (.aload_n 0, 1) := by decide +kernel
theorem dX12_layOrder_105 : decode prog_14_method_125_code 105 = .ok (.getfield 56, 3) := by decide +kernel
theorem dX12_layOrder_108 : decode prog_14_method_125_code 108 = .ok (.iload 6, 2) := by decide +kernel
theorem dX12_layOrder_110 : decode prog_14_method_125_code 110 = .ok (.iload 8, 2) := by decide +kernel
theorem dX12_layOrder_112 : decode prog_14_method_125_code 112 = .ok (.iastore, 1) := by decide +kernel
theorem dX12_layOrder_113 : decode prog_14_method_125_code 113 = .ok (.iinc 6 1, 3) := by decide +kernel
theorem dX12_layOrder_116 : decode prog_14_method_125_code 116 = .ok (.goto (-107), 3) := by decide +kernel
theorem dX12_layOrder_119 : decode prog_14_method_125_code 119 = .ok (.return_, 1) := by decide +kernel
theorem sd_or {s u v : Nat} (hs : s < 256) : sdN s (u ||| v) = sdN (sdN s u) v := by
  have h1 : s < 2147483648 := by omega
  have h2 : sdN s u < 2147483648 := Nat.lt_of_le_of_lt (sdN_le _ _) h1
  apply Nat.eq_of_testBit_eq
  intro i
  rw [sdN_tb h1, sdN_tb h2, sdN_tb h1, Nat.testBit_or]
  cases s.testBit i <;> cases u.testBit i <;> cases v.testBit i <;> rfl
theorem dr_c {o : List Nat} {k x : Nat} {r : List Nat} (h : o.drop k = x :: r) : k < o.length ∧ o.getD k 0 = x ∧ o.drop (k + 1) = r := by
  have hk : k < o.length := by
    apply Classical.byContradiction
    intro h9
    rw [List.drop_eq_nil_of_le (by omega)] at h
    cases h
  rw [List.drop_eq_getElem_cons hk] at h
  refine ⟨hk, ?_, (List.cons.inj h).2⟩
  rw [List.getD_eq_getElem?_getD, List.getElem?_eq_getElem hk]
  exact (List.cons.inj h).1
theorem bck_mono {s : Nat} : ∀ (e q : Nat), bck s q ≤ bck s (q + e) := by
  intro e
  induction e with
  | zero => intro q; exact Nat.le_refl _
  | succ e ih => intro q; have := ih q; show _ ≤ bck s (q + e) + _; omega
/-- the search for a bit -/
theorem lp_order1 {s c n0 u lf kk z0 : Nat} (cs : CS S R) (hn : 1 ≤ n) (hs : s < 256) (hu : u < 256) (hz : z0 < bcN (sdN s u)) (hK : WP n 0 0 mX12_layOrder Post 95 [(0, .ref (S.2.1 306)), (1, .int (iI (s : Int))), (3, .int (iI (n0 : Int))), (4, .int (iI (lf : Int))), (5, .int (iI (u : Int))), (6, .int (iI (kk : Int))), (8, .int (iI (nb (sdN s u) z0 : Int)))] [] 0 0 S I R) : ∀ (d q : Nat), q ≤ 8 → 8 - q = d → bck (sdN s u) q ≤ z0 → WP n 0 0 mX12_layOrder Post 46 [(0, .ref (S.2.1 306)), (1, .int (iI (s : Int))), (3, .int (iI (n0 : Int))), (4, .int (iI (lf : Int))), (5, .int (iI (u : Int))), (6, .int (iI (kk : Int))), (7, .int (iI ((z0 : Int) - (bck (sdN s u) q : Int)))), (8, .int (iI (q : Int)))] [] 0 0 S I R := by
  have hr : sdN s u < 256 := Nat.lt_of_le_of_lt (sdN_le _ _) hs
  have h8 := bck_8 hr
  have hb8 := bcN_b (sdN s u)
  intro d
  induction d using Nat.strongRecOn with
  | ind d ih =>
    intro q h1 h2 h3
    have hq : q < 8 := by
      apply Classical.byContradiction
      intro h9
      obtain rfl : q = 8 := by omega
      omega
    have e1 : bck (sdN s u) (q + 1) = bck (sdN s u) q + (if (sdN s u).testBit q then 1 else 0) := rfl
    refine x_iload_n dX12_layOrder_46 rfl ?_
    refine x_iload dX12_layOrder_47 rfl ?_
    refine x_iconst dX12_layOrder_49 ?_
    refine x_ixor dX12_layOrder_50 ?_
    refine x_iand dX12_layOrder_51 ?_
    refine x_iload dX12_layOrder_52 rfl ?_
    refine x_callS2 (mc1 := 0) (ms1 := 0) dX12_layOrder_54 cv_RX12_259 (Nat.le_of_ble_eq_true rfl) (n1 := n - 1) (by omega) (by omega) (by omega) ?_
    rw [andnot_n (by omega) (by omega)]
    refine sp_X12_has (x := sdN s u) (k := q) (by omega) (by omega) (fun r54 hr54 => ?_)
    refine x_if_eq 65 dX12_layOrder_57 (by decide) (by omega) (fun w57 => ?_) (fun w57 => ?_)
    · refine x_iload dX12_layOrder_65 rfl ?_
      refine x_iload_n dX12_layOrder_67 rfl ?_
      refine x_iload dX12_layOrder_68 rfl ?_
      refine x_iconst dX12_layOrder_70 ?_
      refine x_ixor dX12_layOrder_71 ?_
      refine x_iand dX12_layOrder_72 ?_
      refine x_iload dX12_layOrder_73 rfl ?_
      refine x_callS2 (mc1 := 0) (ms1 := 0) dX12_layOrder_75 cv_RX12_259 (Nat.le_of_ble_eq_true rfl) (n1 := n - 1) (by omega) (by omega) (by omega) ?_
      rw [andnot_n (by omega) (by omega)]
      refine sp_X12_has (x := sdN s u) (k := q) (by omega) (by omega) (fun r75 hr75 => ?_)
      refine x_if_eq 85 dX12_layOrder_78 (by decide) (by omega) (fun w78 => ?_) (fun w78 => ?_)
      · refine x_iconst dX12_layOrder_85 ?_
        refine x_isub dX12_layOrder_86 ?_
        refine x_istore (lv2 := [(7, _), (0, _), (1, _), (3, _), (4, _), (5, _), (6, _), (8, _)]) dX12_layOrder_87 (by decide) rfl ?_
        refine x_iinc (lv2 := [(8, _), (7, _), (0, _), (1, _), (3, _), (4, _), (5, _), (6, _)]) dX12_layOrder_89 rfl (by decide) rfl ?_
        refine x_goto 46 dX12_layOrder_92 (by decide) ?_
        refine x_sub [2, 3, 4, 5, 6, 7, 1, 0] rfl ?_
        rw [show (q : Int) + 1 = ((q + 1 : Nat) : Int) from rfl]
        first
        | (have hbit : (sdN s u).testBit q = true := by
             rcases hr75 with ⟨_, g⟩ | ⟨g, _⟩
             · exact g
             · omega
           rw [if_pos hbit] at e1
           have h9 := ih (8 - (q + 1)) (by omega) (q + 1) (by omega) rfl (by omega)
           rw [show (z0 : Int) - (bck (sdN s u) (q + 1) : Int) = (z0 : Int) - (bck (sdN s u) q : Int) - 1 by omega] at h9
           exact h9)
        | (have hbit : ¬ (sdN s u).testBit q = true := by
             rcases hr75 with ⟨g, _⟩ | ⟨_, g⟩
             · omega
             · rw [g]; simp
           rw [if_neg hbit] at e1
           have h9 := ih (8 - (q + 1)) (by omega) (q + 1) (by omega) rfl (by omega)
           rw [show (z0 : Int) - (bck (sdN s u) (q + 1) : Int) = (z0 : Int) - (bck (sdN s u) q : Int) - 0 by omega] at h9
           exact h9)
        | (exfalso
           rcases hr54 with ⟨g1, g2⟩ | ⟨g1, g2⟩
           · rcases hr75 with ⟨g3, g4⟩ | ⟨g3, g4⟩
             · omega
             · rw [g2] at g4; cases g4
           · rcases hr75 with ⟨g3, g4⟩ | ⟨g3, g4⟩
             · rw [g2] at g4; cases g4
             · omega)
      · refine x_iconst dX12_layOrder_81 ?_
        refine x_goto 86 dX12_layOrder_82 (by decide) ?_
        refine x_isub dX12_layOrder_86 ?_
        refine x_istore (lv2 := [(7, _), (0, _), (1, _), (3, _), (4, _), (5, _), (6, _), (8, _)]) dX12_layOrder_87 (by decide) rfl ?_
        refine x_iinc (lv2 := [(8, _), (7, _), (0, _), (1, _), (3, _), (4, _), (5, _), (6, _)]) dX12_layOrder_89 rfl (by decide) rfl ?_
        refine x_goto 46 dX12_layOrder_92 (by decide) ?_
        refine x_sub [2, 3, 4, 5, 6, 7, 1, 0] rfl ?_
        rw [show (q : Int) + 1 = ((q + 1 : Nat) : Int) from rfl]
        first
        | (have hbit : (sdN s u).testBit q = true := by
             rcases hr75 with ⟨_, g⟩ | ⟨g, _⟩
             · exact g
             · omega
           rw [if_pos hbit] at e1
           have h9 := ih (8 - (q + 1)) (by omega) (q + 1) (by omega) rfl (by omega)
           rw [show (z0 : Int) - (bck (sdN s u) (q + 1) : Int) = (z0 : Int) - (bck (sdN s u) q : Int) - 1 by omega] at h9
           exact h9)
        | (have hbit : ¬ (sdN s u).testBit q = true := by
             rcases hr75 with ⟨g, _⟩ | ⟨_, g⟩
             · omega
             · rw [g]; simp
           rw [if_neg hbit] at e1
           have h9 := ih (8 - (q + 1)) (by omega) (q + 1) (by omega) rfl (by omega)
           rw [show (z0 : Int) - (bck (sdN s u) (q + 1) : Int) = (z0 : Int) - (bck (sdN s u) q : Int) - 0 by omega] at h9
           exact h9)
        | (exfalso
           rcases hr54 with ⟨g1, g2⟩ | ⟨g1, g2⟩
           · rcases hr75 with ⟨g3, g4⟩ | ⟨g3, g4⟩
             · omega
             · rw [g2] at g4; cases g4
           · rcases hr75 with ⟨g3, g4⟩ | ⟨g3, g4⟩
             · rw [g2] at g4; cases g4
             · omega)
    · refine x_iload dX12_layOrder_60 rfl ?_
      refine x_if_le 95 dX12_layOrder_62 (by decide) (by omega) (fun w62 => ?_) (fun w62 => ?_)
      · refine x_sub [0, 1, 2, 3, 4, 5, 7] rfl ?_
        have hbit : (sdN s u).testBit q = true := by
          rcases hr54 with ⟨_, g⟩ | ⟨g, _⟩
          · exact g
          · omega
        have hnb := nb_at hq hbit
        rw [show bck (sdN s u) q = z0 by omega] at hnb
        rw [hnb] at hK
        exact hK
      · refine x_iload dX12_layOrder_65 rfl ?_
        refine x_iload_n dX12_layOrder_67 rfl ?_
        refine x_iload dX12_layOrder_68 rfl ?_
        refine x_iconst dX12_layOrder_70 ?_
        refine x_ixor dX12_layOrder_71 ?_
        refine x_iand dX12_layOrder_72 ?_
        refine x_iload dX12_layOrder_73 rfl ?_
        refine x_callS2 (mc1 := 0) (ms1 := 0) dX12_layOrder_75 cv_RX12_259 (Nat.le_of_ble_eq_true rfl) (n1 := n - 1) (by omega) (by omega) (by omega) ?_
        rw [andnot_n (by omega) (by omega)]
        refine sp_X12_has (x := sdN s u) (k := q) (by omega) (by omega) (fun r75 hr75 => ?_)
        refine x_if_eq 85 dX12_layOrder_78 (by decide) (by omega) (fun w78 => ?_) (fun w78 => ?_)
        · refine x_iconst dX12_layOrder_85 ?_
          refine x_isub dX12_layOrder_86 ?_
          refine x_istore (lv2 := [(7, _), (0, _), (1, _), (3, _), (4, _), (5, _), (6, _), (8, _)]) dX12_layOrder_87 (by decide) rfl ?_
          refine x_iinc (lv2 := [(8, _), (7, _), (0, _), (1, _), (3, _), (4, _), (5, _), (6, _)]) dX12_layOrder_89 rfl (by decide) rfl ?_
          refine x_goto 46 dX12_layOrder_92 (by decide) ?_
          refine x_sub [2, 3, 4, 5, 6, 7, 1, 0] rfl ?_
          rw [show (q : Int) + 1 = ((q + 1 : Nat) : Int) from rfl]
          first
          | (have hbit : (sdN s u).testBit q = true := by
               rcases hr75 with ⟨_, g⟩ | ⟨g, _⟩
               · exact g
               · omega
             rw [if_pos hbit] at e1
             have h9 := ih (8 - (q + 1)) (by omega) (q + 1) (by omega) rfl (by omega)
             rw [show (z0 : Int) - (bck (sdN s u) (q + 1) : Int) = (z0 : Int) - (bck (sdN s u) q : Int) - 1 by omega] at h9
             exact h9)
          | (have hbit : ¬ (sdN s u).testBit q = true := by
               rcases hr75 with ⟨g, _⟩ | ⟨_, g⟩
               · omega
               · rw [g]; simp
             rw [if_neg hbit] at e1
             have h9 := ih (8 - (q + 1)) (by omega) (q + 1) (by omega) rfl (by omega)
             rw [show (z0 : Int) - (bck (sdN s u) (q + 1) : Int) = (z0 : Int) - (bck (sdN s u) q : Int) - 0 by omega] at h9
             exact h9)
          | (exfalso
             rcases hr54 with ⟨g1, g2⟩ | ⟨g1, g2⟩
             · rcases hr75 with ⟨g3, g4⟩ | ⟨g3, g4⟩
               · omega
               · rw [g2] at g4; cases g4
             · rcases hr75 with ⟨g3, g4⟩ | ⟨g3, g4⟩
               · rw [g2] at g4; cases g4
               · omega)
        · refine x_iconst dX12_layOrder_81 ?_
          refine x_goto 86 dX12_layOrder_82 (by decide) ?_
          refine x_isub dX12_layOrder_86 ?_
          refine x_istore (lv2 := [(7, _), (0, _), (1, _), (3, _), (4, _), (5, _), (6, _), (8, _)]) dX12_layOrder_87 (by decide) rfl ?_
          refine x_iinc (lv2 := [(8, _), (7, _), (0, _), (1, _), (3, _), (4, _), (5, _), (6, _)]) dX12_layOrder_89 rfl (by decide) rfl ?_
          refine x_goto 46 dX12_layOrder_92 (by decide) ?_
          refine x_sub [2, 3, 4, 5, 6, 7, 1, 0] rfl ?_
          rw [show (q : Int) + 1 = ((q + 1 : Nat) : Int) from rfl]
          first
          | (have hbit : (sdN s u).testBit q = true := by
               rcases hr75 with ⟨_, g⟩ | ⟨g, _⟩
               · exact g
               · omega
             rw [if_pos hbit] at e1
             have h9 := ih (8 - (q + 1)) (by omega) (q + 1) (by omega) rfl (by omega)
             rw [show (z0 : Int) - (bck (sdN s u) (q + 1) : Int) = (z0 : Int) - (bck (sdN s u) q : Int) - 1 by omega] at h9
             exact h9)
          | (have hbit : ¬ (sdN s u).testBit q = true := by
               rcases hr75 with ⟨g, _⟩ | ⟨_, g⟩
               · omega
               · rw [g]; simp
             rw [if_neg hbit] at e1
             have h9 := ih (8 - (q + 1)) (by omega) (q + 1) (by omega) rfl (by omega)
             rw [show (z0 : Int) - (bck (sdN s u) (q + 1) : Int) = (z0 : Int) - (bck (sdN s u) q : Int) - 0 by omega] at h9
             exact h9)
          | (exfalso
             rcases hr54 with ⟨g1, g2⟩ | ⟨g1, g2⟩
             · rcases hr75 with ⟨g3, g4⟩ | ⟨g3, g4⟩
               · omega
               · rw [g2] at g4; cases g4
             · rcases hr75 with ⟨g3, g4⟩ | ⟨g3, g4⟩
               · rw [g2] at g4; cases g4
               · omega)
/-- what laying an order changes -/
theorem lp_order {s c n0 : Nat} (cs : CS S R) (hn : 2 ≤ n) (hs : s < 256) (h5 : n0 ≤ 5) (hp : ∀ J, (∀ x, x ≠ 318 → J x = I x) → (∀ q, q < n0 → J 318 q = (((ordC n0 s c).getD q 0 : Nat) : Int)) → Post none S J R) : ∀ (d kk u lf : Nat) (J : CI), kk ≤ n0 → n0 - kk = d → u < 256 → bcN (sdN s u) = n0 - kk → lf < fcN (n0 - kk) → (ordC n0 s c).drop kk = ordC (n0 - kk) (sdN s u) lf → (∀ x, x ≠ 318 → J x = I x) → (∀ q, q < kk → J 318 q = (((ordC n0 s c).getD q 0 : Nat) : Int)) → WP n 0 0 mX12_layOrder Post 9 [(0, .ref (S.2.1 306)), (1, .int (iI (s : Int))), (3, .int (iI (n0 : Int))), (4, .int (iI (lf : Int))), (5, .int (iI (u : Int))), (6, .int (iI (kk : Int)))] [] 0 0 S J R := by
  intro d
  induction d using Nat.strongRecOn with
  | ind d ih =>
    intro kk u lf J h1 h2 hu hb hl ho hF hv
    have hr : sdN s u < 256 := Nat.lt_of_le_of_lt (sdN_le _ _) hs
    have hf0 := fcN_5 (m := n0 - kk) (by omega)
    refine x_iload dX12_layOrder_9 rfl ?_
    refine x_iload_n dX12_layOrder_11 rfl ?_
    refine x_icmp_ge 119 dX12_layOrder_12 (by decide) ⟨(by omega), (by omega)⟩ (fun w12 => ?_) (fun w12 => ?_)
    · exact x_return dX12_layOrder_119 rfl (by omega) (by omega) (by obtain rfl : kk = n0 := (by omega); exact hp J hF hv)
    · obtain ⟨m9, hm9⟩ : ∃ m9, n0 - kk = m9 + 1 := ⟨n0 - kk - 1, by omega⟩
      have hf9 := fcN_5 (m := m9) (by omega)
      rw [hm9] at hb hl ho hf0
      have hl' : lf < (m9 + 1) * fcN m9 := hl
      have hz9 : lf / fcN m9 < bcN (sdN s u) := by rw [hb]; exact Nat.div_lt_of_lt_mul (by rw [Nat.mul_comm]; exact hl')
      have nk := nb_ok hr hz9
      have hlf : lf < 2147483648 := by omega
      have en : (n0 : Int) - 1 - (kk : Int) = (m9 : Int) := by omega
      refine x_iload dX12_layOrder_15 rfl ?_
      refine x_iload_n dX12_layOrder_17 rfl ?_
      refine x_iconst dX12_layOrder_18 ?_
      refine x_isub dX12_layOrder_19 ?_
      refine x_iload dX12_layOrder_20 rfl ?_
      refine x_isub dX12_layOrder_22 ?_
      refine x_callS1 (mc1 := 0) (ms1 := 0) dX12_layOrder_23 cv_RX12_442 (Nat.le_of_ble_eq_true rfl) (n1 := n - 1) (by omega) (by omega) (by omega) ?_
      rw [en]
      refine sp_X12_factorial (m := m9) (by omega) ?_
      refine x_idiv dX12_layOrder_26 (by omega) ?_
      refine x_istore (lv2 := [(7, _), (0, _), (1, _), (3, _), (4, _), (5, _), (6, _)]) dX12_layOrder_27 (by decide) rfl ?_
      refine x_iload dX12_layOrder_29 rfl ?_
      refine x_iload_n dX12_layOrder_31 rfl ?_
      refine x_iconst dX12_layOrder_32 ?_
      refine x_isub dX12_layOrder_33 ?_
      refine x_iload dX12_layOrder_34 rfl ?_
      refine x_isub dX12_layOrder_36 ?_
      refine x_callS1 (mc1 := 0) (ms1 := 0) dX12_layOrder_37 cv_RX12_442 (Nat.le_of_ble_eq_true rfl) (n1 := n - 1) (by omega) (by omega) (by omega) ?_
      rw [en]
      refine sp_X12_factorial (m := m9) (by omega) ?_
      refine x_irem dX12_layOrder_40 (by omega) ?_
      refine x_istore (lv2 := [(4, _), (7, _), (0, _), (1, _), (3, _), (5, _), (6, _)]) dX12_layOrder_41 (by decide) rfl ?_
      refine x_iconst dX12_layOrder_43 ?_
      refine x_istore (lv2 := [(8, _), (4, _), (7, _), (0, _), (1, _), (3, _), (5, _), (6, _)]) dX12_layOrder_44 (by decide) rfl ?_
      refine x_sub [3, 4, 5, 1, 6, 7, 2, 0] rfl ?_
      rw [ndv, nmd]
      refine lp_order1 (s := s) (c := c) (n0 := n0) (u := u) (lf := lf % fcN m9) (kk := kk) (z0 := lf / fcN m9) cs (by omega) hs hu hz9 ?_ 8 0 (by omega) rfl (Nat.zero_le _)
      obtain ⟨q9, hq9⟩ : ∃ q9, nb (sdN s u) (lf / fcN m9) = q9 := ⟨_, rfl⟩
      rw [hq9] at nk ⊢
      have hsd := sd_pow hr nk.1 nk.2.1
      have hless := bc_less hr nk.1 nk.2.1
      have ho9 : (ordC n0 s c).drop kk = q9 :: ordC m9 (sdN (sdN s u) (2 ^ q9)) (lf % fcN m9) := by
        rw [ho]
        show nb (sdN s u) (lf / fcN m9) :: _ = _
        rw [hq9]
      have hd9 := dr_c ho9
      have hp9 := pw7 nk.1
      have hor : u ||| 2 ^ q9 < 256 := Nat.or_lt_two_pow (n := 8) hu (by show 2 ^ q9 < 256; omega)
      refine x_iload dX12_layOrder_95 rfl ?_
      refine x_iconst dX12_layOrder_97 ?_
      refine x_iload dX12_layOrder_98 rfl ?_
      refine x_ishl dX12_layOrder_100 ?_
      refine x_ior dX12_layOrder_101 ?_
      refine x_istore (lv2 := [(5, _), (0, _), (1, _), (3, _), (4, _), (6, _), (8, _)]) dX12_layOrder_102 (by decide) rfl ?_
      refine x_aload_n dX12_layOrder_104 rfl ?_
      refine x_getR (b := 318) dX12_layOrder_105 gf_RX12_56 (k_ob_306 cs) (fun _ _ => rfl) (k_r_306_28 cs) ?_
      refine x_iload dX12_layOrder_108 rfl ?_
      refine x_iload dX12_layOrder_110 rfl ?_
      refine x_iastore dX12_layOrder_112 (k_ar_318 cs) (by omega) (by omega) ?_
      refine x_iinc (lv2 := [(6, _), (5, _), (0, _), (1, _), (3, _), (4, _), (8, _)]) dX12_layOrder_113 rfl (by decide) rfl ?_
      refine x_goto 9 dX12_layOrder_116 (by decide) ?_
      refine x_sub [2, 3, 4, 5, 1, 0] rfl ?_
      rw [shl1_n (by omega), orI_n (by omega) (by omega), show (kk : Int) + 1 = ((kk + 1 : Nat) : Int) from rfl]
      refine ih (n0 - (kk + 1)) (by omega) (kk + 1) (u ||| 2 ^ q9) (lf % fcN m9) _ (by omega) rfl hor ?_ ?_ ?_ (fun x hx => by rw [uI_row hx]; exact hF x hx) (fun q hq => ?_)
      · rw [sd_or hs, hsd]; omega
      · rw [show n0 - (kk + 1) = m9 by omega]; exact Nat.mod_lt _ (by omega)
      · rw [show n0 - (kk + 1) = m9 by omega, sd_or hs]; exact hd9.2.2
      · by_cases hqk : q = kk
        · subst hqk
          rw [uI_x rfl (by omega), hd9.2.1]
        · rw [uI_o (by omega)]; exact hv q (by omega)
theorem sp_X12_layOrder {s c n0 : Nat} (cs : CS S R) (hn : 2 ≤ n) (hs : s < 256) (hb : bcN s = n0) (h5 : n0 ≤ 5) (hc : c < fcN n0) (hp : ∀ J, (∀ x, x ≠ 318 → J x = I x) → (∀ q, q < n0 → J 318 q = (((ordC n0 s c).getD q 0 : Nat) : Int)) → Post none S J R) : Call n 0 0 mX12_layOrder [.ref (S.2.1 306), .int (iI (s : Int)), .int (iI (c : Int)), .int (iI (n0 : Int))] S I R Post := by
  have e0 : sdN s 0 = s := by
    have : ∀ s < 256, sdN s 0 = s := by decide +kernel
    exact this s hs
  refine Call.of (by decide +kernel) (Nat.le_of_ble_eq_true rfl) ?_
  show WP _ _ _ _ _ 0 [(0, _), (1, _), (2, _), (3, _)] [] 0 0 _ _ _
  refine x_iload_n dX12_layOrder_0 rfl ?_
  refine x_istore (lv2 := [(4, _), (0, _), (1, _), (2, _), (3, _)]) dX12_layOrder_1 (by decide) rfl ?_
  refine x_iconst dX12_layOrder_3 ?_
  refine x_istore (lv2 := [(5, _), (4, _), (0, _), (1, _), (2, _), (3, _)]) dX12_layOrder_4 (by decide) rfl ?_
  refine x_iconst dX12_layOrder_6 ?_
  refine x_istore (lv2 := [(6, _), (5, _), (4, _), (0, _), (1, _), (2, _), (3, _)]) dX12_layOrder_7 (by decide) rfl ?_
  refine x_sub [3, 4, 6, 2, 1, 0] rfl ?_
  exact lp_order cs hn hs h5 hp n0 0 0 c I (by omega) rfl (by omega) (by rw [e0]; exact hb) hc (by rw [e0]; rfl) (fun _ _ => rfl) (fun q hq => by omega)
end Pl1s
