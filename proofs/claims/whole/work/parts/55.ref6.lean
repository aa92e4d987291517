section Ref6
variable {n mc ms : Nat} {M : Md} {pc : Nat} {lv : List (Nat × Value)} {st : List Value} {k j : Nat} {Post : PT} {S : Sh} {I : CI} {R : CR} {A : Nat → Int} {tx : Nat → Nat → Int}
theorem tdiv_b {x y : Int} (hx : -1000000 ≤ x ∧ x ≤ 1000000) : -1000000 ≤ x.tdiv y ∧ x.tdiv y ≤ 1000000 := by
  have h : (x.tdiv y).natAbs ≤ x.natAbs := by rw [Int.natAbs_tdiv]; exact Nat.div_le_self _ _
  omega
theorem clip_id {x : Int} (hx : -1000000 ≤ x ∧ x ≤ 1000000) : clipI x = x := by unfold clipI; rw [if_neg (by omega), if_neg (by omega)]
theorem dX12_two_0 : decode prog_14_method_64_code 0 = .ok (.iload_n 0, 1) := by decide +kernel
theorem dX12_two_1 : decode prog_14_method_64_code 1 = .ok (.tableswitch 48 6 8 #[27, 34, 41], 27) := by decide +kernel
theorem dX12_two_28 : decode prog_14_method_64_code 28 = .ok (.lload_n 1, 1) := by decide +kernel
theorem dX12_two_29 : decode prog_14_method_64_code 29 = .ok (.lload_n 3, 1) := by decide +kernel
theorem dX12_two_30 : decode prog_14_method_64_code 30 = .ok (.ladd, 1) := by decide +kernel
theorem dX12_two_31 : decode prog_14_method_64_code 31 = .ok (.invokestatic 277, 3) := by decide +kernel
theorem dX12_two_34 : decode prog_14_method_64_code 34 = .ok (.lreturn, 1) := by decide +kernel
theorem dX12_two_35 : decode prog_14_method_64_code 35 = .ok (.lload_n 1, 1) := by decide +kernel
theorem dX12_two_36 : decode prog_14_method_64_code 36 = .ok (.lload_n 3, 1) := by decide +kernel
theorem dX12_two_37 : decode prog_14_method_64_code 37 = .ok (.lsub, 1) := by decide +kernel
theorem dX12_two_38 : decode prog_14_method_64_code 38 = .ok (.invokestatic 277, 3) := by decide +kernel
theorem dX12_two_41 : decode prog_14_method_64_code 41 = .ok (.lreturn, 1) := by decide +kernel
theorem dX12_two_42 : decode prog_14_method_64_code 42 = .ok (.lload_n 1, 1) := by decide +kernel
theorem dX12_two_43 : decode prog_14_method_64_code 43 = .ok (.lload_n 3, 1) := by decide +kernel
theorem dX12_two_44 : decode prog_14_method_64_code 44 = .ok (.lmul, 1) := by decide +kernel
theorem dX12_two_45 : decode prog_14_method_64_code 45 = .ok (.invokestatic 277, 3) := by decide +kernel
theorem dX12_two_48 : decode prog_14_method_64_code 48 = .ok (.lreturn, 1) := by decide +kernel
theorem dX12_two_49 : decode prog_14_method_64_code 49 = .ok (.lload_n 3, 1) := by decide +kernel
theorem dX12_two_50 : decode prog_14_method_64_code 50 = .ok (.lconst 0, 1) := by decide +kernel
theorem dX12_two_51 : decode prog_14_method_64_code 51 = .ok (.lcmp, 1) := by decide +kernel
theorem dX12_two_52 : decode prog_14_method_64_code 52 = .ok (.ifCond .ne 7, 3) := by decide +kernel
theorem dX12_two_55 : decode prog_14_method_64_code 55 = .ok (.lconst 0, 1) := by decide +kernel
theorem dX12_two_56 : decode prog_14_method_64_code 56 = .ok (.goto 9, 3) := by decide +kernel
theorem dX12_two_59 : decode prog_14_method_64_code 59 = .ok (.lload_n 1, 1) := by decide +kernel
theorem dX12_two_60 : decode prog_14_method_64_code 60 = .ok (.lload_n 3, 1) := by decide +kernel
theorem dX12_two_61 : decode prog_14_method_64_code 61 = .ok (.ldiv, 1) := by decide +kernel
theorem dX12_two_62 : decode prog_14_method_64_code 62 = .ok (.invokestatic 277, 3) := by decide +kernel
theorem dX12_two_65 : decode prog_14_method_64_code 65 = .ok (.lreturn, 1) := by decide +kernel
theorem sp_X12_two {o x y : Int} (ho : 6 ≤ o ∧ o ≤ 9) (hx : -1000000 ≤ x ∧ x ≤ 1000000) (hy : -1000000 ≤ y ∧ y ≤ 1000000) (hn : 1 ≤ n) (hp : Post (some (.long (lI (clipI (woF A (o - 1) x y 0))))) S I R) : Call n 0 0 mX12_two [.int (iI o), .long (lI x), .long (lI y)] S I R Post := by
  refine Call.of (by decide +kernel) (Nat.le_of_ble_eq_true rfl) ?_
  show WP _ _ _ _ _ 0 [(0, _), (1, _), (3, _)] [] 0 0 _ _ _
  refine x_iload_n dX12_two_0 rfl ?_
  by_cases t1_0 : o = 6
  · refine x_tableIn 28 dX12_two_1 (by omega) (by omega) (by rw [t1_0]; rfl) (by decide) ?_
    refine x_lload_n dX12_two_28 rfl ?_
    refine x_lload_n dX12_two_29 rfl ?_
    refine x_ladd dX12_two_30 ?_
    refine x_callS1 (mc1 := 0) (ms1 := 0) dX12_two_31 cv_RX12_277 (Nat.le_of_ble_eq_true rfl) (n1 := n - 1) (by omega) (by omega) (by omega) ?_
    refine sp_X12_clip (by first | omega | (have := mul_b hx hy; omega) | (have := tdiv_b (y := y) hx; omega)) ?_
    exact x_lreturn dX12_two_34 rfl (by omega) (by omega) (by first | (obtain rfl : o = 6 := (by omega); exact hp) | (obtain rfl : o = 7 := (by omega); exact hp) | (obtain rfl : o = 8 := (by omega); exact hp) | (obtain rfl : o = 9 := (by omega); rw [show (9 : Int) - 1 = 8 from rfl, wo_8] at hp; first | (rw [if_pos (by omega)] at hp; exact hp) | (rw [if_neg (by omega)] at hp; exact hp)))
  by_cases t1_1 : o = 7
  · refine x_tableIn 35 dX12_two_1 (by omega) (by omega) (by rw [t1_1]; rfl) (by decide) ?_
    refine x_lload_n dX12_two_35 rfl ?_
    refine x_lload_n dX12_two_36 rfl ?_
    refine x_lsub dX12_two_37 ?_
    refine x_callS1 (mc1 := 0) (ms1 := 0) dX12_two_38 cv_RX12_277 (Nat.le_of_ble_eq_true rfl) (n1 := n - 1) (by omega) (by omega) (by omega) ?_
    refine sp_X12_clip (by first | omega | (have := mul_b hx hy; omega) | (have := tdiv_b (y := y) hx; omega)) ?_
    exact x_lreturn dX12_two_41 rfl (by omega) (by omega) (by first | (obtain rfl : o = 6 := (by omega); exact hp) | (obtain rfl : o = 7 := (by omega); exact hp) | (obtain rfl : o = 8 := (by omega); exact hp) | (obtain rfl : o = 9 := (by omega); rw [show (9 : Int) - 1 = 8 from rfl, wo_8] at hp; first | (rw [if_pos (by omega)] at hp; exact hp) | (rw [if_neg (by omega)] at hp; exact hp)))
  by_cases t1_2 : o = 8
  · refine x_tableIn 42 dX12_two_1 (by omega) (by omega) (by rw [t1_2]; rfl) (by decide) ?_
    refine x_lload_n dX12_two_42 rfl ?_
    refine x_lload_n dX12_two_43 rfl ?_
    refine x_lmul dX12_two_44 ?_
    refine x_callS1 (mc1 := 0) (ms1 := 0) dX12_two_45 cv_RX12_277 (Nat.le_of_ble_eq_true rfl) (n1 := n - 1) (by omega) (by omega) (by omega) ?_
    refine sp_X12_clip (by first | omega | (have := mul_b hx hy; omega) | (have := tdiv_b (y := y) hx; omega)) ?_
    exact x_lreturn dX12_two_48 rfl (by omega) (by omega) (by first | (obtain rfl : o = 6 := (by omega); exact hp) | (obtain rfl : o = 7 := (by omega); exact hp) | (obtain rfl : o = 8 := (by omega); exact hp) | (obtain rfl : o = 9 := (by omega); rw [show (9 : Int) - 1 = 8 from rfl, wo_8] at hp; first | (rw [if_pos (by omega)] at hp; exact hp) | (rw [if_neg (by omega)] at hp; exact hp)))
  refine x_tableOut 49 dX12_two_1 (by omega) (by omega) (by decide) ?_
  refine x_lload_n dX12_two_49 rfl ?_
  refine x_lconst0 dX12_two_50 ?_
  refine x_lcif_ne 59 dX12_two_51 dX12_two_52 (by decide) (by omega) (fun w51 => ?_) (fun w51 => ?_)
  · refine x_lload_n dX12_two_59 rfl ?_
    refine x_lload_n dX12_two_60 rfl ?_
    refine x_ldiv dX12_two_61 (by omega) ?_
    refine x_callS1 (mc1 := 0) (ms1 := 0) dX12_two_62 cv_RX12_277 (Nat.le_of_ble_eq_true rfl) (n1 := n - 1) (by omega) (by omega) (by omega) ?_
    refine sp_X12_clip (by first | omega | (have := mul_b hx hy; omega) | (have := tdiv_b (y := y) hx; omega)) ?_
    exact x_lreturn dX12_two_65 rfl (by omega) (by omega) (by first | (obtain rfl : o = 6 := (by omega); exact hp) | (obtain rfl : o = 7 := (by omega); exact hp) | (obtain rfl : o = 8 := (by omega); exact hp) | (obtain rfl : o = 9 := (by omega); rw [show (9 : Int) - 1 = 8 from rfl, wo_8] at hp; first | (rw [if_pos (by omega)] at hp; exact hp) | (rw [if_neg (by omega)] at hp; exact hp)))
  · refine x_lconst0 dX12_two_55 ?_
    refine x_goto 65 dX12_two_56 (by decide) ?_
    exact x_lreturn dX12_two_65 rfl (by omega) (by omega) (by first | (obtain rfl : o = 6 := (by omega); exact hp) | (obtain rfl : o = 7 := (by omega); exact hp) | (obtain rfl : o = 8 := (by omega); exact hp) | (obtain rfl : o = 9 := (by omega); rw [show (9 : Int) - 1 = 8 from rfl, wo_8] at hp; first | (rw [if_pos (by omega)] at hp; exact hp) | (rw [if_neg (by omega)] at hp; exact hp)))
abbrev askP (o x y : Int) : Prop := (o = 10 ∧ x < y) ∨ (o = 11 ∧ x ≤ y) ∨ (o = 12 ∧ y < x) ∨ (o = 13 ∧ y ≤ x) ∨ (o = 14 ∧ x = y) ∨ (o = 15 ∧ x ≠ y)
theorem ask_1 {o x y : Int} (ho : 10 ≤ o ∧ o ≤ 15) (h : askP o x y) : woF A o x y 0 = 1 := by
  rcases (show o = 10 ∨ o = 11 ∨ o = 12 ∨ o = 13 ∨ o = 14 ∨ o = 15 by omega) with rfl | rfl | rfl | rfl | rfl | rfl
  · rw [wo_10, if_pos (by omega)]
  · rw [wo_11, if_pos (by omega)]
  · rw [wo_12, if_pos (by omega)]
  · rw [wo_13, if_pos (by omega)]
  · rw [wo_14, if_pos (by omega)]
  · rw [wo_15, if_neg (by omega)]
theorem ask_0 {o x y : Int} (ho : 10 ≤ o ∧ o ≤ 15) (h : ¬ askP o x y) : woF A o x y 0 = 0 := by
  rcases (show o = 10 ∨ o = 11 ∨ o = 12 ∨ o = 13 ∨ o = 14 ∨ o = 15 by omega) with rfl | rfl | rfl | rfl | rfl | rfl
  · rw [wo_10, if_neg (by omega)]
  · rw [wo_11, if_neg (by omega)]
  · rw [wo_12, if_neg (by omega)]
  · rw [wo_13, if_neg (by omega)]
  · rw [wo_14, if_neg (by omega)]
  · rw [wo_15, if_pos (by omega)]
theorem dX12_isAsked_0 : decode prog_14_method_65_code 0 = .ok (.iload_n 0, 1) := by decide +kernel
theorem dX12_isAsked_1 : decode prog_14_method_65_code 1 = .ok (.bipush 10, 2) := by decide +kernel
theorem dX12_isAsked_3 : decode prog_14_method_65_code 3 = .ok (.if_icmp .ne 17, 3) := by decide +kernel
theorem dX12_isAsked_6 : decode prog_14_method_65_code 6 = .ok (.lload_n 1, 1) := by decide +kernel
theorem dX12_isAsked_7 : decode prog_14_method_65_code 7 = .ok (.lload_n 3, 1) := by decide +kernel
theorem dX12_isAsked_8 : decode prog_14_method_65_code 8 = .ok (.lcmp, 1) := by decide +kernel
theorem dX12_isAsked_9 : decode prog_14_method_65_code 9 = .ok (.ifCond .ge 7, 3) := by decide +kernel
theorem dX12_isAsked_12 : decode prog_14_method_65_code 12 = .ok (.iconst 1, 1) := by decide +kernel
theorem dX12_isAsked_13 : decode prog_14_method_65_code 13 = .ok (.goto 98, 3) := by decide +kernel
theorem dX12_isAsked_16 : decode prog_14_method_65_code 16 = .ok (.iconst 0, 1) := by decide +kernel
theorem dX12_isAsked_17 : decode prog_14_method_65_code 17 = .ok (.goto 94, 3) := by decide +kernel
theorem dX12_isAsked_20 : decode prog_14_method_65_code 20 = .ok (.iload_n 0, 1) := by decide +kernel
theorem dX12_isAsked_21 : decode prog_14_method_65_code 21 = .ok (.bipush 11, 2) := by decide +kernel
theorem dX12_isAsked_23 : decode prog_14_method_65_code 23 = .ok (.if_icmp .ne 17, 3) := by decide +kernel
theorem dX12_isAsked_26 : decode prog_14_method_65_code 26 = .ok (.lload_n 1, 1) := by decide +kernel
theorem dX12_isAsked_27 : decode prog_14_method_65_code 27 = .ok (.lload_n 3, 1) := by decide +kernel
theorem dX12_isAsked_28 : decode prog_14_method_65_code 28 = .ok (.lcmp, 1) := by decide +kernel
theorem dX12_isAsked_29 : decode prog_14_method_65_code 29 = .ok (.ifCond .gt 7, 3) := by decide +kernel
theorem dX12_isAsked_32 : decode prog_14_method_65_code 32 = .ok (.iconst 1, 1) := by decide +kernel
theorem dX12_isAsked_33 : decode prog_14_method_65_code 33 = .ok (.goto 78, 3) := by decide +kernel
theorem dX12_isAsked_36 : decode prog_14_method_65_code 36 = .ok (.iconst 0, 1) := by decide +kernel
theorem dX12_isAsked_37 : decode prog_14_method_65_code 37 = .ok (.goto 74, 3) := by decide +kernel
theorem dX12_isAsked_40 : decode prog_14_method_65_code 40 = .ok (.iload_n 0, 1) := by decide +kernel
theorem dX12_isAsked_41 : decode prog_14_method_65_code 41 = .ok (.bipush 12, 2) := by decide +kernel
theorem dX12_isAsked_43 : decode prog_14_method_65_code 43 = .ok (.if_icmp .ne 17, 3) := by decide +kernel
theorem dX12_isAsked_46 : decode prog_14_method_65_code 46 = .ok (.lload_n 1, 1) := by decide +kernel
theorem dX12_isAsked_47 : decode prog_14_method_65_code 47 = .ok (.lload_n 3, 1) := by decide +kernel
theorem dX12_isAsked_48 : decode prog_14_method_65_code 48 = .ok (.lcmp, 1) := by decide +kernel
theorem dX12_isAsked_49 : decode prog_14_method_65_code 49 = .ok (.ifCond .le 7, 3) := by decide +kernel
theorem dX12_isAsked_52 : decode prog_14_method_65_code 52 = .ok (.iconst 1, 1) := by decide +kernel
theorem dX12_isAsked_53 : decode prog_14_method_65_code 53 = .ok (.goto 58, 3) := by decide +kernel
theorem dX12_isAsked_56 : decode prog_14_method_65_code 56 = .ok (.iconst 0, 1) := by decide +kernel
theorem dX12_isAsked_57 : decode prog_14_method_65_code 57 = .ok (.goto 54, 3) := by decide +kernel
theorem dX12_isAsked_60 : decode prog_14_method_65_code 60 = .ok (.iload_n 0, 1) := by decide +kernel
theorem dX12_isAsked_61 : decode prog_14_method_65_code 61 = .ok (.bipush 13, 2) := by decide +kernel
theorem dX12_isAsked_63 : decode prog_14_method_65_code 63 = .ok (.if_icmp .ne 17, 3) := by decide +kernel
theorem dX12_isAsked_66 : decode prog_14_method_65_code 66 = .ok (.lload_n 1, 1) := by decide +kernel
theorem dX12_isAsked_67 : decode prog_14_method_65_code 67 = .ok (.lload_n 3, 1) := by decide +kernel
theorem dX12_isAsked_68 : decode prog_14_method_65_code 68 = .ok (.lcmp, 1) := by decide +kernel
theorem dX12_isAsked_69 : decode prog_14_method_65_code 69 = .ok (.ifCond .lt 7, 3) := by decide +kernel
theorem dX12_isAsked_72 : decode prog_14_method_65_code 72 = .ok (.iconst 1, 1) := by decide +kernel
theorem dX12_isAsked_73 : decode prog_14_method_65_code 73 = .ok (.goto 38, 3) := by decide +kernel
theorem dX12_isAsked_76 : decode prog_14_method_65_code 76 = .ok (.iconst 0, 1) := by decide +kernel
theorem dX12_isAsked_77 : decode prog_14_method_65_code 77 = .ok (.goto 34, 3) := by decide +kernel
theorem dX12_isAsked_80 : decode prog_14_method_65_code 80 = .ok (.iload_n 0, 1) := by decide +kernel
theorem dX12_isAsked_81 : decode prog_14_method_65_code 81 = .ok (.bipush 14, 2) := by decide +kernel
theorem dX12_isAsked_83 : decode prog_14_method_65_code 83 = .ok (.if_icmp .ne 17, 3) := by decide +kernel
theorem dX12_isAsked_86 : decode prog_14_method_65_code 86 = .ok (.lload_n 1, 1) := by decide +kernel
theorem dX12_isAsked_87 : decode prog_14_method_65_code 87 = .ok (.lload_n 3, 1) := by decide +kernel
theorem dX12_isAsked_88 : decode prog_14_method_65_code 88 = .ok (.lcmp, 1) := by decide +kernel
theorem dX12_isAsked_89 : decode prog_14_method_65_code 89 = .ok (.ifCond .ne 7, 3) := by decide +kernel
theorem dX12_isAsked_92 : decode prog_14_method_65_code 92 = .ok (.iconst 1, 1) := by decide +kernel
theorem dX12_isAsked_93 : decode prog_14_method_65_code 93 = .ok (.goto 18, 3) := by decide +kernel
theorem dX12_isAsked_96 : decode prog_14_method_65_code 96 = .ok (.iconst 0, 1) := by decide +kernel
theorem dX12_isAsked_97 : decode prog_14_method_65_code 97 = .ok (.goto 14, 3) := by decide +kernel
theorem dX12_isAsked_100 : decode prog_14_method_65_code 100 = .ok (.lload_n 1, 1) := by decide +kernel
theorem dX12_isAsked_101 : decode prog_14_method_65_code 101 = .ok (.lload_n 3, 1) := by decide +kernel
theorem dX12_isAsked_102 : decode prog_14_method_65_code 102 = .ok (.lcmp, 1) := by decide +kernel
theorem dX12_isAsked_103 : decode prog_14_method_65_code 103 = .ok (.ifCond .eq 7, 3) := by decide +kernel
theorem dX12_isAsked_106 : decode prog_14_method_65_code 106 = .ok (.iconst 1, 1) := by decide +kernel
theorem dX12_isAsked_107 : decode prog_14_method_65_code 107 = .ok (.goto 4, 3) := by decide +kernel
theorem dX12_isAsked_110 : decode prog_14_method_65_code 110 = .ok (.iconst 0, 1) := by decide +kernel
theorem dX12_isAsked_111 : decode prog_14_method_65_code 111 = .ok (.ireturn, 1) := by decide +kernel
theorem sp_X12_isAsked {o x y : Int} (ho : 10 ≤ o ∧ o ≤ 15) (hx : -1000000 ≤ x ∧ x ≤ 1000000) (hy : -1000000 ≤ y ∧ y ≤ 1000000) (hp : ∀ r, r = woF A o x y 0 → (r = 0 ∨ r = 1) → Post (some (.int (iI r))) S I R) : Call n 0 0 mX12_isAsked [.int (iI o), .long (lI x), .long (lI y)] S I R Post := by
  refine Call.of (by decide +kernel) (Nat.le_of_ble_eq_true rfl) ?_
  show WP _ _ _ _ _ 0 [(0, _), (1, _), (3, _)] [] 0 0 _ _ _
  refine x_iload_n dX12_isAsked_0 rfl ?_
  refine x_bipush dX12_isAsked_1 (by decide) ?_
  refine x_icmp_ne 20 dX12_isAsked_3 (by decide) ⟨(by omega), (by omega)⟩ (fun w3 => ?_) (fun w3 => ?_)
  · refine x_iload_n dX12_isAsked_20 rfl ?_
    refine x_bipush dX12_isAsked_21 (by decide) ?_
    refine x_icmp_ne 40 dX12_isAsked_23 (by decide) ⟨(by omega), (by omega)⟩ (fun w23 => ?_) (fun w23 => ?_)
    · refine x_iload_n dX12_isAsked_40 rfl ?_
      refine x_bipush dX12_isAsked_41 (by decide) ?_
      refine x_icmp_ne 60 dX12_isAsked_43 (by decide) ⟨(by omega), (by omega)⟩ (fun w43 => ?_) (fun w43 => ?_)
      · refine x_iload_n dX12_isAsked_60 rfl ?_
        refine x_bipush dX12_isAsked_61 (by decide) ?_
        refine x_icmp_ne 80 dX12_isAsked_63 (by decide) ⟨(by omega), (by omega)⟩ (fun w63 => ?_) (fun w63 => ?_)
        · refine x_iload_n dX12_isAsked_80 rfl ?_
          refine x_bipush dX12_isAsked_81 (by decide) ?_
          refine x_icmp_ne 100 dX12_isAsked_83 (by decide) ⟨(by omega), (by omega)⟩ (fun w83 => ?_) (fun w83 => ?_)
          · refine x_lload_n dX12_isAsked_100 rfl ?_
            refine x_lload_n dX12_isAsked_101 rfl ?_
            refine x_lcif_eq 110 dX12_isAsked_102 dX12_isAsked_103 (by decide) (by omega) (fun w102 => ?_) (fun w102 => ?_)
            · refine x_iconst dX12_isAsked_110 ?_
              exact x_zreturn (by omega) dX12_isAsked_111 rfl (by omega) (by omega) (by first | exact hp 1 (ask_1 ho (by omega)).symm (Or.inr rfl) | exact hp 0 (ask_0 ho (by omega)).symm (Or.inl rfl))
            · refine x_iconst dX12_isAsked_106 ?_
              refine x_goto 111 dX12_isAsked_107 (by decide) ?_
              exact x_zreturn (by omega) dX12_isAsked_111 rfl (by omega) (by omega) (by first | exact hp 1 (ask_1 ho (by omega)).symm (Or.inr rfl) | exact hp 0 (ask_0 ho (by omega)).symm (Or.inl rfl))
          · refine x_lload_n dX12_isAsked_86 rfl ?_
            refine x_lload_n dX12_isAsked_87 rfl ?_
            refine x_lcif_ne 96 dX12_isAsked_88 dX12_isAsked_89 (by decide) (by omega) (fun w88 => ?_) (fun w88 => ?_)
            · refine x_iconst dX12_isAsked_96 ?_
              refine x_goto 111 dX12_isAsked_97 (by decide) ?_
              exact x_zreturn (by omega) dX12_isAsked_111 rfl (by omega) (by omega) (by first | exact hp 1 (ask_1 ho (by omega)).symm (Or.inr rfl) | exact hp 0 (ask_0 ho (by omega)).symm (Or.inl rfl))
            · refine x_iconst dX12_isAsked_92 ?_
              refine x_goto 111 dX12_isAsked_93 (by decide) ?_
              exact x_zreturn (by omega) dX12_isAsked_111 rfl (by omega) (by omega) (by first | exact hp 1 (ask_1 ho (by omega)).symm (Or.inr rfl) | exact hp 0 (ask_0 ho (by omega)).symm (Or.inl rfl))
        · refine x_lload_n dX12_isAsked_66 rfl ?_
          refine x_lload_n dX12_isAsked_67 rfl ?_
          refine x_lcif_lt 76 dX12_isAsked_68 dX12_isAsked_69 (by decide) (by omega) (fun w68 => ?_) (fun w68 => ?_)
          · refine x_iconst dX12_isAsked_76 ?_
            refine x_goto 111 dX12_isAsked_77 (by decide) ?_
            exact x_zreturn (by omega) dX12_isAsked_111 rfl (by omega) (by omega) (by first | exact hp 1 (ask_1 ho (by omega)).symm (Or.inr rfl) | exact hp 0 (ask_0 ho (by omega)).symm (Or.inl rfl))
          · refine x_iconst dX12_isAsked_72 ?_
            refine x_goto 111 dX12_isAsked_73 (by decide) ?_
            exact x_zreturn (by omega) dX12_isAsked_111 rfl (by omega) (by omega) (by first | exact hp 1 (ask_1 ho (by omega)).symm (Or.inr rfl) | exact hp 0 (ask_0 ho (by omega)).symm (Or.inl rfl))
      · refine x_lload_n dX12_isAsked_46 rfl ?_
        refine x_lload_n dX12_isAsked_47 rfl ?_
        refine x_lcif_le 56 dX12_isAsked_48 dX12_isAsked_49 (by decide) (by omega) (fun w48 => ?_) (fun w48 => ?_)
        · refine x_iconst dX12_isAsked_56 ?_
          refine x_goto 111 dX12_isAsked_57 (by decide) ?_
          exact x_zreturn (by omega) dX12_isAsked_111 rfl (by omega) (by omega) (by first | exact hp 1 (ask_1 ho (by omega)).symm (Or.inr rfl) | exact hp 0 (ask_0 ho (by omega)).symm (Or.inl rfl))
        · refine x_iconst dX12_isAsked_52 ?_
          refine x_goto 111 dX12_isAsked_53 (by decide) ?_
          exact x_zreturn (by omega) dX12_isAsked_111 rfl (by omega) (by omega) (by first | exact hp 1 (ask_1 ho (by omega)).symm (Or.inr rfl) | exact hp 0 (ask_0 ho (by omega)).symm (Or.inl rfl))
    · refine x_lload_n dX12_isAsked_26 rfl ?_
      refine x_lload_n dX12_isAsked_27 rfl ?_
      refine x_lcif_gt 36 dX12_isAsked_28 dX12_isAsked_29 (by decide) (by omega) (fun w28 => ?_) (fun w28 => ?_)
      · refine x_iconst dX12_isAsked_36 ?_
        refine x_goto 111 dX12_isAsked_37 (by decide) ?_
        exact x_zreturn (by omega) dX12_isAsked_111 rfl (by omega) (by omega) (by first | exact hp 1 (ask_1 ho (by omega)).symm (Or.inr rfl) | exact hp 0 (ask_0 ho (by omega)).symm (Or.inl rfl))
      · refine x_iconst dX12_isAsked_32 ?_
        refine x_goto 111 dX12_isAsked_33 (by decide) ?_
        exact x_zreturn (by omega) dX12_isAsked_111 rfl (by omega) (by omega) (by first | exact hp 1 (ask_1 ho (by omega)).symm (Or.inr rfl) | exact hp 0 (ask_0 ho (by omega)).symm (Or.inl rfl))
  · refine x_lload_n dX12_isAsked_6 rfl ?_
    refine x_lload_n dX12_isAsked_7 rfl ?_
    refine x_lcif_ge 16 dX12_isAsked_8 dX12_isAsked_9 (by decide) (by omega) (fun w8 => ?_) (fun w8 => ?_)
    · refine x_iconst dX12_isAsked_16 ?_
      refine x_goto 111 dX12_isAsked_17 (by decide) ?_
      exact x_zreturn (by omega) dX12_isAsked_111 rfl (by omega) (by omega) (by first | exact hp 1 (ask_1 ho (by omega)).symm (Or.inr rfl) | exact hp 0 (ask_0 ho (by omega)).symm (Or.inl rfl))
    · refine x_iconst dX12_isAsked_12 ?_
      refine x_goto 111 dX12_isAsked_13 (by decide) ?_
      exact x_zreturn (by omega) dX12_isAsked_111 rfl (by omega) (by omega) (by first | exact hp 1 (ask_1 ho (by omega)).symm (Or.inr rfl) | exact hp 0 (ask_0 ho (by omega)).symm (Or.inl rfl))
theorem dX12_restOf_0 : decode prog_14_method_67_code 0 = .ok (.lload_n 2, 1) := by decide +kernel
theorem dX12_restOf_1 : decode prog_14_method_67_code 1 = .ok (.lconst 0, 1) := by decide +kernel
theorem dX12_restOf_2 : decode prog_14_method_67_code 2 = .ok (.lcmp, 1) := by decide +kernel
theorem dX12_restOf_3 : decode prog_14_method_67_code 3 = .ok (.ifCond .ne 7, 3) := by decide +kernel
theorem dX12_restOf_6 : decode prog_14_method_67_code 6 = .ok (.lconst 0, 1) := by decide +kernel
theorem dX12_restOf_7 : decode prog_14_method_67_code 7 = .ok (.goto 28, 3) := by decide +kernel
theorem dX12_restOf_10 : decode prog_14_method_67_code 10 = .ok (.lload_n 0, 1) := by decide +kernel
theorem dX12_restOf_11 : decode prog_14_method_67_code 11 = .ok (.lconst 0, 1) := by decide +kernel
theorem dX12_restOf_12 : decode prog_14_method_67_code 12 = .ok (.lcmp, 1) := by decide +kernel
theorem dX12_restOf_13 : decode prog_14_method_67_code 13 = .ok (.ifCond .ge 8, 3) := by decide +kernel
theorem dX12_restOf_16 : decode prog_14_method_67_code 16 = .ok (.lload_n 0, 1) := by decide +kernel
theorem dX12_restOf_17 : decode prog_14_method_67_code 17 = .ok (.lneg, 1) := by decide +kernel
theorem dX12_restOf_18 : decode prog_14_method_67_code 18 = .ok (.goto 4, 3) := by decide +kernel
theorem dX12_restOf_21 : decode prog_14_method_67_code 21 = .ok (.lload_n 0, 1) := by decide +kernel
theorem dX12_restOf_22 : decode prog_14_method_67_code 22 = .ok (.lload_n 2, 1) := by decide +kernel
theorem dX12_restOf_23 : decode prog_14_method_67_code 23 = .ok (.lconst 0, 1) := by decide +kernel
theorem dX12_restOf_24 : decode prog_14_method_67_code 24 = .ok (.lcmp, 1) := by decide +kernel
theorem dX12_restOf_25 : decode prog_14_method_67_code 25 = .ok (.ifCond .ge 8, 3) := by decide +kernel
theorem dX12_restOf_28 : decode prog_14_method_67_code 28 = .ok (.lload_n 2, 1) := by decide +kernel
theorem dX12_restOf_29 : decode prog_14_method_67_code 29 = .ok (.lneg, 1) := by decide +kernel
theorem dX12_restOf_30 : decode prog_14_method_67_code 30 = .ok (.goto 4, 3) := by decide +kernel
theorem dX12_restOf_33 : decode prog_14_method_67_code 33 = .ok (.lload_n 2, 1) := by decide +kernel
theorem dX12_restOf_34 : decode prog_14_method_67_code 34 = .ok (.lrem, 1) := by decide +kernel
theorem dX12_restOf_35 : decode prog_14_method_67_code 35 = .ok (.lreturn, 1) := by decide +kernel
theorem sp_X12_restOf {x y : Int} (hx : -1000000 ≤ x ∧ x ≤ 1000000) (hy : -1000000 ≤ y ∧ y ≤ 1000000) (hp : Post (some (.long (lI (woF A 9 x y 0)))) S I R) : Call n 0 0 mX12_restOf [.long (lI x), .long (lI y)] S I R Post := by
  rw [wo_9] at hp
  refine Call.of (by decide +kernel) (Nat.le_of_ble_eq_true rfl) ?_
  show WP _ _ _ _ _ 0 [(0, _), (2, _)] [] 0 0 _ _ _
  refine x_lload_n dX12_restOf_0 rfl ?_
  refine x_lconst0 dX12_restOf_1 ?_
  refine x_lcif_ne 10 dX12_restOf_2 dX12_restOf_3 (by decide) (by omega) (fun w2 => ?_) (fun w2 => ?_)
  · refine x_lload_n dX12_restOf_10 rfl ?_
    refine x_lconst0 dX12_restOf_11 ?_
    refine x_lcif_ge 21 dX12_restOf_12 dX12_restOf_13 (by decide) (by omega) (fun w12 => ?_) (fun w12 => ?_)
    · refine x_lload_n dX12_restOf_21 rfl ?_
      refine x_lload_n dX12_restOf_22 rfl ?_
      refine x_lconst0 dX12_restOf_23 ?_
      refine x_lcif_ge 33 dX12_restOf_24 dX12_restOf_25 (by decide) (by omega) (fun w24 => ?_) (fun w24 => ?_)
      · refine x_lload_n dX12_restOf_33 rfl ?_
        refine x_lrem dX12_restOf_34 (by omega) ?_
        exact x_lreturn dX12_restOf_35 rfl (by omega) (by omega) (by first | (rw [if_pos (by omega)] at hp; exact hp) | (rw [if_neg (by omega), if_pos (by omega), if_pos (by omega)] at hp; exact hp) | (rw [if_neg (by omega), if_pos (by omega), if_neg (by omega)] at hp; exact hp) | (rw [if_neg (by omega), if_neg (by omega), if_pos (by omega)] at hp; exact hp) | (rw [if_neg (by omega), if_neg (by omega), if_neg (by omega)] at hp; exact hp))
      · refine x_lload_n dX12_restOf_28 rfl ?_
        refine x_lneg dX12_restOf_29 ?_
        refine x_goto 34 dX12_restOf_30 (by decide) ?_
        refine x_lrem dX12_restOf_34 (by omega) ?_
        exact x_lreturn dX12_restOf_35 rfl (by omega) (by omega) (by first | (rw [if_pos (by omega)] at hp; exact hp) | (rw [if_neg (by omega), if_pos (by omega), if_pos (by omega)] at hp; exact hp) | (rw [if_neg (by omega), if_pos (by omega), if_neg (by omega)] at hp; exact hp) | (rw [if_neg (by omega), if_neg (by omega), if_pos (by omega)] at hp; exact hp) | (rw [if_neg (by omega), if_neg (by omega), if_neg (by omega)] at hp; exact hp))
    · refine x_lload_n dX12_restOf_16 rfl ?_
      refine x_lneg dX12_restOf_17 ?_
      refine x_goto 22 dX12_restOf_18 (by decide) ?_
      refine x_lload_n dX12_restOf_22 rfl ?_
      refine x_lconst0 dX12_restOf_23 ?_
      refine x_lcif_ge 33 dX12_restOf_24 dX12_restOf_25 (by decide) (by omega) (fun w24 => ?_) (fun w24 => ?_)
      · refine x_lload_n dX12_restOf_33 rfl ?_
        refine x_lrem dX12_restOf_34 (by omega) ?_
        exact x_lreturn dX12_restOf_35 rfl (by omega) (by omega) (by first | (rw [if_pos (by omega)] at hp; exact hp) | (rw [if_neg (by omega), if_pos (by omega), if_pos (by omega)] at hp; exact hp) | (rw [if_neg (by omega), if_pos (by omega), if_neg (by omega)] at hp; exact hp) | (rw [if_neg (by omega), if_neg (by omega), if_pos (by omega)] at hp; exact hp) | (rw [if_neg (by omega), if_neg (by omega), if_neg (by omega)] at hp; exact hp))
      · refine x_lload_n dX12_restOf_28 rfl ?_
        refine x_lneg dX12_restOf_29 ?_
        refine x_goto 34 dX12_restOf_30 (by decide) ?_
        refine x_lrem dX12_restOf_34 (by omega) ?_
        exact x_lreturn dX12_restOf_35 rfl (by omega) (by omega) (by first | (rw [if_pos (by omega)] at hp; exact hp) | (rw [if_neg (by omega), if_pos (by omega), if_pos (by omega)] at hp; exact hp) | (rw [if_neg (by omega), if_pos (by omega), if_neg (by omega)] at hp; exact hp) | (rw [if_neg (by omega), if_neg (by omega), if_pos (by omega)] at hp; exact hp) | (rw [if_neg (by omega), if_neg (by omega), if_neg (by omega)] at hp; exact hp))
  · refine x_lconst0 dX12_restOf_6 ?_
    refine x_goto 35 dX12_restOf_7 (by decide) ?_
    exact x_lreturn dX12_restOf_35 rfl (by omega) (by omega) (by first | (rw [if_pos (by omega)] at hp; exact hp) | (rw [if_neg (by omega), if_pos (by omega), if_pos (by omega)] at hp; exact hp) | (rw [if_neg (by omega), if_pos (by omega), if_neg (by omega)] at hp; exact hp) | (rw [if_neg (by omega), if_neg (by omega), if_pos (by omega)] at hp; exact hp) | (rw [if_neg (by omega), if_neg (by omega), if_neg (by omega)] at hp; exact hp))
theorem dX12_joined_0 : decode prog_14_method_68_code 0 = .ok (.iload_n 0, 1) := by decide +kernel
theorem dX12_joined_1 : decode prog_14_method_68_code 1 = .ok (.bipush 21, 2) := by decide +kernel
theorem dX12_joined_3 : decode prog_14_method_68_code 3 = .ok (.if_icmp .ne 19, 3) := by decide +kernel
theorem dX12_joined_6 : decode prog_14_method_68_code 6 = .ok (.iload_n 1, 1) := by decide +kernel
theorem dX12_joined_7 : decode prog_14_method_68_code 7 = .ok (.ifCond .eq 11, 3) := by decide +kernel
theorem dX12_joined_10 : decode prog_14_method_68_code 10 = .ok (.iload_n 2, 1) := by decide +kernel
theorem dX12_joined_11 : decode prog_14_method_68_code 11 = .ok (.ifCond .eq 7, 3) := by decide +kernel
theorem dX12_joined_14 : decode prog_14_method_68_code 14 = .ok (.iconst 1, 1) := by decide +kernel
theorem dX12_joined_15 : decode prog_14_method_68_code 15 = .ok (.goto 20, 3) := by decide +kernel
theorem dX12_joined_18 : decode prog_14_method_68_code 18 = .ok (.iconst 0, 1) := by decide +kernel
theorem dX12_joined_19 : decode prog_14_method_68_code 19 = .ok (.goto 16, 3) := by decide +kernel
theorem dX12_joined_22 : decode prog_14_method_68_code 22 = .ok (.iload_n 1, 1) := by decide +kernel
theorem dX12_joined_23 : decode prog_14_method_68_code 23 = .ok (.ifCond .ne 7, 3) := by decide +kernel
theorem dX12_joined_26 : decode prog_14_method_68_code 26 = .ok (.iload_n 2, 1) := by decide +kernel
theorem dX12_joined_27 : decode prog_14_method_68_code 27 = .ok (.ifCond .eq 7, 3) := by decide +kernel
theorem dX12_joined_30 : decode prog_14_method_68_code 30 = .ok (.iconst 1, 1) := by decide +kernel
theorem dX12_joined_31 : decode prog_14_method_68_code 31 = .ok (.goto 4, 3) := by decide +kernel
theorem dX12_joined_34 : decode prog_14_method_68_code 34 = .ok (.iconst 0, 1) := by decide +kernel
theorem dX12_joined_35 : decode prog_14_method_68_code 35 = .ok (.ireturn, 1) := by decide +kernel
theorem sp_X12_joined {o a b : Int} (ho : o = 21 ∨ o = 22) (ha : a = 0 ∨ a = 1) (hb2 : b = 0 ∨ b = 1) (hp : ∀ r, r = woF A (o - 5) a b 0 → (r = 0 ∨ r = 1) → Post (some (.int (iI r))) S I R) : Call n 0 0 mX12_joined [.int (iI o), .int (iI a), .int (iI b)] S I R Post := by
  refine Call.of (by decide +kernel) (Nat.le_of_ble_eq_true rfl) ?_
  show WP _ _ _ _ _ 0 [(0, _), (1, _), (2, _)] [] 0 0 _ _ _
  refine x_iload_n dX12_joined_0 rfl ?_
  refine x_bipush dX12_joined_1 (by decide) ?_
  refine x_icmp_ne 22 dX12_joined_3 (by decide) ⟨(by omega), (by omega)⟩ (fun w3 => ?_) (fun w3 => ?_)
  · refine x_iload_n dX12_joined_22 rfl ?_
    refine x_if_ne 30 dX12_joined_23 (by decide) (by omega) (fun w23 => ?_) (fun w23 => ?_)
    · refine x_iconst dX12_joined_30 ?_
      refine x_goto 35 dX12_joined_31 (by decide) ?_
      exact x_zreturn (by omega) dX12_joined_35 rfl (by omega) (by omega) (by rcases ho with rfl | rfl <;> rcases ha with rfl | rfl <;> rcases hb2 with rfl | rfl <;> first | (exfalso; omega) | exact hp 1 rfl (Or.inr rfl) | exact hp 0 rfl (Or.inl rfl))
    · refine x_iload_n dX12_joined_26 rfl ?_
      refine x_if_eq 34 dX12_joined_27 (by decide) (by omega) (fun w27 => ?_) (fun w27 => ?_)
      · refine x_iconst dX12_joined_34 ?_
        exact x_zreturn (by omega) dX12_joined_35 rfl (by omega) (by omega) (by rcases ho with rfl | rfl <;> rcases ha with rfl | rfl <;> rcases hb2 with rfl | rfl <;> first | (exfalso; omega) | exact hp 1 rfl (Or.inr rfl) | exact hp 0 rfl (Or.inl rfl))
      · refine x_iconst dX12_joined_30 ?_
        refine x_goto 35 dX12_joined_31 (by decide) ?_
        exact x_zreturn (by omega) dX12_joined_35 rfl (by omega) (by omega) (by rcases ho with rfl | rfl <;> rcases ha with rfl | rfl <;> rcases hb2 with rfl | rfl <;> first | (exfalso; omega) | exact hp 1 rfl (Or.inr rfl) | exact hp 0 rfl (Or.inl rfl))
  · refine x_iload_n dX12_joined_6 rfl ?_
    refine x_if_eq 18 dX12_joined_7 (by decide) (by omega) (fun w7 => ?_) (fun w7 => ?_)
    · refine x_iconst dX12_joined_18 ?_
      refine x_goto 35 dX12_joined_19 (by decide) ?_
      exact x_zreturn (by omega) dX12_joined_35 rfl (by omega) (by omega) (by rcases ho with rfl | rfl <;> rcases ha with rfl | rfl <;> rcases hb2 with rfl | rfl <;> first | (exfalso; omega) | exact hp 1 rfl (Or.inr rfl) | exact hp 0 rfl (Or.inl rfl))
    · refine x_iload_n dX12_joined_10 rfl ?_
      refine x_if_eq 18 dX12_joined_11 (by decide) (by omega) (fun w11 => ?_) (fun w11 => ?_)
      · refine x_iconst dX12_joined_18 ?_
        refine x_goto 35 dX12_joined_19 (by decide) ?_
        exact x_zreturn (by omega) dX12_joined_35 rfl (by omega) (by omega) (by rcases ho with rfl | rfl <;> rcases ha with rfl | rfl <;> rcases hb2 with rfl | rfl <;> first | (exfalso; omega) | exact hp 1 rfl (Or.inr rfl) | exact hp 0 rfl (Or.inl rfl))
      · refine x_iconst dX12_joined_14 ?_
        refine x_goto 35 dX12_joined_15 (by decide) ?_
        exact x_zreturn (by omega) dX12_joined_35 rfl (by omega) (by omega) (by rcases ho with rfl | rfl <;> rcases ha with rfl | rfl <;> rcases hb2 with rfl | rfl <;> first | (exfalso; omega) | exact hp 1 rfl (Or.inr rfl) | exact hp 0 rfl (Or.inl rfl))
theorem dX12_hotOf_0 : decode prog_14_method_66_code 0 = .ok (.lload_n 1, 1) := by decide +kernel
theorem dX12_hotOf_1 : decode prog_14_method_66_code 1 = .ok (.lconst 0, 1) := by decide +kernel
theorem dX12_hotOf_2 : decode prog_14_method_66_code 2 = .ok (.lcmp, 1) := by decide +kernel
theorem dX12_hotOf_3 : decode prog_14_method_66_code 3 = .ok (.ifCond .lt 25, 3) := by decide +kernel
theorem dX12_hotOf_6 : decode prog_14_method_66_code 6 = .ok (.lload_n 1, 1) := by decide +kernel
theorem dX12_hotOf_7 : decode prog_14_method_66_code 7 = .ok (.aload_n 0, 1) := by decide +kernel
theorem dX12_hotOf_8 : decode prog_14_method_66_code 8 = .ok (.getfield 7, 3) := by decide +kernel
theorem dX12_hotOf_11 : decode prog_14_method_66_code 11 = .ok (.iconst 0, 1) := by decide +kernel
theorem dX12_hotOf_12 : decode prog_14_method_66_code 12 = .ok (.iaload, 1) := by decide +kernel
theorem dX12_hotOf_13 : decode prog_14_method_66_code 13 = .ok (.i2l, 1) := by decide +kernel
theorem dX12_hotOf_14 : decode prog_14_method_66_code 14 = .ok (.lcmp, 1) := by decide +kernel
theorem dX12_hotOf_15 : decode prog_14_method_66_code 15 = .ok (.ifCond .ge 13, 3) := by decide +kernel
theorem dX12_hotOf_18 : decode prog_14_method_66_code 18 = .ok (.aload_n 0, 1) := by decide +kernel
theorem dX12_hotOf_19 : decode prog_14_method_66_code 19 = .ok (.lload_n 1, 1) := by decide +kernel
theorem dX12_hotOf_20 : decode prog_14_method_66_code 20 = .ok (.l2i, 1) := by decide +kernel
theorem dX12_hotOf_21 : decode prog_14_method_66_code 21 = .ok (.invokevirtual 281, 3) := by decide +kernel
theorem dX12_hotOf_24 : decode prog_14_method_66_code 24 = .ok (.i2l, 1) := by decide +kernel
theorem dX12_hotOf_25 : decode prog_14_method_66_code 25 = .ok (.goto 4, 3) := by decide +kernel
theorem dX12_hotOf_28 : decode prog_14_method_66_code 28 = .ok (.lconst 0, 1) := by decide +kernel
theorem dX12_hotOf_29 : decode prog_14_method_66_code 29 = .ok (.lreturn, 1) := by decide +kernel
theorem sp_X12_hotOf {x : Int} (cs : CS S R) (hA : I 307 = A) (h0 : 0 ≤ A 0 ∧ A 0 ≤ 8) (he : ∀ q, q < 8 → 0 ≤ A (14 + 3 * q) ∧ A (14 + 3 * q) ≤ 9) (hx : -1000000 ≤ x ∧ x ≤ 1000000) (hn : 1 ≤ n) (hp : Post (some (.long (lI (woF A 3 x 0 0)))) S I R) : Call n 0 0 mX12_hotOf [.ref (S.2.1 306), .long (lI x)] S I R Post := by
  rw [wo_3] at hp
  refine Call.of (by decide +kernel) (Nat.le_of_ble_eq_true rfl) ?_
  show WP _ _ _ _ _ 0 [(0, _), (1, _)] [] 0 0 _ _ _
  refine x_lload_n dX12_hotOf_0 rfl ?_
  refine x_lconst0 dX12_hotOf_1 ?_
  refine x_lcif_lt 28 dX12_hotOf_2 dX12_hotOf_3 (by decide) (by omega) (fun w2 => ?_) (fun w2 => ?_)
  · refine x_lconst0 dX12_hotOf_28 ?_
    exact x_lreturn dX12_hotOf_29 rfl (by omega) (by omega) (by first | (rw [if_pos (by omega)] at hp; exact hp) | (rw [if_neg (by omega)] at hp; exact hp))
  · refine x_lload_n dX12_hotOf_6 rfl ?_
    refine x_aload_n dX12_hotOf_7 rfl ?_
    refine x_getR (b := 307) dX12_hotOf_8 gf_RX12_7 (k_ob_306 cs) (fun _ _ => rfl) (k_r_306_0 cs) ?_
    refine x_iconst dX12_hotOf_11 ?_
    refine x_ald7 (kk := 0) (v := A 0) dX12_hotOf_12 cs (by omega) (by omega) (by rw [hA]; repeat (first | rfl | rw [upA_s] | rw [upA_o (by omega)])) ?_
    refine x_i2l dX12_hotOf_13 (by omega) ?_
    refine x_lcif_ge 28 dX12_hotOf_14 dX12_hotOf_15 (by decide) (by omega) (fun w14 => ?_) (fun w14 => ?_)
    · refine x_lconst0 dX12_hotOf_28 ?_
      exact x_lreturn dX12_hotOf_29 rfl (by omega) (by omega) (by first | (rw [if_pos (by omega)] at hp; exact hp) | (rw [if_neg (by omega)] at hp; exact hp))
    · refine x_aload_n dX12_hotOf_18 rfl ?_
      refine x_lload_n dX12_hotOf_19 rfl ?_
      refine x_l2i dX12_hotOf_20 ?_
      refine x_callV1 (mc1 := 0) (ms1 := 0) dX12_hotOf_21 cv_RX12_281 (ci := 12) (k_ob_306 cs) rfl (Nat.le_of_ble_eq_true rfl) (n1 := n - 1) (by omega) (by omega) (by omega) ?_
      refine sp_X12_heatOf_z cs hA (by omega) ?_
      refine x_i2l dX12_hotOf_24 (by have := he x.toNat (by omega); unfold Rg; omega) ?_
      refine x_goto 29 dX12_hotOf_25 (by decide) ?_
      exact x_lreturn dX12_hotOf_29 rfl (by omega) (by omega) (by first | (rw [if_pos (by omega)] at hp; exact hp) | (rw [if_neg (by omega)] at hp; exact hp))
/-- what lies on the pile: truths (true) and numbers (false), the top first -/
def tyS (op : Int) (ty : List Bool) : Option (List Bool) :=
  if op ≤ 1 then some (false :: ty)
  else if op ≤ 3 then (match ty with | false :: r => some (false :: r) | _ => none)
  else if op = 4 then (match ty with | true :: r => some (true :: r) | _ => none)
  else if op ≤ 9 then (match ty with | false :: false :: r => some (false :: r) | _ => none)
  else if op ≤ 15 then (match ty with | false :: false :: r => some (true :: r) | _ => none)
  else if op ≤ 17 then (match ty with | true :: true :: r => some (true :: r) | _ => none)
  else (match ty with | false :: false :: true :: r => some (false :: r) | _ => none)
def tyN (cd : Nat → Int) (f : Nat) : Nat → Option (List Bool)
  | 0 => some []
  | k + 1 => match tyN cd f k with | none => none | some ty => tyS (cd (f + k) / 16384) ty
theorem tyN_lt {cd : Nat → Int} {f K : Nat} {t : List Bool} (h : tyN cd f K = some t) : ∀ d k : Nat, k + d = K → ∃ ty, tyN cd f k = some ty := by
  intro d
  induction d with
  | zero => intro k hk; subst hk; exact ⟨t, h⟩
  | succ d ih =>
    intro k hk
    obtain ⟨ty, hty⟩ := ih (k + 1) (by omega)
    simp only [tyN] at hty
    split at hty
    · exact absurd hty (by simp)
    · rename_i ty2 h2; exact ⟨ty2, h2⟩
def cF : List Bool → Nat
  | [] => 0
  | true :: r => cF r
  | false :: r => cF r + 1
def cT : List Bool → Nat
  | [] => 0
  | true :: r => cT r + 1
  | false :: r => cT r
theorem cFT (ty : List Bool) : cF ty + cT ty = ty.length := by
  induction ty with
  | nil => rfl
  | cons b r ih => cases b <;> simp only [cF, cT, List.length_cons] <;> omega
def RS (s V W : Nat → Int) : List Bool → Prop
  | [] => True
  | true :: r => (s r.length = W (cT r) ∧ (W (cT r) = 0 ∨ W (cT r) = 1)) ∧ RS s V W r
  | false :: r => s r.length = V (cF r) ∧ RS s V W r
theorem RS_up {s V W s' V' W' : Nat → Int} : ∀ {r : List Bool}, RS s V W r → (∀ j, j < r.length → s' j = s j) → (∀ j, j < cF r → V' j = V j) → (∀ j, j < cT r → W' j = W j) → RS s' V' W' r := by
  intro r
  induction r with
  | nil => intro _ _ _ _; trivial
  | cons b r ih =>
    intro h h1 h2 h3
    have hl : (b :: r).length = r.length + 1 := rfl
    cases b
    · have e1 : cF (false :: r) = cF r + 1 := rfl
      have e2 : cT (false :: r) = cT r := rfl
      refine ⟨?_, ih h.2 (fun j hj => h1 j (by omega)) (fun j hj => h2 j (by omega)) (fun j hj => h3 j (by omega))⟩
      rw [h1 _ (by omega), h2 _ (by omega)]; exact h.1
    · have e1 : cF (true :: r) = cF r := rfl
      have e2 : cT (true :: r) = cT r + 1 := rfl
      refine ⟨?_, ih h.2 (fun j hj => h1 j (by omega)) (fun j hj => h2 j (by omega)) (fun j hj => h3 j (by omega))⟩
      rw [h1 _ (by omega), h3 _ (by omega)]; exact h.1
abbrev z0 : Nat → Int := fun _ => 0
def EvI (nm A cd : Nat → Int) (f k : Nat) (J : CI) (ty : List Bool) : Prop := tyN cd f k = some ty ∧ (rnF nm A cd f z0 k).2 = (ty.length : Int) ∧ RS (rnF nm A cd f z0 k).1 (J 313) (J 314) ty
theorem tyN_len {cd : Nat → Int} {f : Nat} : ∀ (k : Nat) (ty : List Bool), tyN cd f k = some ty → ty.length ≤ k := by
  intro k
  induction k with
  | zero => intro ty h; simp only [tyN, Option.some.injEq] at h; subst h; exact Nat.le_refl _
  | succ k ih =>
    intro ty h
    simp only [tyN] at h
    split at h
    · exact absurd h (by simp)
    · rename_i t2 h2
      have hl := ih t2 h2
      unfold tyS at h
      repeat' split at h
      all_goals first | (exfalso; simp at h; done) | (simp only [Option.some.injEq] at h; subst h; simp only [List.length_cons] at hl ⊢; omega)
/-- the next step: what is new on the pile -/
theorem EvI_next {nm A cd : Nat → Int} {f k : Nat} {J J' : CI} {ty r : List Bool} {b : Bool} {v : Int} (hE : EvI nm A cd f k J ty) (ht : tyS (cd (f + k) / 16384) ty = some (b :: r)) (hl : (ty.length : Int) - tkn (cd (f + k) / 16384) = (r.length : Int)) (hr : RS (rnF nm A cd f z0 k).1 (J 313) (J 314) r) (hv : clipI (if tkn (cd (f + k) / 16384) = 0 then ftF nm (cd (f + k) / 16384) (cd (f + k) % 16384) else woF A (cd (f + k) / 16384) ((rnF nm A cd f z0 k).1 r.length) ((rnF nm A cd f z0 k).1 (r.length + 1)) ((rnF nm A cd f z0 k).1 (r.length + 2))) = v) (h1 : ∀ j, j < cF r → J' 313 j = J 313 j) (h2 : ∀ j, j < cT r → J' 314 j = J 314 j) (hb : if b then (J' 314 (cT r) = v ∧ (v = 0 ∨ v = 1)) else J' 313 (cF r) = v) : EvI nm A cd f (k + 1) J' (b :: r) := by
  obtain ⟨e1, e2, e3⟩ := hE
  have er : rnF nm A cd f z0 (k + 1) = (fun j => if j = r.length then v else (rnF nm A cd f z0 k).1 j, (r.length : Int) + 1) := by
    simp only [rnF]
    rw [e2, hl, Int.toNat_natCast, show ((r.length : Int) + 1).toNat = r.length + 1 by omega, show ((r.length : Int) + 2).toNat = r.length + 2 by omega, hv]
  refine ⟨?_, ?_, ?_⟩
  · simp only [tyN, e1]; exact ht
  · rw [er]; simp
  · rw [er]
    have hu : RS (fun j => if j = r.length then v else (rnF nm A cd f z0 k).1 j) (J' 313) (J' 314) r := RS_up hr (fun j hj => by rw [if_neg (by omega)]) h1 h2
    cases b
    · refine ⟨?_, hu⟩
      dsimp only
      rw [if_pos rfl]; exact (Eq.symm (by simpa using hb))
    · have hb' : J' 314 (cT r) = v ∧ (v = 0 ∨ v = 1) := by simpa using hb
      refine ⟨⟨?_, ?_⟩, hu⟩
      · dsimp only; rw [if_pos rfl]; exact hb'.1.symm
      · rw [hb'.1]; exact hb'.2
/-- an operation's number in the reference -/
def omp (op : Int) : Int := if op = 0 then 0 else if op = 1 then 1 else if op = 2 then 5 else if op = 3 then 2 else if op = 4 then 20 else if op = 5 then 6 else if op = 6 then 7 else if op = 7 then 8 else if op = 8 then 9 else if op = 9 then 4 else if op ≤ 15 then op else if op = 16 then 21 else if op = 17 then 22 else 3
theorem omp_r {op : Int} (h : 0 ≤ op ∧ op ≤ 18) : (op = 0 ∧ omp op = 0) ∨ (op = 1 ∧ omp op = 1) ∨ (op = 2 ∧ omp op = 5) ∨ (op = 3 ∧ omp op = 2) ∨ (op = 4 ∧ omp op = 20) ∨ (5 ≤ op ∧ op ≤ 8 ∧ omp op = op + 1) ∨ (op = 9 ∧ omp op = 4) ∨ (10 ≤ op ∧ op ≤ 15 ∧ omp op = op) ∨ (op = 16 ∧ omp op = 21) ∨ (op = 17 ∧ omp op = 22) ∨ (op = 18 ∧ omp op = 3) := by
  rcases (show op = 0 ∨ op = 1 ∨ op = 2 ∨ op = 3 ∨ op = 4 ∨ op = 5 ∨ op = 6 ∨ op = 7 ∨ op = 8 ∨ op = 9 ∨ op = 10 ∨ op = 11 ∨ op = 12 ∨ op = 13 ∨ op = 14 ∨ op = 15 ∨ op = 16 ∨ op = 17 ∨ op = 18 by omega) with rfl | rfl | rfl | rfl | rfl | rfl | rfl | rfl | rfl | rfl | rfl | rfl | rfl | rfl | rfl | rfl | rfl | rfl | rfl <;> decide
/-- what a step finds on the pile -/
theorem tyS_inv {op : Int} {ty ty' : List Bool} (h : tyS op ty = some ty') : (op ≤ 1 ∧ ty' = false :: ty) ∨ (∃ r, (1 < op ∧ op ≤ 3) ∧ ty = false :: r ∧ ty' = false :: r) ∨ (∃ r, op = 4 ∧ ty = true :: r ∧ ty' = true :: r) ∨ (∃ r, (5 ≤ op ∧ op ≤ 9) ∧ ty = false :: false :: r ∧ ty' = false :: r) ∨ (∃ r, (10 ≤ op ∧ op ≤ 15) ∧ ty = false :: false :: r ∧ ty' = true :: r) ∨ (∃ r, (16 ≤ op ∧ op ≤ 17) ∧ ty = true :: true :: r ∧ ty' = true :: r) ∨ (∃ r, 18 ≤ op ∧ ty = false :: false :: true :: r ∧ ty' = false :: r) := by
  unfold tyS at h
  repeat' split at h
  all_goals first
    | (exfalso; simp at h; done)
    | (simp only [Option.some.injEq] at h; subst h
       first
         | exact Or.inl ⟨by omega, rfl⟩
         | exact Or.inr (Or.inl ⟨_, ⟨by omega, by omega⟩, rfl, rfl⟩)
         | exact Or.inr (Or.inr (Or.inl ⟨_, by omega, rfl, rfl⟩))
         | exact Or.inr (Or.inr (Or.inr (Or.inl ⟨_, ⟨by omega, by omega⟩, rfl, rfl⟩)))
         | exact Or.inr (Or.inr (Or.inr (Or.inr (Or.inl ⟨_, ⟨by omega, by omega⟩, rfl, rfl⟩))))
         | exact Or.inr (Or.inr (Or.inr (Or.inr (Or.inr (Or.inl ⟨_, ⟨by omega, by omega⟩, rfl, rfl⟩)))))
         | exact Or.inr (Or.inr (Or.inr (Or.inr (Or.inr (Or.inr ⟨_, by omega, rfl, rfl⟩))))))
end Ref6
