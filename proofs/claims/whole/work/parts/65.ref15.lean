section Ref15
variable {n mc ms : Nat} {M : Md} {pc : Nat} {lv : List (Nat × Value)} {st : List Value} {k j : Nat} {Post : PT} {S : Sh} {I : CI} {R : CR} {A : Nat → Int} {tx : Nat → Nat → Int}
theorem pdA_k (hb : BA A) : ∀ k : Nat, BA (pdA A tx k).1 ∧ (pdA A tx k).1 1 = A 1 := by
  intro k
  induction k with
  | zero => exact ⟨hb, rfl⟩
  | succ k ih =>
    simp only [pdA]
    split
    · rename_i h
      exact ⟨BA_dstep ih.1 h.2, by show (dstep _ tx).1 1 = _; rw [dstep_1 ih.1]; exact ih.2⟩
    · exact ih
theorem f_redeem_t {q : Int} (hb : BA A) : (f_redeem A tx q).2 1 = A 1 := by
  have h0 := hb.1.1
  unfold f_redeem
  split
  · rfl
  · show redeemA (keepA A) q _ 1 = A 1
    unfold redeemA wrA
    rw [upA_o (by omega), upA_o (by omega), upA_o (by omega), upA_o (by omega), upA_o (by omega), kp_lo (by omega) (by omega)]
theorem clause_k (hb : BA A) (x : Nat → Int) (i : Nat) : BA (f_clause A tx x i).2 ∧ (f_clause A tx x i).2 1 = A 1 := by
  unfold f_clause
  split
  · exact ⟨BA_quarrel hb, f_quarrel_t hb⟩
  · split
    · exact ⟨BA_fpawn hb, f_pawn_t hb⟩
    · split
      · exact ⟨BA_redeemF hb, f_redeem_t hb⟩
      · split
        · exact ⟨BA_earn hb, f_earn_t⟩
        · split
          · exact pdA_k hb _
          · exact ⟨hb, rfl⟩
theorem srt_i {w : Int} (h : w = 136 ∨ w = 137 ∨ w = 138 ∨ w = 140 ∨ w = 141 ∨ w = 142 ∨ w = 128) : (w = 136 ∧ srt w = 0) ∨ (w = 137 ∧ srt w = 1) ∨ (w = 138 ∧ srt w = 2) ∨ (w = 140 ∧ srt w = 3) ∨ (w = 141 ∧ srt w = 4) ∨ (w = 142 ∧ srt w = 5) ∨ (w = 128 ∧ srt w = 6) := by
  rcases h with rfl | rfl | rfl | rfl | rfl | rfl | rfl <;> decide
theorem fpawn_01 {q : Int} : (f_pawn A q).1 = 0 ∨ (f_pawn A q).1 = 1 := by unfold f_pawn; split; exact Or.inr rfl; exact Or.inl rfl
theorem fearn_01 {q : Int} : (f_earn A q).1 = 0 ∨ (f_earn A q).1 = 1 := by unfold f_earn; split; exact Or.inr rfl; exact Or.inl rfl
theorem dX12_isPlayed_0 : decode prog_14_method_93_code 0 = .ok (.aload_n 0, 1) := by decide +kernel
theorem dX12_isPlayed_1 : decode prog_14_method_93_code 1 = .ok (.getfield 16, 3) := by decide +kernel
theorem dX12_isPlayed_4 : decode prog_14_method_93_code 4 = .ok (.iload_n 1, 1) := by decide +kernel
theorem dX12_isPlayed_5 : decode prog_14_method_93_code 5 = .ok (.iconst 1, 1) := by decide +kernel
theorem dX12_isPlayed_6 : decode prog_14_method_93_code 6 = .ok (.iadd, 1) := by decide +kernel
theorem dX12_isPlayed_7 : decode prog_14_method_93_code 7 = .ok (.iaload, 1) := by decide +kernel
theorem dX12_isPlayed_8 : decode prog_14_method_93_code 8 = .ok (.istore_n 2, 1) := by decide +kernel
theorem dX12_isPlayed_9 : decode prog_14_method_93_code 9 = .ok (.aload_n 0, 1) := by decide +kernel
theorem dX12_isPlayed_10 : decode prog_14_method_93_code 10 = .ok (.getfield 16, 3) := by decide +kernel
theorem dX12_isPlayed_13 : decode prog_14_method_93_code 13 = .ok (.iload_n 1, 1) := by decide +kernel
theorem dX12_isPlayed_14 : decode prog_14_method_93_code 14 = .ok (.iaload, 1) := by decide +kernel
theorem dX12_isPlayed_15 : decode prog_14_method_93_code 15 = .ok (.tableswitch 96 2 6 #[33, 64, 70, 84, 90], 33) := by decide +kernel
theorem dX12_isPlayed_48 : decode prog_14_method_93_code 48 = .ok (.aload_n 0, 1) := by decide +kernel
theorem dX12_isPlayed_49 : decode prog_14_method_93_code 49 = .ok (.iload_n 2, 1) := by decide +kernel
theorem dX12_isPlayed_50 : decode prog_14_method_93_code 50 = .ok (.aload_n 0, 1) := by decide +kernel
theorem dX12_isPlayed_51 : decode prog_14_method_93_code 51 = .ok (.getfield 16, 3) := by decide +kernel
theorem dX12_isPlayed_54 : decode prog_14_method_93_code 54 = .ok (.iload_n 1, 1) := by decide +kernel
theorem dX12_isPlayed_55 : decode prog_14_method_93_code 55 = .ok (.iconst 2, 1) := by decide +kernel
theorem dX12_isPlayed_56 : decode prog_14_method_93_code 56 = .ok (.iadd, 1) := by decide +kernel
theorem dX12_isPlayed_57 : decode prog_14_method_93_code 57 = .ok (.iaload, 1) := by decide +kernel
theorem dX12_isPlayed_58 : decode prog_14_method_93_code 58 = .ok (.aload_n 0, 1) := by decide +kernel
theorem dX12_isPlayed_59 : decode prog_14_method_93_code 59 = .ok (.getfield 16, 3) := by decide +kernel
theorem dX12_isPlayed_62 : decode prog_14_method_93_code 62 = .ok (.iload_n 1, 1) := by decide +kernel
theorem dX12_isPlayed_63 : decode prog_14_method_93_code 63 = .ok (.iconst 3, 1) := by decide +kernel
theorem dX12_isPlayed_64 : decode prog_14_method_93_code 64 = .ok (.iadd, 1) := by decide +kernel
theorem dX12_isPlayed_65 : decode prog_14_method_93_code 65 = .ok (.iaload, 1) := by decide +kernel
theorem dX12_isPlayed_66 : decode prog_14_method_93_code 66 = .ok (.iconst 0, 1) := by decide +kernel
theorem dX12_isPlayed_67 : decode prog_14_method_93_code 67 = .ok (.invokevirtual 384, 3) := by decide +kernel
theorem dX12_isPlayed_70 : decode prog_14_method_93_code 70 = .ok (.ifCond .lt 7, 3) := by decide +kernel
theorem dX12_isPlayed_73 : decode prog_14_method_93_code 73 = .ok (.iconst 1, 1) := by decide +kernel
theorem dX12_isPlayed_74 : decode prog_14_method_93_code 74 = .ok (.goto 4, 3) := by decide +kernel
theorem dX12_isPlayed_77 : decode prog_14_method_93_code 77 = .ok (.iconst 0, 1) := by decide +kernel
theorem dX12_isPlayed_78 : decode prog_14_method_93_code 78 = .ok (.ireturn, 1) := by decide +kernel
theorem dX12_isPlayed_79 : decode prog_14_method_93_code 79 = .ok (.aload_n 0, 1) := by decide +kernel
theorem dX12_isPlayed_80 : decode prog_14_method_93_code 80 = .ok (.iload_n 2, 1) := by decide +kernel
theorem dX12_isPlayed_81 : decode prog_14_method_93_code 81 = .ok (.invokevirtual 387, 3) := by decide +kernel
theorem dX12_isPlayed_84 : decode prog_14_method_93_code 84 = .ok (.ireturn, 1) := by decide +kernel
theorem dX12_isPlayed_85 : decode prog_14_method_93_code 85 = .ok (.aload_n 0, 1) := by decide +kernel
theorem dX12_isPlayed_86 : decode prog_14_method_93_code 86 = .ok (.iload_n 2, 1) := by decide +kernel
theorem dX12_isPlayed_87 : decode prog_14_method_93_code 87 = .ok (.invokevirtual 390, 3) := by decide +kernel
theorem dX12_isPlayed_90 : decode prog_14_method_93_code 90 = .ok (.ifCond .lt 7, 3) := by decide +kernel
theorem dX12_isPlayed_93 : decode prog_14_method_93_code 93 = .ok (.iconst 1, 1) := by decide +kernel
theorem dX12_isPlayed_94 : decode prog_14_method_93_code 94 = .ok (.goto 4, 3) := by decide +kernel
theorem dX12_isPlayed_97 : decode prog_14_method_93_code 97 = .ok (.iconst 0, 1) := by decide +kernel
theorem dX12_isPlayed_98 : decode prog_14_method_93_code 98 = .ok (.ireturn, 1) := by decide +kernel
theorem dX12_isPlayed_99 : decode prog_14_method_93_code 99 = .ok (.aload_n 0, 1) := by decide +kernel
theorem dX12_isPlayed_100 : decode prog_14_method_93_code 100 = .ok (.iload_n 2, 1) := by decide +kernel
theorem dX12_isPlayed_101 : decode prog_14_method_93_code 101 = .ok (.invokevirtual 393, 3) := by decide +kernel
theorem dX12_isPlayed_104 : decode prog_14_method_93_code 104 = .ok (.ireturn, 1) := by decide +kernel
theorem dX12_isPlayed_105 : decode prog_14_method_93_code 105 = .ok (.aload_n 0, 1) := by decide +kernel
theorem dX12_isPlayed_106 : decode prog_14_method_93_code 106 = .ok (.iload_n 2, 1) := by decide +kernel
theorem dX12_isPlayed_107 : decode prog_14_method_93_code 107 = .ok (.invokevirtual 381, 3) := by decide +kernel
theorem dX12_isPlayed_110 : decode prog_14_method_93_code 110 = .ok (.ireturn, 1) := by decide +kernel
theorem dX12_isPlayed_111 : decode prog_14_method_93_code 111 = .ok (.iconst 1, 1) := by decide +kernel
theorem dX12_isPlayed_112 : decode prog_14_method_93_code 112 = .ok (.ireturn, 1) := by decide +kernel
theorem sp_X12_isPlayed {t i : Nat} {x : Nat → Int} (cs : CS S R) (hA : I 307 = A) (hb : BA A) (hT : RTx (I 309) A tx) (hz : I 306 23 = 1) (ht : (t : Int) < A 1) (hx : x = tx t) (hi : (i : Int) < x 0) (hB : ∀ i : Nat, (i : Int) < 4 * x 0 → 0 ≤ x (6 + i) ∧ x (6 + i) ≤ 9999) (hn : 8 ≤ n) (hp : ∀ I', I' 307 = (f_clause A tx x i).2 → FP I I' → Post (some (.int (iI (f_clause A tx x i).1))) S I' R) : Call n 0 0 mX12_isPlayed [.ref (S.2.1 306), .int (iI ((705 * t + 1 + 4 * i : Nat) : Int))] S I R Post := by
  have b0 := hb.1.1
  have b1 := hb.2.1.1
  have b2 := hb.2.1.2.1
  have b3 := hb.2.1.2.2.1
  have b4 := hb.2.1.2.2.2.1
  have b5 := hb.2.1.2.2.2.2.1
  have b6 := hb.2.1.2.2.2.2.2.1
  have b114 := hb.2.1.2.2.2.2.2.2
  have b7 : 0 ≤ A 7 ∧ A 7 ≤ 9999 := hb.1.2.1
  have b8 : 0 ≤ A 8 ∧ A 8 ≤ 30870 := hb.1.2.2.1
  have b9 : 0 ≤ A 9 ∧ A 9 ≤ 9999 := hb.1.2.2.2.1
  have b10 : 0 ≤ A 10 ∧ A 10 ≤ 1 := hb.1.2.2.2.2.1
  have b11 := BA_11 hb
  obtain ⟨⟨g0, g1⟩, -⟩ := hT t ht
  rw [← hx] at g0 g1
  obtain ⟨g2, gw, g3, g4⟩ := g1 i hi
  have hs := srt_i gw
  have v1 := hB (4 * i + 1) (by omega)
  have v2 := hB (4 * i + 2) (by omega)
  have v3 := hB (4 * i + 3) (by omega)
  rw [show 6 + (4 * i + 1) = 7 + 4 * i by omega] at v1
  rw [show 6 + (4 * i + 2) = 8 + 4 * i by omega] at v2
  rw [show 6 + (4 * i + 3) = 9 + 4 * i by omega] at v3
  unfold f_clause at hp
  rw [show 6 + (4 * i + 0) = 6 + 4 * i by omega, show 6 + (4 * i + 1) = 7 + 4 * i by omega, show 6 + (4 * i + 2) = 8 + 4 * i by omega, show 6 + (4 * i + 3) = 9 + 4 * i by omega] at hp
  refine Call.of (by decide +kernel) (Nat.le_of_ble_eq_true rfl) ?_
  show WP _ _ _ _ _ 0 [(0, _), (1, _)] [] 0 0 _ _ _
  refine x_aload_n dX12_isPlayed_0 rfl ?_
  refine x_getR (b := 309) dX12_isPlayed_1 gf_RX12_16 (k_ob_306 cs) (fun _ _ => rfl) (k_r_306_2 cs) ?_
  refine x_iload_n dX12_isPlayed_4 rfl ?_
  refine x_iconst dX12_isPlayed_5 ?_
  refine x_iadd dX12_isPlayed_6 ?_
  refine x_iaload dX12_isPlayed_7 (k_ar_309 cs) (by omega) (by omega) ?_
  rw [show ((705 * t + 1 + 4 * i : Nat) : Int) + 1 = ((705 * t + 2 + 4 * i : Nat) : Int) by omega, tN]
  refine x_istore_n (lv2 := [(2, _), (0, _), (1, _)]) dX12_isPlayed_8 (by decide) rfl ?_
  refine x_aload_n dX12_isPlayed_9 rfl ?_
  refine x_getR (b := 309) dX12_isPlayed_10 gf_RX12_16 (k_ob_306 cs) (fun _ _ => rfl) (k_r_306_2 cs) ?_
  refine x_iload_n dX12_isPlayed_13 rfl ?_
  refine x_iaload dX12_isPlayed_14 (k_ar_309 cs) (by omega) (by omega) ?_
  rw [tN, g2]
  by_cases t15_0 : srt (x (6 + 4 * i)) = 2
  · refine x_tableIn 48 dX12_isPlayed_15 (by omega) (by omega) (by rw [t15_0]; rfl) (by decide) ?_
    refine x_aload_n dX12_isPlayed_48 rfl ?_
    refine x_iload_n dX12_isPlayed_49 rfl ?_
    refine x_aload_n dX12_isPlayed_50 rfl ?_
    refine x_getR (b := 309) dX12_isPlayed_51 gf_RX12_16 (k_ob_306 cs) (fun _ _ => rfl) (k_r_306_2 cs) ?_
    refine x_iload_n dX12_isPlayed_54 rfl ?_
    refine x_iconst dX12_isPlayed_55 ?_
    refine x_iadd dX12_isPlayed_56 ?_
    refine x_iaload dX12_isPlayed_57 (k_ar_309 cs) (by omega) (by omega) ?_
    refine x_aload_n dX12_isPlayed_58 rfl ?_
    refine x_getR (b := 309) dX12_isPlayed_59 gf_RX12_16 (k_ob_306 cs) (fun _ _ => rfl) (k_r_306_2 cs) ?_
    refine x_iload_n dX12_isPlayed_62 rfl ?_
    refine x_iconst dX12_isPlayed_63 ?_
    refine x_iadd dX12_isPlayed_64 ?_
    refine x_iaload dX12_isPlayed_65 (k_ar_309 cs) (by omega) (by omega) ?_
    refine x_iconst dX12_isPlayed_66 ?_
    refine x_callV4 (mc1 := 0) (ms1 := 0) dX12_isPlayed_67 cv_RX12_384 (ci := 12) (k_ob_306 cs) rfl (Nat.le_of_ble_eq_true rfl) (n1 := n - 1) (by omega) (by omega) (by omega) ?_
    rw [show ((705 * t + 1 + 4 * i : Nat) : Int) + 2 = ((705 * t + 3 + 4 * i : Nat) : Int) by omega, show ((705 * t + 1 + 4 * i : Nat) : Int) + 3 = ((705 * t + 4 + 4 * i : Nat) : Int) by omega, tN, tN, (g4 (by omega)).1, (g4 (by omega)).2, g3 (by omega)]
    refine sp_X12_quarrel cs hA hb (by omega) (by omega) (by omega) (by omega) (by omega) (fun J67 a67 f67 => ?_)
    have fq := f_quarrel_1 (A := A) (a := x (7 + 4 * i)) (b := x (8 + 4 * i)) (w := x (9 + 4 * i)) (h := 0) hb
    refine x_if_lt 77 dX12_isPlayed_70 (by decide) (by omega) (fun w70 => ?_) (fun w70 => ?_)
    · refine x_iconst dX12_isPlayed_77 ?_
      exact x_zreturn (by omega) dX12_isPlayed_78 rfl (by omega) (by omega) (by
    first
      | (rw [if_pos (show x (6 + 4 * i) = 138 by omega)] at hp
         first
           | (rw [if_pos (by omega)] at hp; exact hp _ a67 (FR.p (F7.r f67)))
           | (rw [if_neg (by omega)] at hp; exact hp _ a67 (FR.p (F7.r f67))))
      | (rw [if_neg (show ¬ x (6 + 4 * i) = 138 by omega), if_pos (show x (6 + 4 * i) = 140 by omega)] at hp
         exact hp _ a81 (FR.p (F7.r f81)))
      | (rw [if_neg (show ¬ x (6 + 4 * i) = 138 by omega), if_neg (show ¬ x (6 + 4 * i) = 140 by omega), if_pos (show x (6 + 4 * i) = 141 by omega)] at hp
         first
           | (rw [if_pos (by omega)] at hp; exact hp _ a87 (FR.p f87))
           | (rw [if_neg (by omega)] at hp; exact hp _ a87 (FR.p f87)))
      | (rw [if_neg (show ¬ x (6 + 4 * i) = 138 by omega), if_neg (show ¬ x (6 + 4 * i) = 140 by omega), if_neg (show ¬ x (6 + 4 * i) = 141 by omega), if_pos (show x (6 + 4 * i) = 142 by omega)] at hp
         exact hp _ a101 (FR.p (F7.r f101)))
      | (rw [if_neg (show ¬ x (6 + 4 * i) = 138 by omega), if_neg (show ¬ x (6 + 4 * i) = 140 by omega), if_neg (show ¬ x (6 + 4 * i) = 141 by omega), if_neg (show ¬ x (6 + 4 * i) = 142 by omega), if_pos (show x (6 + 4 * i) = 128 by omega)] at hp
         exact hp _ a107 f107)
      | (rw [if_neg (show ¬ x (6 + 4 * i) = 138 by omega), if_neg (show ¬ x (6 + 4 * i) = 140 by omega), if_neg (show ¬ x (6 + 4 * i) = 141 by omega), if_neg (show ¬ x (6 + 4 * i) = 142 by omega), if_neg (show ¬ x (6 + 4 * i) = 128 by omega)] at hp
         exact hp _ hA FP.rf))
    · refine x_iconst dX12_isPlayed_73 ?_
      refine x_goto 78 dX12_isPlayed_74 (by decide) ?_
      exact x_zreturn (by omega) dX12_isPlayed_78 rfl (by omega) (by omega) (by
    first
      | (rw [if_pos (show x (6 + 4 * i) = 138 by omega)] at hp
         first
           | (rw [if_pos (by omega)] at hp; exact hp _ a67 (FR.p (F7.r f67)))
           | (rw [if_neg (by omega)] at hp; exact hp _ a67 (FR.p (F7.r f67))))
      | (rw [if_neg (show ¬ x (6 + 4 * i) = 138 by omega), if_pos (show x (6 + 4 * i) = 140 by omega)] at hp
         exact hp _ a81 (FR.p (F7.r f81)))
      | (rw [if_neg (show ¬ x (6 + 4 * i) = 138 by omega), if_neg (show ¬ x (6 + 4 * i) = 140 by omega), if_pos (show x (6 + 4 * i) = 141 by omega)] at hp
         first
           | (rw [if_pos (by omega)] at hp; exact hp _ a87 (FR.p f87))
           | (rw [if_neg (by omega)] at hp; exact hp _ a87 (FR.p f87)))
      | (rw [if_neg (show ¬ x (6 + 4 * i) = 138 by omega), if_neg (show ¬ x (6 + 4 * i) = 140 by omega), if_neg (show ¬ x (6 + 4 * i) = 141 by omega), if_pos (show x (6 + 4 * i) = 142 by omega)] at hp
         exact hp _ a101 (FR.p (F7.r f101)))
      | (rw [if_neg (show ¬ x (6 + 4 * i) = 138 by omega), if_neg (show ¬ x (6 + 4 * i) = 140 by omega), if_neg (show ¬ x (6 + 4 * i) = 141 by omega), if_neg (show ¬ x (6 + 4 * i) = 142 by omega), if_pos (show x (6 + 4 * i) = 128 by omega)] at hp
         exact hp _ a107 f107)
      | (rw [if_neg (show ¬ x (6 + 4 * i) = 138 by omega), if_neg (show ¬ x (6 + 4 * i) = 140 by omega), if_neg (show ¬ x (6 + 4 * i) = 141 by omega), if_neg (show ¬ x (6 + 4 * i) = 142 by omega), if_neg (show ¬ x (6 + 4 * i) = 128 by omega)] at hp
         exact hp _ hA FP.rf))
  by_cases t15_1 : srt (x (6 + 4 * i)) = 3
  · refine x_tableIn 79 dX12_isPlayed_15 (by omega) (by omega) (by rw [t15_1]; rfl) (by decide) ?_
    refine x_aload_n dX12_isPlayed_79 rfl ?_
    refine x_iload_n dX12_isPlayed_80 rfl ?_
    refine x_callV1 (mc1 := 0) (ms1 := 0) dX12_isPlayed_81 cv_RX12_387 (ci := 12) (k_ob_306 cs) rfl (Nat.le_of_ble_eq_true rfl) (n1 := n - 1) (by omega) (by omega) (by omega) ?_
    rw [g3 (by omega)]
    refine sp_X12_pawn cs hA hb hz (by omega) (by omega) (fun J81 a81 f81 => ?_)
    have fq := fpawn_01 (A := A) (q := x (7 + 4 * i))
    exact x_zreturn (by omega) dX12_isPlayed_84 rfl (by omega) (by omega) (by
    first
      | (rw [if_pos (show x (6 + 4 * i) = 138 by omega)] at hp
         first
           | (rw [if_pos (by omega)] at hp; exact hp _ a67 (FR.p (F7.r f67)))
           | (rw [if_neg (by omega)] at hp; exact hp _ a67 (FR.p (F7.r f67))))
      | (rw [if_neg (show ¬ x (6 + 4 * i) = 138 by omega), if_pos (show x (6 + 4 * i) = 140 by omega)] at hp
         exact hp _ a81 (FR.p (F7.r f81)))
      | (rw [if_neg (show ¬ x (6 + 4 * i) = 138 by omega), if_neg (show ¬ x (6 + 4 * i) = 140 by omega), if_pos (show x (6 + 4 * i) = 141 by omega)] at hp
         first
           | (rw [if_pos (by omega)] at hp; exact hp _ a87 (FR.p f87))
           | (rw [if_neg (by omega)] at hp; exact hp _ a87 (FR.p f87)))
      | (rw [if_neg (show ¬ x (6 + 4 * i) = 138 by omega), if_neg (show ¬ x (6 + 4 * i) = 140 by omega), if_neg (show ¬ x (6 + 4 * i) = 141 by omega), if_pos (show x (6 + 4 * i) = 142 by omega)] at hp
         exact hp _ a101 (FR.p (F7.r f101)))
      | (rw [if_neg (show ¬ x (6 + 4 * i) = 138 by omega), if_neg (show ¬ x (6 + 4 * i) = 140 by omega), if_neg (show ¬ x (6 + 4 * i) = 141 by omega), if_neg (show ¬ x (6 + 4 * i) = 142 by omega), if_pos (show x (6 + 4 * i) = 128 by omega)] at hp
         exact hp _ a107 f107)
      | (rw [if_neg (show ¬ x (6 + 4 * i) = 138 by omega), if_neg (show ¬ x (6 + 4 * i) = 140 by omega), if_neg (show ¬ x (6 + 4 * i) = 141 by omega), if_neg (show ¬ x (6 + 4 * i) = 142 by omega), if_neg (show ¬ x (6 + 4 * i) = 128 by omega)] at hp
         exact hp _ hA FP.rf))
  by_cases t15_2 : srt (x (6 + 4 * i)) = 4
  · refine x_tableIn 85 dX12_isPlayed_15 (by omega) (by omega) (by rw [t15_2]; rfl) (by decide) ?_
    refine x_aload_n dX12_isPlayed_85 rfl ?_
    refine x_iload_n dX12_isPlayed_86 rfl ?_
    refine x_callV1 (mc1 := 0) (ms1 := 0) dX12_isPlayed_87 cv_RX12_390 (ci := 12) (k_ob_306 cs) rfl (Nat.le_of_ble_eq_true rfl) (n1 := n - 1) (by omega) (by omega) (by omega) ?_
    rw [g3 (by omega)]
    refine sp_X12_redeem cs hA hb hT hz (by omega) (by omega) (fun J87 a87 f87 => ?_)
    have fq := f_redeem_b (tx := tx) (q := x (7 + 4 * i)) hb
    refine x_if_lt 97 dX12_isPlayed_90 (by decide) (by omega) (fun w90 => ?_) (fun w90 => ?_)
    · refine x_iconst dX12_isPlayed_97 ?_
      exact x_zreturn (by omega) dX12_isPlayed_98 rfl (by omega) (by omega) (by
    first
      | (rw [if_pos (show x (6 + 4 * i) = 138 by omega)] at hp
         first
           | (rw [if_pos (by omega)] at hp; exact hp _ a67 (FR.p (F7.r f67)))
           | (rw [if_neg (by omega)] at hp; exact hp _ a67 (FR.p (F7.r f67))))
      | (rw [if_neg (show ¬ x (6 + 4 * i) = 138 by omega), if_pos (show x (6 + 4 * i) = 140 by omega)] at hp
         exact hp _ a81 (FR.p (F7.r f81)))
      | (rw [if_neg (show ¬ x (6 + 4 * i) = 138 by omega), if_neg (show ¬ x (6 + 4 * i) = 140 by omega), if_pos (show x (6 + 4 * i) = 141 by omega)] at hp
         first
           | (rw [if_pos (by omega)] at hp; exact hp _ a87 (FR.p f87))
           | (rw [if_neg (by omega)] at hp; exact hp _ a87 (FR.p f87)))
      | (rw [if_neg (show ¬ x (6 + 4 * i) = 138 by omega), if_neg (show ¬ x (6 + 4 * i) = 140 by omega), if_neg (show ¬ x (6 + 4 * i) = 141 by omega), if_pos (show x (6 + 4 * i) = 142 by omega)] at hp
         exact hp _ a101 (FR.p (F7.r f101)))
      | (rw [if_neg (show ¬ x (6 + 4 * i) = 138 by omega), if_neg (show ¬ x (6 + 4 * i) = 140 by omega), if_neg (show ¬ x (6 + 4 * i) = 141 by omega), if_neg (show ¬ x (6 + 4 * i) = 142 by omega), if_pos (show x (6 + 4 * i) = 128 by omega)] at hp
         exact hp _ a107 f107)
      | (rw [if_neg (show ¬ x (6 + 4 * i) = 138 by omega), if_neg (show ¬ x (6 + 4 * i) = 140 by omega), if_neg (show ¬ x (6 + 4 * i) = 141 by omega), if_neg (show ¬ x (6 + 4 * i) = 142 by omega), if_neg (show ¬ x (6 + 4 * i) = 128 by omega)] at hp
         exact hp _ hA FP.rf))
    · refine x_iconst dX12_isPlayed_93 ?_
      refine x_goto 98 dX12_isPlayed_94 (by decide) ?_
      exact x_zreturn (by omega) dX12_isPlayed_98 rfl (by omega) (by omega) (by
    first
      | (rw [if_pos (show x (6 + 4 * i) = 138 by omega)] at hp
         first
           | (rw [if_pos (by omega)] at hp; exact hp _ a67 (FR.p (F7.r f67)))
           | (rw [if_neg (by omega)] at hp; exact hp _ a67 (FR.p (F7.r f67))))
      | (rw [if_neg (show ¬ x (6 + 4 * i) = 138 by omega), if_pos (show x (6 + 4 * i) = 140 by omega)] at hp
         exact hp _ a81 (FR.p (F7.r f81)))
      | (rw [if_neg (show ¬ x (6 + 4 * i) = 138 by omega), if_neg (show ¬ x (6 + 4 * i) = 140 by omega), if_pos (show x (6 + 4 * i) = 141 by omega)] at hp
         first
           | (rw [if_pos (by omega)] at hp; exact hp _ a87 (FR.p f87))
           | (rw [if_neg (by omega)] at hp; exact hp _ a87 (FR.p f87)))
      | (rw [if_neg (show ¬ x (6 + 4 * i) = 138 by omega), if_neg (show ¬ x (6 + 4 * i) = 140 by omega), if_neg (show ¬ x (6 + 4 * i) = 141 by omega), if_pos (show x (6 + 4 * i) = 142 by omega)] at hp
         exact hp _ a101 (FR.p (F7.r f101)))
      | (rw [if_neg (show ¬ x (6 + 4 * i) = 138 by omega), if_neg (show ¬ x (6 + 4 * i) = 140 by omega), if_neg (show ¬ x (6 + 4 * i) = 141 by omega), if_neg (show ¬ x (6 + 4 * i) = 142 by omega), if_pos (show x (6 + 4 * i) = 128 by omega)] at hp
         exact hp _ a107 f107)
      | (rw [if_neg (show ¬ x (6 + 4 * i) = 138 by omega), if_neg (show ¬ x (6 + 4 * i) = 140 by omega), if_neg (show ¬ x (6 + 4 * i) = 141 by omega), if_neg (show ¬ x (6 + 4 * i) = 142 by omega), if_neg (show ¬ x (6 + 4 * i) = 128 by omega)] at hp
         exact hp _ hA FP.rf))
  by_cases t15_3 : srt (x (6 + 4 * i)) = 5
  · refine x_tableIn 99 dX12_isPlayed_15 (by omega) (by omega) (by rw [t15_3]; rfl) (by decide) ?_
    refine x_aload_n dX12_isPlayed_99 rfl ?_
    refine x_iload_n dX12_isPlayed_100 rfl ?_
    refine x_callV1 (mc1 := 0) (ms1 := 0) dX12_isPlayed_101 cv_RX12_393 (ci := 12) (k_ob_306 cs) rfl (Nat.le_of_ble_eq_true rfl) (n1 := n - 1) (by omega) (by omega) (by omega) ?_
    rw [g3 (by omega)]
    refine sp_X12_earn cs hA hb (by omega) (by omega) (fun J101 a101 f101 => ?_)
    have fq := fearn_01 (A := A) (q := x (7 + 4 * i))
    exact x_zreturn (by omega) dX12_isPlayed_104 rfl (by omega) (by omega) (by
    first
      | (rw [if_pos (show x (6 + 4 * i) = 138 by omega)] at hp
         first
           | (rw [if_pos (by omega)] at hp; exact hp _ a67 (FR.p (F7.r f67)))
           | (rw [if_neg (by omega)] at hp; exact hp _ a67 (FR.p (F7.r f67))))
      | (rw [if_neg (show ¬ x (6 + 4 * i) = 138 by omega), if_pos (show x (6 + 4 * i) = 140 by omega)] at hp
         exact hp _ a81 (FR.p (F7.r f81)))
      | (rw [if_neg (show ¬ x (6 + 4 * i) = 138 by omega), if_neg (show ¬ x (6 + 4 * i) = 140 by omega), if_pos (show x (6 + 4 * i) = 141 by omega)] at hp
         first
           | (rw [if_pos (by omega)] at hp; exact hp _ a87 (FR.p f87))
           | (rw [if_neg (by omega)] at hp; exact hp _ a87 (FR.p f87)))
      | (rw [if_neg (show ¬ x (6 + 4 * i) = 138 by omega), if_neg (show ¬ x (6 + 4 * i) = 140 by omega), if_neg (show ¬ x (6 + 4 * i) = 141 by omega), if_pos (show x (6 + 4 * i) = 142 by omega)] at hp
         exact hp _ a101 (FR.p (F7.r f101)))
      | (rw [if_neg (show ¬ x (6 + 4 * i) = 138 by omega), if_neg (show ¬ x (6 + 4 * i) = 140 by omega), if_neg (show ¬ x (6 + 4 * i) = 141 by omega), if_neg (show ¬ x (6 + 4 * i) = 142 by omega), if_pos (show x (6 + 4 * i) = 128 by omega)] at hp
         exact hp _ a107 f107)
      | (rw [if_neg (show ¬ x (6 + 4 * i) = 138 by omega), if_neg (show ¬ x (6 + 4 * i) = 140 by omega), if_neg (show ¬ x (6 + 4 * i) = 141 by omega), if_neg (show ¬ x (6 + 4 * i) = 142 by omega), if_neg (show ¬ x (6 + 4 * i) = 128 by omega)] at hp
         exact hp _ hA FP.rf))
  by_cases t15_4 : srt (x (6 + 4 * i)) = 6
  · refine x_tableIn 105 dX12_isPlayed_15 (by omega) (by omega) (by rw [t15_4]; rfl) (by decide) ?_
    refine x_aload_n dX12_isPlayed_105 rfl ?_
    refine x_iload_n dX12_isPlayed_106 rfl ?_
    refine x_callV1 (mc1 := 0) (ms1 := 0) dX12_isPlayed_107 cv_RX12_381 (ci := 12) (k_ob_306 cs) rfl (Nat.le_of_ble_eq_true rfl) (n1 := n - 1) (by omega) (by omega) (by omega) ?_
    rw [g3 (by omega)]
    refine sp_X12_arePassed cs hA hb hT hz (by omega) (by omega) (fun J107 a107 s107 f107 => ?_)
    have fq := pdA_2 (A := A) (tx := tx) (x (7 + 4 * i)).toNat
    exact x_zreturn (by omega) dX12_isPlayed_110 rfl (by omega) (by omega) (by
    first
      | (rw [if_pos (show x (6 + 4 * i) = 138 by omega)] at hp
         first
           | (rw [if_pos (by omega)] at hp; exact hp _ a67 (FR.p (F7.r f67)))
           | (rw [if_neg (by omega)] at hp; exact hp _ a67 (FR.p (F7.r f67))))
      | (rw [if_neg (show ¬ x (6 + 4 * i) = 138 by omega), if_pos (show x (6 + 4 * i) = 140 by omega)] at hp
         exact hp _ a81 (FR.p (F7.r f81)))
      | (rw [if_neg (show ¬ x (6 + 4 * i) = 138 by omega), if_neg (show ¬ x (6 + 4 * i) = 140 by omega), if_pos (show x (6 + 4 * i) = 141 by omega)] at hp
         first
           | (rw [if_pos (by omega)] at hp; exact hp _ a87 (FR.p f87))
           | (rw [if_neg (by omega)] at hp; exact hp _ a87 (FR.p f87)))
      | (rw [if_neg (show ¬ x (6 + 4 * i) = 138 by omega), if_neg (show ¬ x (6 + 4 * i) = 140 by omega), if_neg (show ¬ x (6 + 4 * i) = 141 by omega), if_pos (show x (6 + 4 * i) = 142 by omega)] at hp
         exact hp _ a101 (FR.p (F7.r f101)))
      | (rw [if_neg (show ¬ x (6 + 4 * i) = 138 by omega), if_neg (show ¬ x (6 + 4 * i) = 140 by omega), if_neg (show ¬ x (6 + 4 * i) = 141 by omega), if_neg (show ¬ x (6 + 4 * i) = 142 by omega), if_pos (show x (6 + 4 * i) = 128 by omega)] at hp
         exact hp _ a107 f107)
      | (rw [if_neg (show ¬ x (6 + 4 * i) = 138 by omega), if_neg (show ¬ x (6 + 4 * i) = 140 by omega), if_neg (show ¬ x (6 + 4 * i) = 141 by omega), if_neg (show ¬ x (6 + 4 * i) = 142 by omega), if_neg (show ¬ x (6 + 4 * i) = 128 by omega)] at hp
         exact hp _ hA FP.rf))
  refine x_tableOut 111 dX12_isPlayed_15 (by omega) (by omega) (by decide) ?_
  refine x_iconst dX12_isPlayed_111 ?_
  exact x_zreturn (by omega) dX12_isPlayed_112 rfl (by omega) (by omega) (by
    first
      | (rw [if_pos (show x (6 + 4 * i) = 138 by omega)] at hp
         first
           | (rw [if_pos (by omega)] at hp; exact hp _ a67 (FR.p (F7.r f67)))
           | (rw [if_neg (by omega)] at hp; exact hp _ a67 (FR.p (F7.r f67))))
      | (rw [if_neg (show ¬ x (6 + 4 * i) = 138 by omega), if_pos (show x (6 + 4 * i) = 140 by omega)] at hp
         exact hp _ a81 (FR.p (F7.r f81)))
      | (rw [if_neg (show ¬ x (6 + 4 * i) = 138 by omega), if_neg (show ¬ x (6 + 4 * i) = 140 by omega), if_pos (show x (6 + 4 * i) = 141 by omega)] at hp
         first
           | (rw [if_pos (by omega)] at hp; exact hp _ a87 (FR.p f87))
           | (rw [if_neg (by omega)] at hp; exact hp _ a87 (FR.p f87)))
      | (rw [if_neg (show ¬ x (6 + 4 * i) = 138 by omega), if_neg (show ¬ x (6 + 4 * i) = 140 by omega), if_neg (show ¬ x (6 + 4 * i) = 141 by omega), if_pos (show x (6 + 4 * i) = 142 by omega)] at hp
         exact hp _ a101 (FR.p (F7.r f101)))
      | (rw [if_neg (show ¬ x (6 + 4 * i) = 138 by omega), if_neg (show ¬ x (6 + 4 * i) = 140 by omega), if_neg (show ¬ x (6 + 4 * i) = 141 by omega), if_neg (show ¬ x (6 + 4 * i) = 142 by omega), if_pos (show x (6 + 4 * i) = 128 by omega)] at hp
         exact hp _ a107 f107)
      | (rw [if_neg (show ¬ x (6 + 4 * i) = 138 by omega), if_neg (show ¬ x (6 + 4 * i) = 140 by omega), if_neg (show ¬ x (6 + 4 * i) = 141 by omega), if_neg (show ¬ x (6 + 4 * i) = 142 by omega), if_neg (show ¬ x (6 + 4 * i) = 128 by omega)] at hp
         exact hp _ hA FP.rf))
theorem dX12_played_0 : decode prog_14_method_94_code 0 = .ok (.iload_n 1, 1) := by decide +kernel
theorem dX12_played_1 : decode prog_14_method_94_code 1 = .ok (.iconst 0, 1) := by decide +kernel
theorem dX12_played_2 : decode prog_14_method_94_code 2 = .ok (.aload_n 0, 1) := by decide +kernel
theorem dX12_played_3 : decode prog_14_method_94_code 3 = .ok (.getfield 7, 3) := by decide +kernel
theorem dX12_played_6 : decode prog_14_method_94_code 6 = .ok (.iconst 1, 1) := by decide +kernel
theorem dX12_played_7 : decode prog_14_method_94_code 7 = .ok (.iaload, 1) := by decide +kernel
theorem dX12_played_8 : decode prog_14_method_94_code 8 = .ok (.iconst 1, 1) := by decide +kernel
theorem dX12_played_9 : decode prog_14_method_94_code 9 = .ok (.isub, 1) := by decide +kernel
theorem dX12_played_10 : decode prog_14_method_94_code 10 = .ok (.invokestatic 81, 3) := by decide +kernel
theorem dX12_played_13 : decode prog_14_method_94_code 13 = .ok (.ifCond .ne 6, 3) := by decide +kernel
theorem dX12_played_16 : decode prog_14_method_94_code 16 = .ok (.bipush (-2), 2) := by decide +kernel
theorem dX12_played_18 : decode prog_14_method_94_code 18 = .ok (.ireturn, 1) := by decide +kernel
theorem dX12_played_19 : decode prog_14_method_94_code 19 = .ok (.iconst 0, 1) := by decide +kernel
theorem dX12_played_20 : decode prog_14_method_94_code 20 = .ok (.istore_n 2, 1) := by decide +kernel
theorem dX12_played_21 : decode prog_14_method_94_code 21 = .ok (.iload_n 2, 1) := by decide +kernel
theorem dX12_played_22 : decode prog_14_method_94_code 22 = .ok (.aload_n 0, 1) := by decide +kernel
theorem dX12_played_23 : decode prog_14_method_94_code 23 = .ok (.getfield 16, 3) := by decide +kernel
theorem dX12_played_26 : decode prog_14_method_94_code 26 = .ok (.sipush 705, 3) := by decide +kernel
theorem dX12_played_29 : decode prog_14_method_94_code 29 = .ok (.iload_n 1, 1) := by decide +kernel
theorem dX12_played_30 : decode prog_14_method_94_code 30 = .ok (.imul, 1) := by decide +kernel
theorem dX12_played_31 : decode prog_14_method_94_code 31 = .ok (.iaload, 1) := by decide +kernel
theorem dX12_played_32 : decode prog_14_method_94_code 32 = .ok (.if_icmp .ge 29, 3) := by decide +kernel
theorem dX12_played_35 : decode prog_14_method_94_code 35 = .ok (.aload_n 0, 1) := by decide +kernel
theorem dX12_played_36 : decode prog_14_method_94_code 36 = .ok (.sipush 705, 3) := by decide +kernel
theorem dX12_played_39 : decode prog_14_method_94_code 39 = .ok (.iload_n 1, 1) := by decide +kernel
theorem dX12_played_40 : decode prog_14_method_94_code 40 = .ok (.imul, 1) := by decide +kernel
theorem dX12_played_41 : decode prog_14_method_94_code 41 = .ok (.iconst 1, 1) := by decide +kernel
theorem dX12_played_42 : decode prog_14_method_94_code 42 = .ok (.iadd, 1) := by decide +kernel
theorem dX12_played_43 : decode prog_14_method_94_code 43 = .ok (.iconst 4, 1) := by decide +kernel
theorem dX12_played_44 : decode prog_14_method_94_code 44 = .ok (.iload_n 2, 1) := by decide +kernel
theorem dX12_played_45 : decode prog_14_method_94_code 45 = .ok (.imul, 1) := by decide +kernel
theorem dX12_played_46 : decode prog_14_method_94_code 46 = .ok (.iadd, 1) := by decide +kernel
theorem dX12_played_47 : decode prog_14_method_94_code 47 = .ok (.invokevirtual 396, 3) := by decide +kernel
theorem dX12_played_50 : decode prog_14_method_94_code 50 = .ok (.ifCond .ne 5, 3) := by decide +kernel
theorem dX12_played_53 : decode prog_14_method_94_code 53 = .ok (.iload_n 2, 1) := by decide +kernel
theorem dX12_played_54 : decode prog_14_method_94_code 54 = .ok (.ireturn, 1) := by decide +kernel
theorem dX12_played_55 : decode prog_14_method_94_code 55 = .ok (.iinc 2 1, 3) := by decide +kernel
theorem dX12_played_58 : decode prog_14_method_94_code 58 = .ok (.goto (-37), 3) := by decide +kernel
theorem dX12_played_61 : decode prog_14_method_94_code 61 = .ok (.iconst (-1), 1) := by decide +kernel
theorem dX12_played_62 : decode prog_14_method_94_code 62 = .ok (.ireturn, 1) := by decide +kernel
theorem lp_X12_played {t : Nat} {x : Nat → Int} (cs : CS S R) (ht4 : t < 4) (hT : RTx (I 309) A tx) (hz : I 306 23 = 1) (ht : (t : Int) < A 1) (hx : x = tx t) (hB : ∀ i : Nat, (i : Int) < 4 * x 0 → 0 ≤ x (6 + i) ∧ x (6 + i) ≤ 9999) (hn : 9 ≤ n) {res : Int × (Nat → Int)} (hp : ∀ I', I' 307 = res.2 → FP I I' → Post (some (.int (iI res.1))) S I' R) : ∀ (f k : Nat) (J : CI) (B : Nat → Int), ((k + f : Nat) : Int) = x 0 → plL tx x f k B = res → J 307 = B → BA B → B 1 = A 1 → FP I J → WP n 0 0 mX12_played Post 21 [(0, .ref (S.2.1 306)), (1, .int (iI (t : Int))), (2, .int (iI (k : Int)))] [] 0 0 S J R := by
  have g0 := (hT t ht).1.1
  rw [← hx] at g0
  intro f
  induction f with
  | zero =>
    intro k J B hk hr hA hb h1 hF
    have hJX : J 309 = I 309 := hF.1 309 (by omega) (by omega) (by omega) (by omega) (by omega)
    refine x_iload_n dX12_played_21 rfl ?_
    refine x_aload_n dX12_played_22 rfl ?_
    refine x_getR (b := 309) dX12_played_23 gf_RX12_16 (k_ob_306 cs) (fun _ _ => rfl) (k_r_306_2 cs) ?_
    refine x_sipush dX12_played_26 (by decide) ?_
    refine x_iload_n dX12_played_29 rfl ?_
    refine x_imul dX12_played_30 ?_
    refine x_iaload dX12_played_31 (k_ar_309 cs) (by omega) (by omega) ?_
    rw [show ((705 : Int) * (t : Int)).toNat = 705 * t by omega, hJX, g0.1]
    refine x_icmp_ge 61 dX12_played_32 (by decide) ⟨(by omega), (by omega)⟩ (fun w32 => ?_) (fun w32 => ?_)
    · refine x_iconst dX12_played_61 ?_
      exact x_ireturn dX12_played_62 rfl (by omega) (by omega) (by subst hr; exact hp _ hA hF)
    · exfalso; omega
  | succ f ih =>
    intro k J B hk hr hA hb h1 hF
    have hJX : J 309 = I 309 := hF.1 309 (by omega) (by omega) (by omega) (by omega) (by omega)
    have hTJ : RTx (J 309) B tx := by rw [hJX]; exact fun t2 ht2 => hT t2 (by rw [← h1]; exact ht2)
    have ck := clause_k (tx := tx) hb x k
    have c01 := f_clause_01 (A := B) (tx := tx) (x := x) (i := k)
    refine x_iload_n dX12_played_21 rfl ?_
    refine x_aload_n dX12_played_22 rfl ?_
    refine x_getR (b := 309) dX12_played_23 gf_RX12_16 (k_ob_306 cs) (fun _ _ => rfl) (k_r_306_2 cs) ?_
    refine x_sipush dX12_played_26 (by decide) ?_
    refine x_iload_n dX12_played_29 rfl ?_
    refine x_imul dX12_played_30 ?_
    refine x_iaload dX12_played_31 (k_ar_309 cs) (by omega) (by omega) ?_
    rw [show ((705 : Int) * (t : Int)).toNat = 705 * t by omega, hJX, g0.1]
    refine x_icmp_ge 61 dX12_played_32 (by decide) ⟨(by omega), (by omega)⟩ (fun w32 => ?_) (fun w32 => ?_)
    · exfalso; omega
    · refine x_aload_n dX12_played_35 rfl ?_
      refine x_sipush dX12_played_36 (by decide) ?_
      refine x_iload_n dX12_played_39 rfl ?_
      refine x_imul dX12_played_40 ?_
      refine x_iconst dX12_played_41 ?_
      refine x_iadd dX12_played_42 ?_
      refine x_iconst dX12_played_43 ?_
      refine x_iload_n dX12_played_44 rfl ?_
      refine x_imul dX12_played_45 ?_
      refine x_iadd dX12_played_46 ?_
      refine x_callV1 (mc1 := 0) (ms1 := 0) dX12_played_47 cv_RX12_396 (ci := 12) (k_ob_306 cs) rfl (Nat.le_of_ble_eq_true rfl) (n1 := n - 1) (by omega) (by omega) (by omega) ?_
      rw [show (705 : Int) * (t : Int) + 1 + 4 * (k : Int) = ((705 * t + 1 + 4 * k : Nat) : Int) by omega]
      refine sp_X12_isPlayed (tx := tx) cs hA hb hTJ (by rw [hF.2 23 (by omega)]; exact hz) (by omega) hx (by omega) hB (by omega) (fun J47 a47 f47 => ?_)
      refine x_if_ne 55 dX12_played_50 (by decide) (by omega) (fun w50 => ?_) (fun w50 => ?_)
      · refine x_iinc (lv2 := [(2, _), (0, _), (1, _)]) dX12_played_55 rfl (by decide) rfl ?_
        refine x_goto 21 dX12_played_58 (by decide) ?_
        refine x_sub [1, 2, 0] rfl ?_
        rw [show plL tx x (f + 1) k B = plL tx x f (k + 1) (f_clause B tx x k).2 from if_neg (by omega)] at hr
        exact ih (k + 1) J47 _ (by omega) hr a47 ck.1 (by rw [ck.2]; exact h1) (FP.tr hF f47)
      · refine x_iload_n dX12_played_53 rfl ?_
        exact x_ireturn dX12_played_54 rfl (by omega) (by omega) (by rw [show plL tx x (f + 1) k B = ((k : Int), (f_clause B tx x k).2) from if_pos (by omega)] at hr; subst hr; exact hp _ a47 (FP.tr hF f47))
theorem sp_X12_played {t : Int} (cs : CS S R) (hA : I 307 = A) (hb : BA A) (hT : RTx (I 309) A tx) (hz : I 306 23 = 1) (hTB : TB A tx) (ht : Rg t) (hn : 9 ≤ n) (hp : ∀ I', I' 307 = (f_played A tx t).2 → FP I I' → Post (some (.int (iI (f_played A tx t).1))) S I' R) : Call n 0 0 mX12_played [.ref (S.2.1 306), .int (iI t)] S I R Post := by
  have b0 := hb.1.1
  have b1 := hb.2.1.1
  have b2 := hb.2.1.2.1
  have b3 := hb.2.1.2.2.1
  have b4 := hb.2.1.2.2.2.1
  have b5 := hb.2.1.2.2.2.2.1
  have b6 := hb.2.1.2.2.2.2.2.1
  have b114 := hb.2.1.2.2.2.2.2.2
  have b7 : 0 ≤ A 7 ∧ A 7 ≤ 9999 := hb.1.2.1
  have b8 : 0 ≤ A 8 ∧ A 8 ≤ 30870 := hb.1.2.2.1
  have b9 : 0 ≤ A 9 ∧ A 9 ≤ 9999 := hb.1.2.2.2.1
  have b10 : 0 ≤ A 10 ∧ A 10 ≤ 1 := hb.1.2.2.2.2.1
  have b11 := BA_11 hb
  unfold f_played at hp
  refine Call.of (by decide +kernel) (Nat.le_of_ble_eq_true rfl) ?_
  show WP _ _ _ _ _ 0 [(0, _), (1, _)] [] 0 0 _ _ _
  refine x_iload_n dX12_played_0 rfl ?_
  refine x_iconst dX12_played_1 ?_
  refine x_aload_n dX12_played_2 rfl ?_
  refine x_getR (b := 307) dX12_played_3 gf_RX12_7 (k_ob_306 cs) (fun _ _ => rfl) (k_r_306_0 cs) ?_
  refine x_iconst dX12_played_6 ?_
  refine x_ald7 (kk := 1) (v := A 1) dX12_played_7 cs (by omega) (by omega) (by rw [hA]; repeat (first | rfl | rw [upA_s] | rw [upA_o (by omega)])) ?_
  refine x_iconst dX12_played_8 ?_
  refine x_isub dX12_played_9 ?_
  refine x_callS3 (mc1 := 0) (ms1 := 0) dX12_played_10 cv_RX12_81 (Nat.le_of_ble_eq_true rfl) (n1 := n - 1) (by omega) (by omega) (by omega) ?_
  refine sp_X12_isIn (by omega) (by omega) (by omega) (fun r10 hr10 => ?_)
  refine x_if_ne 19 dX12_played_13 (by decide) (by omega) (fun w13 => ?_) (fun w13 => ?_)
  · refine x_iconst dX12_played_19 ?_
    refine x_istore_n (lv2 := [(2, _), (0, _), (1, _)]) dX12_played_20 (by decide) rfl ?_
    refine x_sub [1, 2, 0] rfl ?_
    rw [if_pos (show 0 ≤ t ∧ t < A 1 by omega)] at hp
    have g0 := (hT t.toNat (by omega)).1.1
    rw [asN (a := t) (by omega)]
    exact lp_X12_played (A := A) (x := tx t.toNat) cs (by omega) hT hz (by omega) rfl (hTB t.toNat (by omega)) hn hp (tx t.toNat 0).toNat 0 I A (by omega) rfl hA hb rfl FP.rf
  · refine x_bipush dX12_played_16 (by decide) ?_
    exact x_ireturn dX12_played_18 rfl (by omega) (by omega) (by rw [if_neg (by omega)] at hp; exact hp _ hA FP.rf)
end Ref15
