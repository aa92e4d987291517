section Ref13
variable {n mc ms : Nat} {M : Md} {pc : Nat} {lv : List (Nat × Value)} {st : List Value} {k j : Nat} {Post : PT} {S : Sh} {I : CI} {R : CR} {A : Nat → Int} {tx : Nat → Nat → Int}
/-- one draw of years: the row behind the draw, X as it was -/
def liveX (B : Nat → Int) (tx : Nat → Nat → Int) (x : Int) : Nat → Int :=
  if 4 ≤ x % 6 then (if B 7 < 9999 then (passA B tx).1 else B)
  else if x % 6 = 3 then (if B 9 + (1 + x / 6 % 9) ≤ 9999 then upA B 9 (B 9 + (1 + x / 6 % 9)) else B)
  else if 0 < B 0 then
    (if x % 6 = 0 then (if B (12 + 3 * (x / 6 % B 0).toNat) = 0 then pawnA B (x / 6 % B 0) else B)
     else if priceP B tx (x / 6 % B 0) = -1 then B else redeemA B (x / 6 % B 0) (priceP B tx (x / 6 % B 0)))
  else B
theorem live_X (h0 : 0 ≤ A 0 ∧ A 0 ≤ 8) : liveX (upA A 8 (anx (A 8))) tx (A 8) = liveA A tx := by
  have e : ∀ i, i ≠ 8 → upA A 8 (anx (A 8)) i = A i := fun i h => upA_o h
  unfold liveX liveA
  dsimp only
  rw [e 7 (by omega), e 9 (by omega), e 0 (by omega)]
  rw [e (12 + 3 * (A 8 / 6 % A 0).toNat) (by omega)]
theorem dX12_happens_0 : decode prog_14_method_95_code 0 = .ok (.aload_n 0, 1) := by decide +kernel
theorem dX12_happens_1 : decode prog_14_method_95_code 1 = .ok (.getfield 7, 3) := by decide +kernel
theorem dX12_happens_4 : decode prog_14_method_95_code 4 = .ok (.iconst 0, 1) := by decide +kernel
theorem dX12_happens_5 : decode prog_14_method_95_code 5 = .ok (.iaload, 1) := by decide +kernel
theorem dX12_happens_6 : decode prog_14_method_95_code 6 = .ok (.ifCond .ne 7, 3) := by decide +kernel
theorem dX12_happens_9 : decode prog_14_method_95_code 9 = .ok (.iconst (-1), 1) := by decide +kernel
theorem dX12_happens_10 : decode prog_14_method_95_code 10 = .ok (.goto 14, 3) := by decide +kernel
theorem dX12_happens_13 : decode prog_14_method_95_code 13 = .ok (.iload_n 1, 1) := by decide +kernel
theorem dX12_happens_14 : decode prog_14_method_95_code 14 = .ok (.bipush 6, 2) := by decide +kernel
theorem dX12_happens_16 : decode prog_14_method_95_code 16 = .ok (.idiv, 1) := by decide +kernel
theorem dX12_happens_17 : decode prog_14_method_95_code 17 = .ok (.aload_n 0, 1) := by decide +kernel
theorem dX12_happens_18 : decode prog_14_method_95_code 18 = .ok (.getfield 7, 3) := by decide +kernel
theorem dX12_happens_21 : decode prog_14_method_95_code 21 = .ok (.iconst 0, 1) := by decide +kernel
theorem dX12_happens_22 : decode prog_14_method_95_code 22 = .ok (.iaload, 1) := by decide +kernel
theorem dX12_happens_23 : decode prog_14_method_95_code 23 = .ok (.irem, 1) := by decide +kernel
theorem dX12_happens_24 : decode prog_14_method_95_code 24 = .ok (.istore_n 2, 1) := by decide +kernel
theorem dX12_happens_25 : decode prog_14_method_95_code 25 = .ok (.iconst 1, 1) := by decide +kernel
theorem dX12_happens_26 : decode prog_14_method_95_code 26 = .ok (.iload_n 1, 1) := by decide +kernel
theorem dX12_happens_27 : decode prog_14_method_95_code 27 = .ok (.bipush 6, 2) := by decide +kernel
theorem dX12_happens_29 : decode prog_14_method_95_code 29 = .ok (.idiv, 1) := by decide +kernel
theorem dX12_happens_30 : decode prog_14_method_95_code 30 = .ok (.bipush 9, 2) := by decide +kernel
theorem dX12_happens_32 : decode prog_14_method_95_code 32 = .ok (.irem, 1) := by decide +kernel
theorem dX12_happens_33 : decode prog_14_method_95_code 33 = .ok (.iadd, 1) := by decide +kernel
theorem dX12_happens_34 : decode prog_14_method_95_code 34 = .ok (.istore_n 3, 1) := by decide +kernel
theorem dX12_happens_35 : decode prog_14_method_95_code 35 = .ok (.iload_n 1, 1) := by decide +kernel
theorem dX12_happens_36 : decode prog_14_method_95_code 36 = .ok (.bipush 6, 2) := by decide +kernel
theorem dX12_happens_38 : decode prog_14_method_95_code 38 = .ok (.irem, 1) := by decide +kernel
theorem dX12_happens_39 : decode prog_14_method_95_code 39 = .ok (.tableswitch 84 0 3 #[29, 45, 45, 62], 29) := by decide +kernel
theorem dX12_happens_68 : decode prog_14_method_95_code 68 = .ok (.aload_n 0, 1) := by decide +kernel
theorem dX12_happens_69 : decode prog_14_method_95_code 69 = .ok (.iload_n 2, 1) := by decide +kernel
theorem dX12_happens_70 : decode prog_14_method_95_code 70 = .ok (.invokevirtual 360, 3) := by decide +kernel
theorem dX12_happens_73 : decode prog_14_method_95_code 73 = .ok (.ifCond .eq 67, 3) := by decide +kernel
theorem dX12_happens_76 : decode prog_14_method_95_code 76 = .ok (.aload_n 0, 1) := by decide +kernel
theorem dX12_happens_77 : decode prog_14_method_95_code 77 = .ok (.iload_n 2, 1) := by decide +kernel
theorem dX12_happens_78 : decode prog_14_method_95_code 78 = .ok (.invokevirtual 366, 3) := by decide +kernel
theorem dX12_happens_81 : decode prog_14_method_95_code 81 = .ok (.goto 59, 3) := by decide +kernel
theorem dX12_happens_84 : decode prog_14_method_95_code 84 = .ok (.aload_n 0, 1) := by decide +kernel
theorem dX12_happens_85 : decode prog_14_method_95_code 85 = .ok (.iload_n 2, 1) := by decide +kernel
theorem dX12_happens_86 : decode prog_14_method_95_code 86 = .ok (.invokevirtual 369, 3) := by decide +kernel
theorem dX12_happens_89 : decode prog_14_method_95_code 89 = .ok (.ifCond .eq 51, 3) := by decide +kernel
theorem dX12_happens_92 : decode prog_14_method_95_code 92 = .ok (.aload_n 0, 1) := by decide +kernel
theorem dX12_happens_93 : decode prog_14_method_95_code 93 = .ok (.iload_n 2, 1) := by decide +kernel
theorem dX12_happens_94 : decode prog_14_method_95_code 94 = .ok (.invokevirtual 372, 3) := by decide +kernel
theorem dX12_happens_97 : decode prog_14_method_95_code 97 = .ok (.ifCond .ge 43, 3) := by decide +kernel
theorem dX12_happens_100 : decode prog_14_method_95_code 100 = .ok (.return_, 1) := by decide +kernel
theorem dX12_happens_101 : decode prog_14_method_95_code 101 = .ok (.aload_n 0, 1) := by decide +kernel
theorem dX12_happens_102 : decode prog_14_method_95_code 102 = .ok (.iload_n 3, 1) := by decide +kernel
theorem dX12_happens_103 : decode prog_14_method_95_code 103 = .ok (.invokevirtual 375, 3) := by decide +kernel
theorem dX12_happens_106 : decode prog_14_method_95_code 106 = .ok (.ifCond .eq 34, 3) := by decide +kernel
theorem dX12_happens_109 : decode prog_14_method_95_code 109 = .ok (.aload_n 0, 1) := by decide +kernel
theorem dX12_happens_110 : decode prog_14_method_95_code 110 = .ok (.getfield 7, 3) := by decide +kernel
theorem dX12_happens_113 : decode prog_14_method_95_code 113 = .ok (.bipush 9, 2) := by decide +kernel
theorem dX12_happens_115 : decode prog_14_method_95_code 115 = .ok (.dup2, 1) := by decide +kernel
theorem dX12_happens_116 : decode prog_14_method_95_code 116 = .ok (.iaload, 1) := by decide +kernel
theorem dX12_happens_117 : decode prog_14_method_95_code 117 = .ok (.iload_n 3, 1) := by decide +kernel
theorem dX12_happens_118 : decode prog_14_method_95_code 118 = .ok (.iadd, 1) := by decide +kernel
theorem dX12_happens_119 : decode prog_14_method_95_code 119 = .ok (.iastore, 1) := by decide +kernel
theorem dX12_happens_120 : decode prog_14_method_95_code 120 = .ok (.goto 20, 3) := by decide +kernel
theorem dX12_happens_123 : decode prog_14_method_95_code 123 = .ok (.aload_n 0, 1) := by decide +kernel
theorem dX12_happens_124 : decode prog_14_method_95_code 124 = .ok (.getfield 7, 3) := by decide +kernel
theorem dX12_happens_127 : decode prog_14_method_95_code 127 = .ok (.bipush 7, 2) := by decide +kernel
theorem dX12_happens_129 : decode prog_14_method_95_code 129 = .ok (.iaload, 1) := by decide +kernel
theorem dX12_happens_130 : decode prog_14_method_95_code 130 = .ok (.sipush 9999, 3) := by decide +kernel
theorem dX12_happens_133 : decode prog_14_method_95_code 133 = .ok (.if_icmp .ge 7, 3) := by decide +kernel
theorem dX12_happens_136 : decode prog_14_method_95_code 136 = .ok (.aload_n 0, 1) := by decide +kernel
theorem dX12_happens_137 : decode prog_14_method_95_code 137 = .ok (.invokevirtual 378, 3) := by decide +kernel
theorem dX12_happens_140 : decode prog_14_method_95_code 140 = .ok (.return_, 1) := by decide +kernel
theorem dstep_0b (hb : BA A) : 0 ≤ (passA A tx).2 ∧ (passA A tx).2 ≤ 8 := by
  have hB := BA_heatD (BA_rainD hb)
  have h0 := hB.1.1
  have hk := saleA_k (tx := tx) hB (heatD (rainD A) 0).toNat (by omega)
  have : (passA A tx).2 = (saleA (heatD (rainD A)) tx (heatD (rainD A) 0).toNat).2 := rfl
  omega
theorem sp_X12_happens {x : Int} (cs : CS S R) (hA : I 307 = A) (hb : BA A) (hT : RTx (I 309) A tx) (hz : I 306 23 = 1) (hx : 0 ≤ x ∧ x ≤ 30870) (hn : 7 ≤ n) (hp : ∀ I', I' 307 = liveX A tx x → FP I I' → Post none S I' R) : Call n 0 0 mX12_happens [.ref (S.2.1 306), .int (iI x)] S I R Post := by
  have b0 := hb.1.1
  have b1 := hb.2.1.1
  have b2 := hb.2.1.2.1
  have b3 := hb.2.1.2.2.1
  have b4 := hb.2.1.2.2.2.1
  have b5 := hb.2.1.2.2.2.2.1
  have b6 := hb.2.1.2.2.2.2.2.1
  have b114 := hb.2.1.2.2.2.2.2.2
  have b7 : 0 ≤ A 7 ∧ A 7 ≤ 9999 := hb.1.2.1
  have b8 : 0 ≤ A 8 ∧ A 8 ≤ 30870 := hb.1.2.2.1
  have b9 : 0 ≤ A 9 ∧ A 9 ≤ 9999 := hb.1.2.2.2.1
  have b10 : 0 ≤ A 10 ∧ A 10 ≤ 1 := hb.1.2.2.2.2.1
  have b11 := BA_11 hb
  unfold liveX at hp
  have hr : 0 < A 0 → 0 ≤ x / 6 % A 0 ∧ x / 6 % A 0 < A 0 := fun h => ⟨Int.emod_nonneg _ (by omega), Int.emod_lt_of_pos _ h⟩
  have hpr : priceP A tx (x / 6 % A 0) = if 0 ≤ (x / 6 % A 0) ∧ (x / 6 % A 0) < A 0 ∧ A (12 + 3 * (x / 6 % A 0).toNat) = 1 ∧ duesP A tx (A 2) (x / 6 % A 0).toNat 0 (A 9) ≤ A 9 then duesP A tx (A 2) (x / 6 % A 0).toNat 0 (A 9) else -1 := rfl
  have hdb := duesP_b A tx (A 2) (x / 6 % A 0).toNat 0 (A 9)
  refine Call.of (by decide +kernel) (Nat.le_of_ble_eq_true rfl) ?_
  show WP _ _ _ _ _ 0 [(0, _), (1, _)] [] 0 0 _ _ _
  refine x_aload_n dX12_happens_0 rfl ?_
  refine x_getR (b := 307) dX12_happens_1 gf_RX12_7 (k_ob_306 cs) (fun _ _ => rfl) (k_r_306_0 cs) ?_
  refine x_iconst dX12_happens_4 ?_
  refine x_ald7 (kk := 0) (v := A 0) dX12_happens_5 cs (by omega) (by omega) (by rw [hA]; repeat (first | rfl | rw [upA_s] | rw [upA_o (by omega)])) ?_
  refine x_if_ne 13 dX12_happens_6 (by decide) (by omega) (fun w6 => ?_) (fun w6 => ?_)
  · refine x_iload_n dX12_happens_13 rfl ?_
    refine x_bipush dX12_happens_14 (by decide) ?_
    refine x_idiv dX12_happens_16 (by omega) ?_
    refine x_aload_n dX12_happens_17 rfl ?_
    refine x_getR (b := 307) dX12_happens_18 gf_RX12_7 (k_ob_306 cs) (fun _ _ => rfl) (k_r_306_0 cs) ?_
    refine x_iconst dX12_happens_21 ?_
    refine x_ald7 (kk := 0) (v := A 0) dX12_happens_22 cs (by omega) (by omega) (by rw [hA]; repeat (first | rfl | rw [upA_s] | rw [upA_o (by omega)])) ?_
    refine x_irem dX12_happens_23 (by omega) ?_
    have hr2 := hr
    refine x_istore_n (lv2 := [(2, _), (0, _), (1, _)]) dX12_happens_24 (by decide) rfl ?_
    refine x_iconst dX12_happens_25 ?_
    refine x_iload_n dX12_happens_26 rfl ?_
    refine x_bipush dX12_happens_27 (by decide) ?_
    refine x_idiv dX12_happens_29 (by omega) ?_
    refine x_bipush dX12_happens_30 (by decide) ?_
    refine x_irem dX12_happens_32 (by omega) ?_
    refine x_iadd dX12_happens_33 ?_
    refine x_istore_n (lv2 := [(3, _), (2, _), (0, _), (1, _)]) dX12_happens_34 (by decide) rfl ?_
    refine x_iload_n dX12_happens_35 rfl ?_
    refine x_bipush dX12_happens_36 (by decide) ?_
    refine x_irem dX12_happens_38 (by omega) ?_
    by_cases t39_0 : x % 6 = 0
    · refine x_tableIn 68 dX12_happens_39 (by omega) (by omega) (by rw [t39_0]; rfl) (by decide) ?_
      refine x_aload_n dX12_happens_68 rfl ?_
      refine x_iload_n dX12_happens_69 rfl ?_
      refine x_callV1 (mc1 := 0) (ms1 := 0) dX12_happens_70 cv_RX12_360 (ci := 12) (k_ob_306 cs) rfl (Nat.le_of_ble_eq_true rfl) (n1 := n - 1) (by omega) (by omega) (by omega) ?_
      refine sp_X12_canPawn cs hA hb (by first | omega | (have := hr (by omega); omega)) (by omega) (fun r70 hr70 => ?_)
      refine x_if_eq 140 dX12_happens_73 (by decide) (by omega) (fun w73 => ?_) (fun w73 => ?_)
      · exact x_return dX12_happens_140 rfl (by omega) (by omega) (by
    first
      | (exfalso; omega)
      | (rw [if_pos (show 4 ≤ x % 6 by omega), if_pos (by omega)] at hp
         exact hp _ a137 f137)
      | (rw [if_pos (show 4 ≤ x % 6 by omega), if_neg (by omega)] at hp
         exact hp _ hA FP.rf)
      | (rw [if_neg (show ¬ 4 ≤ x % 6 by omega), if_pos (show x % 6 = 3 by omega), if_pos (by omega)] at hp
         exact hp _ a119 (F7.r f119).p)
      | (rw [if_neg (show ¬ 4 ≤ x % 6 by omega), if_pos (show x % 6 = 3 by omega), if_neg (by omega)] at hp
         exact hp _ hA FP.rf)
      | (rw [if_neg (show ¬ 4 ≤ x % 6 by omega), if_neg (show ¬ x % 6 = 3 by omega), if_neg (show ¬ 0 < A 0 by omega)] at hp
         first | exact hp _ hA FP.rf | exact hp _ (by rw [hF86 307 (by omega) (by omega) (by omega)]; exact hA) (FR.p (FD.r hF86)))
      | (have hq := hr (by omega)
         rw [if_neg (show ¬ 4 ≤ x % 6 by omega), if_neg (show ¬ x % 6 = 3 by omega), if_pos (show 0 < A 0 by omega), if_pos (show x % 6 = 0 by omega), if_pos (by omega)] at hp
         exact hp _ a78 (F7.r f78).p)
      | (have hq := hr (by omega)
         rw [if_neg (show ¬ 4 ≤ x % 6 by omega), if_neg (show ¬ x % 6 = 3 by omega), if_pos (show 0 < A 0 by omega), if_pos (show x % 6 = 0 by omega), if_neg (by omega)] at hp
         exact hp _ hA FP.rf)
      | (have hq := hr (by omega)
         have hv : priceP A tx (x / 6 % A 0) = duesP A tx (A 2) (x / 6 % A 0).toNat 0 (A 9) := by rw [hpr, if_pos (by omega)]
         rw [if_neg (show ¬ 4 ≤ x % 6 by omega), if_neg (show ¬ x % 6 = 3 by omega), if_pos (show 0 < A 0 by omega), if_neg (show ¬ x % 6 = 0 by omega), hv, if_neg (by omega)] at hp
         exact hp _ a94 (FR.p (FR.tr (FD.r hF86) f94)))
      | (have hq := hr (by omega)
         have hv : priceP A tx (x / 6 % A 0) = -1 := by rw [hpr, if_neg (by omega)]
         rw [if_neg (show ¬ 4 ≤ x % 6 by omega), if_neg (show ¬ x % 6 = 3 by omega), if_pos (show 0 < A 0 by omega), if_neg (show ¬ x % 6 = 0 by omega), hv, if_pos rfl] at hp
         exact hp _ (by rw [hF86 307 (by omega) (by omega) (by omega)]; exact hA) (FR.p (FD.r hF86))))
      · refine x_aload_n dX12_happens_76 rfl ?_
        refine x_iload_n dX12_happens_77 rfl ?_
        refine x_callV1 (mc1 := 0) (ms1 := 0) dX12_happens_78 cv_RX12_366 (ci := 12) (k_ob_306 cs) rfl (Nat.le_of_ble_eq_true rfl) (n1 := n - 1) (by omega) (by omega) (by omega) ?_
        refine sp_X12_pawnNow cs hA hb hz (by omega) (by omega) (fun J78 a78 f78 => ?_)
        refine x_goto 140 dX12_happens_81 (by decide) ?_
        exact x_return dX12_happens_140 rfl (by omega) (by omega) (by
    first
      | (exfalso; omega)
      | (rw [if_pos (show 4 ≤ x % 6 by omega), if_pos (by omega)] at hp
         exact hp _ a137 f137)
      | (rw [if_pos (show 4 ≤ x % 6 by omega), if_neg (by omega)] at hp
         exact hp _ hA FP.rf)
      | (rw [if_neg (show ¬ 4 ≤ x % 6 by omega), if_pos (show x % 6 = 3 by omega), if_pos (by omega)] at hp
         exact hp _ a119 (F7.r f119).p)
      | (rw [if_neg (show ¬ 4 ≤ x % 6 by omega), if_pos (show x % 6 = 3 by omega), if_neg (by omega)] at hp
         exact hp _ hA FP.rf)
      | (rw [if_neg (show ¬ 4 ≤ x % 6 by omega), if_neg (show ¬ x % 6 = 3 by omega), if_neg (show ¬ 0 < A 0 by omega)] at hp
         first | exact hp _ hA FP.rf | exact hp _ (by rw [hF86 307 (by omega) (by omega) (by omega)]; exact hA) (FR.p (FD.r hF86)))
      | (have hq := hr (by omega)
         rw [if_neg (show ¬ 4 ≤ x % 6 by omega), if_neg (show ¬ x % 6 = 3 by omega), if_pos (show 0 < A 0 by omega), if_pos (show x % 6 = 0 by omega), if_pos (by omega)] at hp
         exact hp _ a78 (F7.r f78).p)
      | (have hq := hr (by omega)
         rw [if_neg (show ¬ 4 ≤ x % 6 by omega), if_neg (show ¬ x % 6 = 3 by omega), if_pos (show 0 < A 0 by omega), if_pos (show x % 6 = 0 by omega), if_neg (by omega)] at hp
         exact hp _ hA FP.rf)
      | (have hq := hr (by omega)
         have hv : priceP A tx (x / 6 % A 0) = duesP A tx (A 2) (x / 6 % A 0).toNat 0 (A 9) := by rw [hpr, if_pos (by omega)]
         rw [if_neg (show ¬ 4 ≤ x % 6 by omega), if_neg (show ¬ x % 6 = 3 by omega), if_pos (show 0 < A 0 by omega), if_neg (show ¬ x % 6 = 0 by omega), hv, if_neg (by omega)] at hp
         exact hp _ a94 (FR.p (FR.tr (FD.r hF86) f94)))
      | (have hq := hr (by omega)
         have hv : priceP A tx (x / 6 % A 0) = -1 := by rw [hpr, if_neg (by omega)]
         rw [if_neg (show ¬ 4 ≤ x % 6 by omega), if_neg (show ¬ x % 6 = 3 by omega), if_pos (show 0 < A 0 by omega), if_neg (show ¬ x % 6 = 0 by omega), hv, if_pos rfl] at hp
         exact hp _ (by rw [hF86 307 (by omega) (by omega) (by omega)]; exact hA) (FR.p (FD.r hF86))))
    by_cases t39_1 : x % 6 = 1
    · refine x_tableIn 84 dX12_happens_39 (by omega) (by omega) (by rw [t39_1]; rfl) (by decide) ?_
      refine x_aload_n dX12_happens_84 rfl ?_
      refine x_iload_n dX12_happens_85 rfl ?_
      refine x_callV1 (mc1 := 0) (ms1 := 0) dX12_happens_86 cv_RX12_369 (ci := 12) (k_ob_306 cs) rfl (Nat.le_of_ble_eq_true rfl) (n1 := n - 1) (by omega) (by omega) (by omega) ?_
      refine sp_X12_canRedeem cs hA (BA_bn hb) hT (by first | omega | (have := hr (by omega); omega)) (by omega) (fun J86 r86 hF86 hr86 => ?_)
      refine x_if_eq 140 dX12_happens_89 (by decide) (by omega) (fun w89 => ?_) (fun w89 => ?_)
      · exact x_return dX12_happens_140 rfl (by omega) (by omega) (by
    first
      | (exfalso; omega)
      | (rw [if_pos (show 4 ≤ x % 6 by omega), if_pos (by omega)] at hp
         exact hp _ a137 f137)
      | (rw [if_pos (show 4 ≤ x % 6 by omega), if_neg (by omega)] at hp
         exact hp _ hA FP.rf)
      | (rw [if_neg (show ¬ 4 ≤ x % 6 by omega), if_pos (show x % 6 = 3 by omega), if_pos (by omega)] at hp
         exact hp _ a119 (F7.r f119).p)
      | (rw [if_neg (show ¬ 4 ≤ x % 6 by omega), if_pos (show x % 6 = 3 by omega), if_neg (by omega)] at hp
         exact hp _ hA FP.rf)
      | (rw [if_neg (show ¬ 4 ≤ x % 6 by omega), if_neg (show ¬ x % 6 = 3 by omega), if_neg (show ¬ 0 < A 0 by omega)] at hp
         first | exact hp _ hA FP.rf | exact hp _ (by rw [hF86 307 (by omega) (by omega) (by omega)]; exact hA) (FR.p (FD.r hF86)))
      | (have hq := hr (by omega)
         rw [if_neg (show ¬ 4 ≤ x % 6 by omega), if_neg (show ¬ x % 6 = 3 by omega), if_pos (show 0 < A 0 by omega), if_pos (show x % 6 = 0 by omega), if_pos (by omega)] at hp
         exact hp _ a78 (F7.r f78).p)
      | (have hq := hr (by omega)
         rw [if_neg (show ¬ 4 ≤ x % 6 by omega), if_neg (show ¬ x % 6 = 3 by omega), if_pos (show 0 < A 0 by omega), if_pos (show x % 6 = 0 by omega), if_neg (by omega)] at hp
         exact hp _ hA FP.rf)
      | (have hq := hr (by omega)
         have hv : priceP A tx (x / 6 % A 0) = duesP A tx (A 2) (x / 6 % A 0).toNat 0 (A 9) := by rw [hpr, if_pos (by omega)]
         rw [if_neg (show ¬ 4 ≤ x % 6 by omega), if_neg (show ¬ x % 6 = 3 by omega), if_pos (show 0 < A 0 by omega), if_neg (show ¬ x % 6 = 0 by omega), hv, if_neg (by omega)] at hp
         exact hp _ a94 (FR.p (FR.tr (FD.r hF86) f94)))
      | (have hq := hr (by omega)
         have hv : priceP A tx (x / 6 % A 0) = -1 := by rw [hpr, if_neg (by omega)]
         rw [if_neg (show ¬ 4 ≤ x % 6 by omega), if_neg (show ¬ x % 6 = 3 by omega), if_pos (show 0 < A 0 by omega), if_neg (show ¬ x % 6 = 0 by omega), hv, if_pos rfl] at hp
         exact hp _ (by rw [hF86 307 (by omega) (by omega) (by omega)]; exact hA) (FR.p (FD.r hF86))))
      · refine x_aload_n dX12_happens_92 rfl ?_
        refine x_iload_n dX12_happens_93 rfl ?_
        refine x_callV1 (mc1 := 0) (ms1 := 0) dX12_happens_94 cv_RX12_372 (ci := 12) (k_ob_306 cs) rfl (Nat.le_of_ble_eq_true rfl) (n1 := n - 1) (by omega) (by omega) (by omega) ?_
        refine sp_X12_redeemNow cs (A := A) (by rw [hF86 307 (by omega) (by omega) (by omega)]; exact hA) (BA_bn hb) (by rw [hF86 309 (by omega) (by omega) (by omega)]; exact hT) (by omega) (by rw [hF86 306 (by omega) (by omega) (by omega)]; exact hz) (by omega) (by omega) (fun J94 a94 f94 => ?_)
        refine x_if_ge 140 dX12_happens_97 (by decide) (by omega) (fun w97 => ?_) (fun w97 => ?_)
        · exact x_return dX12_happens_140 rfl (by omega) (by omega) (by
    first
      | (exfalso; omega)
      | (rw [if_pos (show 4 ≤ x % 6 by omega), if_pos (by omega)] at hp
         exact hp _ a137 f137)
      | (rw [if_pos (show 4 ≤ x % 6 by omega), if_neg (by omega)] at hp
         exact hp _ hA FP.rf)
      | (rw [if_neg (show ¬ 4 ≤ x % 6 by omega), if_pos (show x % 6 = 3 by omega), if_pos (by omega)] at hp
         exact hp _ a119 (F7.r f119).p)
      | (rw [if_neg (show ¬ 4 ≤ x % 6 by omega), if_pos (show x % 6 = 3 by omega), if_neg (by omega)] at hp
         exact hp _ hA FP.rf)
      | (rw [if_neg (show ¬ 4 ≤ x % 6 by omega), if_neg (show ¬ x % 6 = 3 by omega), if_neg (show ¬ 0 < A 0 by omega)] at hp
         first | exact hp _ hA FP.rf | exact hp _ (by rw [hF86 307 (by omega) (by omega) (by omega)]; exact hA) (FR.p (FD.r hF86)))
      | (have hq := hr (by omega)
         rw [if_neg (show ¬ 4 ≤ x % 6 by omega), if_neg (show ¬ x % 6 = 3 by omega), if_pos (show 0 < A 0 by omega), if_pos (show x % 6 = 0 by omega), if_pos (by omega)] at hp
         exact hp _ a78 (F7.r f78).p)
      | (have hq := hr (by omega)
         rw [if_neg (show ¬ 4 ≤ x % 6 by omega), if_neg (show ¬ x % 6 = 3 by omega), if_pos (show 0 < A 0 by omega), if_pos (show x % 6 = 0 by omega), if_neg (by omega)] at hp
         exact hp _ hA FP.rf)
      | (have hq := hr (by omega)
         have hv : priceP A tx (x / 6 % A 0) = duesP A tx (A 2) (x / 6 % A 0).toNat 0 (A 9) := by rw [hpr, if_pos (by omega)]
         rw [if_neg (show ¬ 4 ≤ x % 6 by omega), if_neg (show ¬ x % 6 = 3 by omega), if_pos (show 0 < A 0 by omega), if_neg (show ¬ x % 6 = 0 by omega), hv, if_neg (by omega)] at hp
         exact hp _ a94 (FR.p (FR.tr (FD.r hF86) f94)))
      | (have hq := hr (by omega)
         have hv : priceP A tx (x / 6 % A 0) = -1 := by rw [hpr, if_neg (by omega)]
         rw [if_neg (show ¬ 4 ≤ x % 6 by omega), if_neg (show ¬ x % 6 = 3 by omega), if_pos (show 0 < A 0 by omega), if_neg (show ¬ x % 6 = 0 by omega), hv, if_pos rfl] at hp
         exact hp _ (by rw [hF86 307 (by omega) (by omega) (by omega)]; exact hA) (FR.p (FD.r hF86))))
        · exfalso; omega
    by_cases t39_2 : x % 6 = 2
    · refine x_tableIn 84 dX12_happens_39 (by omega) (by omega) (by rw [t39_2]; rfl) (by decide) ?_
      refine x_aload_n dX12_happens_84 rfl ?_
      refine x_iload_n dX12_happens_85 rfl ?_
      refine x_callV1 (mc1 := 0) (ms1 := 0) dX12_happens_86 cv_RX12_369 (ci := 12) (k_ob_306 cs) rfl (Nat.le_of_ble_eq_true rfl) (n1 := n - 1) (by omega) (by omega) (by omega) ?_
      refine sp_X12_canRedeem cs hA (BA_bn hb) hT (by first | omega | (have := hr (by omega); omega)) (by omega) (fun J86 r86 hF86 hr86 => ?_)
      refine x_if_eq 140 dX12_happens_89 (by decide) (by omega) (fun w89 => ?_) (fun w89 => ?_)
      · exact x_return dX12_happens_140 rfl (by omega) (by omega) (by
    first
      | (exfalso; omega)
      | (rw [if_pos (show 4 ≤ x % 6 by omega), if_pos (by omega)] at hp
         exact hp _ a137 f137)
      | (rw [if_pos (show 4 ≤ x % 6 by omega), if_neg (by omega)] at hp
         exact hp _ hA FP.rf)
      | (rw [if_neg (show ¬ 4 ≤ x % 6 by omega), if_pos (show x % 6 = 3 by omega), if_pos (by omega)] at hp
         exact hp _ a119 (F7.r f119).p)
      | (rw [if_neg (show ¬ 4 ≤ x % 6 by omega), if_pos (show x % 6 = 3 by omega), if_neg (by omega)] at hp
         exact hp _ hA FP.rf)
      | (rw [if_neg (show ¬ 4 ≤ x % 6 by omega), if_neg (show ¬ x % 6 = 3 by omega), if_neg (show ¬ 0 < A 0 by omega)] at hp
         first | exact hp _ hA FP.rf | exact hp _ (by rw [hF86 307 (by omega) (by omega) (by omega)]; exact hA) (FR.p (FD.r hF86)))
      | (have hq := hr (by omega)
         rw [if_neg (show ¬ 4 ≤ x % 6 by omega), if_neg (show ¬ x % 6 = 3 by omega), if_pos (show 0 < A 0 by omega), if_pos (show x % 6 = 0 by omega), if_pos (by omega)] at hp
         exact hp _ a78 (F7.r f78).p)
      | (have hq := hr (by omega)
         rw [if_neg (show ¬ 4 ≤ x % 6 by omega), if_neg (show ¬ x % 6 = 3 by omega), if_pos (show 0 < A 0 by omega), if_pos (show x % 6 = 0 by omega), if_neg (by omega)] at hp
         exact hp _ hA FP.rf)
      | (have hq := hr (by omega)
         have hv : priceP A tx (x / 6 % A 0) = duesP A tx (A 2) (x / 6 % A 0).toNat 0 (A 9) := by rw [hpr, if_pos (by omega)]
         rw [if_neg (show ¬ 4 ≤ x % 6 by omega), if_neg (show ¬ x % 6 = 3 by omega), if_pos (show 0 < A 0 by omega), if_neg (show ¬ x % 6 = 0 by omega), hv, if_neg (by omega)] at hp
         exact hp _ a94 (FR.p (FR.tr (FD.r hF86) f94)))
      | (have hq := hr (by omega)
         have hv : priceP A tx (x / 6 % A 0) = -1 := by rw [hpr, if_neg (by omega)]
         rw [if_neg (show ¬ 4 ≤ x % 6 by omega), if_neg (show ¬ x % 6 = 3 by omega), if_pos (show 0 < A 0 by omega), if_neg (show ¬ x % 6 = 0 by omega), hv, if_pos rfl] at hp
         exact hp _ (by rw [hF86 307 (by omega) (by omega) (by omega)]; exact hA) (FR.p (FD.r hF86))))
      · refine x_aload_n dX12_happens_92 rfl ?_
        refine x_iload_n dX12_happens_93 rfl ?_
        refine x_callV1 (mc1 := 0) (ms1 := 0) dX12_happens_94 cv_RX12_372 (ci := 12) (k_ob_306 cs) rfl (Nat.le_of_ble_eq_true rfl) (n1 := n - 1) (by omega) (by omega) (by omega) ?_
        refine sp_X12_redeemNow cs (A := A) (by rw [hF86 307 (by omega) (by omega) (by omega)]; exact hA) (BA_bn hb) (by rw [hF86 309 (by omega) (by omega) (by omega)]; exact hT) (by omega) (by rw [hF86 306 (by omega) (by omega) (by omega)]; exact hz) (by omega) (by omega) (fun J94 a94 f94 => ?_)
        refine x_if_ge 140 dX12_happens_97 (by decide) (by omega) (fun w97 => ?_) (fun w97 => ?_)
        · exact x_return dX12_happens_140 rfl (by omega) (by omega) (by
    first
      | (exfalso; omega)
      | (rw [if_pos (show 4 ≤ x % 6 by omega), if_pos (by omega)] at hp
         exact hp _ a137 f137)
      | (rw [if_pos (show 4 ≤ x % 6 by omega), if_neg (by omega)] at hp
         exact hp _ hA FP.rf)
      | (rw [if_neg (show ¬ 4 ≤ x % 6 by omega), if_pos (show x % 6 = 3 by omega), if_pos (by omega)] at hp
         exact hp _ a119 (F7.r f119).p)
      | (rw [if_neg (show ¬ 4 ≤ x % 6 by omega), if_pos (show x % 6 = 3 by omega), if_neg (by omega)] at hp
         exact hp _ hA FP.rf)
      | (rw [if_neg (show ¬ 4 ≤ x % 6 by omega), if_neg (show ¬ x % 6 = 3 by omega), if_neg (show ¬ 0 < A 0 by omega)] at hp
         first | exact hp _ hA FP.rf | exact hp _ (by rw [hF86 307 (by omega) (by omega) (by omega)]; exact hA) (FR.p (FD.r hF86)))
      | (have hq := hr (by omega)
         rw [if_neg (show ¬ 4 ≤ x % 6 by omega), if_neg (show ¬ x % 6 = 3 by omega), if_pos (show 0 < A 0 by omega), if_pos (show x % 6 = 0 by omega), if_pos (by omega)] at hp
         exact hp _ a78 (F7.r f78).p)
      | (have hq := hr (by omega)
         rw [if_neg (show ¬ 4 ≤ x % 6 by omega), if_neg (show ¬ x % 6 = 3 by omega), if_pos (show 0 < A 0 by omega), if_pos (show x % 6 = 0 by omega), if_neg (by omega)] at hp
         exact hp _ hA FP.rf)
      | (have hq := hr (by omega)
         have hv : priceP A tx (x / 6 % A 0) = duesP A tx (A 2) (x / 6 % A 0).toNat 0 (A 9) := by rw [hpr, if_pos (by omega)]
         rw [if_neg (show ¬ 4 ≤ x % 6 by omega), if_neg (show ¬ x % 6 = 3 by omega), if_pos (show 0 < A 0 by omega), if_neg (show ¬ x % 6 = 0 by omega), hv, if_neg (by omega)] at hp
         exact hp _ a94 (FR.p (FR.tr (FD.r hF86) f94)))
      | (have hq := hr (by omega)
         have hv : priceP A tx (x / 6 % A 0) = -1 := by rw [hpr, if_neg (by omega)]
         rw [if_neg (show ¬ 4 ≤ x % 6 by omega), if_neg (show ¬ x % 6 = 3 by omega), if_pos (show 0 < A 0 by omega), if_neg (show ¬ x % 6 = 0 by omega), hv, if_pos rfl] at hp
         exact hp _ (by rw [hF86 307 (by omega) (by omega) (by omega)]; exact hA) (FR.p (FD.r hF86))))
        · exfalso; omega
    by_cases t39_3 : x % 6 = 3
    · refine x_tableIn 101 dX12_happens_39 (by omega) (by omega) (by rw [t39_3]; rfl) (by decide) ?_
      refine x_aload_n dX12_happens_101 rfl ?_
      refine x_iload_n dX12_happens_102 rfl ?_
      refine x_callV1 (mc1 := 0) (ms1 := 0) dX12_happens_103 cv_RX12_375 (ci := 12) (k_ob_306 cs) rfl (Nat.le_of_ble_eq_true rfl) (n1 := n - 1) (by omega) (by omega) (by omega) ?_
      refine sp_X12_canEarn cs hA hb (by omega) (by omega) (fun r103 hr103 => ?_)
      refine x_if_eq 140 dX12_happens_106 (by decide) (by omega) (fun w106 => ?_) (fun w106 => ?_)
      · exact x_return dX12_happens_140 rfl (by omega) (by omega) (by
    first
      | (exfalso; omega)
      | (rw [if_pos (show 4 ≤ x % 6 by omega), if_pos (by omega)] at hp
         exact hp _ a137 f137)
      | (rw [if_pos (show 4 ≤ x % 6 by omega), if_neg (by omega)] at hp
         exact hp _ hA FP.rf)
      | (rw [if_neg (show ¬ 4 ≤ x % 6 by omega), if_pos (show x % 6 = 3 by omega), if_pos (by omega)] at hp
         exact hp _ a119 (F7.r f119).p)
      | (rw [if_neg (show ¬ 4 ≤ x % 6 by omega), if_pos (show x % 6 = 3 by omega), if_neg (by omega)] at hp
         exact hp _ hA FP.rf)
      | (rw [if_neg (show ¬ 4 ≤ x % 6 by omega), if_neg (show ¬ x % 6 = 3 by omega), if_neg (show ¬ 0 < A 0 by omega)] at hp
         first | exact hp _ hA FP.rf | exact hp _ (by rw [hF86 307 (by omega) (by omega) (by omega)]; exact hA) (FR.p (FD.r hF86)))
      | (have hq := hr (by omega)
         rw [if_neg (show ¬ 4 ≤ x % 6 by omega), if_neg (show ¬ x % 6 = 3 by omega), if_pos (show 0 < A 0 by omega), if_pos (show x % 6 = 0 by omega), if_pos (by omega)] at hp
         exact hp _ a78 (F7.r f78).p)
      | (have hq := hr (by omega)
         rw [if_neg (show ¬ 4 ≤ x % 6 by omega), if_neg (show ¬ x % 6 = 3 by omega), if_pos (show 0 < A 0 by omega), if_pos (show x % 6 = 0 by omega), if_neg (by omega)] at hp
         exact hp _ hA FP.rf)
      | (have hq := hr (by omega)
         have hv : priceP A tx (x / 6 % A 0) = duesP A tx (A 2) (x / 6 % A 0).toNat 0 (A 9) := by rw [hpr, if_pos (by omega)]
         rw [if_neg (show ¬ 4 ≤ x % 6 by omega), if_neg (show ¬ x % 6 = 3 by omega), if_pos (show 0 < A 0 by omega), if_neg (show ¬ x % 6 = 0 by omega), hv, if_neg (by omega)] at hp
         exact hp _ a94 (FR.p (FR.tr (FD.r hF86) f94)))
      | (have hq := hr (by omega)
         have hv : priceP A tx (x / 6 % A 0) = -1 := by rw [hpr, if_neg (by omega)]
         rw [if_neg (show ¬ 4 ≤ x % 6 by omega), if_neg (show ¬ x % 6 = 3 by omega), if_pos (show 0 < A 0 by omega), if_neg (show ¬ x % 6 = 0 by omega), hv, if_pos rfl] at hp
         exact hp _ (by rw [hF86 307 (by omega) (by omega) (by omega)]; exact hA) (FR.p (FD.r hF86))))
      · refine x_aload_n dX12_happens_109 rfl ?_
        refine x_getR (b := 307) dX12_happens_110 gf_RX12_7 (k_ob_306 cs) (fun _ _ => rfl) (k_r_306_0 cs) ?_
        refine x_bipush dX12_happens_113 (by decide) ?_
        refine x_dup2 dX12_happens_115 rfl rfl ?_
        refine x_ald7 (kk := 9) (v := A 9) dX12_happens_116 cs (by omega) (by omega) (by rw [hA]; repeat (first | rfl | rw [upA_s] | rw [upA_o (by omega)])) ?_
        refine x_iload_n dX12_happens_117 rfl ?_
        refine x_iadd dX12_happens_118 ?_
        refine x_ast7 (kk := 9) dX12_happens_119 cs (by omega) (by omega) hA (fun J119 a119 f119 => ?_)
        refine x_goto 140 dX12_happens_120 (by decide) ?_
        exact x_return dX12_happens_140 rfl (by omega) (by omega) (by
    first
      | (exfalso; omega)
      | (rw [if_pos (show 4 ≤ x % 6 by omega), if_pos (by omega)] at hp
         exact hp _ a137 f137)
      | (rw [if_pos (show 4 ≤ x % 6 by omega), if_neg (by omega)] at hp
         exact hp _ hA FP.rf)
      | (rw [if_neg (show ¬ 4 ≤ x % 6 by omega), if_pos (show x % 6 = 3 by omega), if_pos (by omega)] at hp
         exact hp _ a119 (F7.r f119).p)
      | (rw [if_neg (show ¬ 4 ≤ x % 6 by omega), if_pos (show x % 6 = 3 by omega), if_neg (by omega)] at hp
         exact hp _ hA FP.rf)
      | (rw [if_neg (show ¬ 4 ≤ x % 6 by omega), if_neg (show ¬ x % 6 = 3 by omega), if_neg (show ¬ 0 < A 0 by omega)] at hp
         first | exact hp _ hA FP.rf | exact hp _ (by rw [hF86 307 (by omega) (by omega) (by omega)]; exact hA) (FR.p (FD.r hF86)))
      | (have hq := hr (by omega)
         rw [if_neg (show ¬ 4 ≤ x % 6 by omega), if_neg (show ¬ x % 6 = 3 by omega), if_pos (show 0 < A 0 by omega), if_pos (show x % 6 = 0 by omega), if_pos (by omega)] at hp
         exact hp _ a78 (F7.r f78).p)
      | (have hq := hr (by omega)
         rw [if_neg (show ¬ 4 ≤ x % 6 by omega), if_neg (show ¬ x % 6 = 3 by omega), if_pos (show 0 < A 0 by omega), if_pos (show x % 6 = 0 by omega), if_neg (by omega)] at hp
         exact hp _ hA FP.rf)
      | (have hq := hr (by omega)
         have hv : priceP A tx (x / 6 % A 0) = duesP A tx (A 2) (x / 6 % A 0).toNat 0 (A 9) := by rw [hpr, if_pos (by omega)]
         rw [if_neg (show ¬ 4 ≤ x % 6 by omega), if_neg (show ¬ x % 6 = 3 by omega), if_pos (show 0 < A 0 by omega), if_neg (show ¬ x % 6 = 0 by omega), hv, if_neg (by omega)] at hp
         exact hp _ a94 (FR.p (FR.tr (FD.r hF86) f94)))
      | (have hq := hr (by omega)
         have hv : priceP A tx (x / 6 % A 0) = -1 := by rw [hpr, if_neg (by omega)]
         rw [if_neg (show ¬ 4 ≤ x % 6 by omega), if_neg (show ¬ x % 6 = 3 by omega), if_pos (show 0 < A 0 by omega), if_neg (show ¬ x % 6 = 0 by omega), hv, if_pos rfl] at hp
         exact hp _ (by rw [hF86 307 (by omega) (by omega) (by omega)]; exact hA) (FR.p (FD.r hF86))))
    refine x_tableOut 123 dX12_happens_39 (by omega) (by omega) (by decide) ?_
    refine x_aload_n dX12_happens_123 rfl ?_
    refine x_getR (b := 307) dX12_happens_124 gf_RX12_7 (k_ob_306 cs) (fun _ _ => rfl) (k_r_306_0 cs) ?_
    refine x_bipush dX12_happens_127 (by decide) ?_
    refine x_ald7 (kk := 7) (v := A 7) dX12_happens_129 cs (by omega) (by omega) (by rw [hA]; repeat (first | rfl | rw [upA_s] | rw [upA_o (by omega)])) ?_
    refine x_sipush dX12_happens_130 (by decide) ?_
    refine x_icmp_ge 140 dX12_happens_133 (by decide) ⟨(by omega), (by omega)⟩ (fun w133 => ?_) (fun w133 => ?_)
    · exact x_return dX12_happens_140 rfl (by omega) (by omega) (by
    first
      | (exfalso; omega)
      | (rw [if_pos (show 4 ≤ x % 6 by omega), if_pos (by omega)] at hp
         exact hp _ a137 f137)
      | (rw [if_pos (show 4 ≤ x % 6 by omega), if_neg (by omega)] at hp
         exact hp _ hA FP.rf)
      | (rw [if_neg (show ¬ 4 ≤ x % 6 by omega), if_pos (show x % 6 = 3 by omega), if_pos (by omega)] at hp
         exact hp _ a119 (F7.r f119).p)
      | (rw [if_neg (show ¬ 4 ≤ x % 6 by omega), if_pos (show x % 6 = 3 by omega), if_neg (by omega)] at hp
         exact hp _ hA FP.rf)
      | (rw [if_neg (show ¬ 4 ≤ x % 6 by omega), if_neg (show ¬ x % 6 = 3 by omega), if_neg (show ¬ 0 < A 0 by omega)] at hp
         first | exact hp _ hA FP.rf | exact hp _ (by rw [hF86 307 (by omega) (by omega) (by omega)]; exact hA) (FR.p (FD.r hF86)))
      | (have hq := hr (by omega)
         rw [if_neg (show ¬ 4 ≤ x % 6 by omega), if_neg (show ¬ x % 6 = 3 by omega), if_pos (show 0 < A 0 by omega), if_pos (show x % 6 = 0 by omega), if_pos (by omega)] at hp
         exact hp _ a78 (F7.r f78).p)
      | (have hq := hr (by omega)
         rw [if_neg (show ¬ 4 ≤ x % 6 by omega), if_neg (show ¬ x % 6 = 3 by omega), if_pos (show 0 < A 0 by omega), if_pos (show x % 6 = 0 by omega), if_neg (by omega)] at hp
         exact hp _ hA FP.rf)
      | (have hq := hr (by omega)
         have hv : priceP A tx (x / 6 % A 0) = duesP A tx (A 2) (x / 6 % A 0).toNat 0 (A 9) := by rw [hpr, if_pos (by omega)]
         rw [if_neg (show ¬ 4 ≤ x % 6 by omega), if_neg (show ¬ x % 6 = 3 by omega), if_pos (show 0 < A 0 by omega), if_neg (show ¬ x % 6 = 0 by omega), hv, if_neg (by omega)] at hp
         exact hp _ a94 (FR.p (FR.tr (FD.r hF86) f94)))
      | (have hq := hr (by omega)
         have hv : priceP A tx (x / 6 % A 0) = -1 := by rw [hpr, if_neg (by omega)]
         rw [if_neg (show ¬ 4 ≤ x % 6 by omega), if_neg (show ¬ x % 6 = 3 by omega), if_pos (show 0 < A 0 by omega), if_neg (show ¬ x % 6 = 0 by omega), hv, if_pos rfl] at hp
         exact hp _ (by rw [hF86 307 (by omega) (by omega) (by omega)]; exact hA) (FR.p (FD.r hF86))))
    · refine x_aload_n dX12_happens_136 rfl ?_
      refine x_callV0 (mc1 := 0) (ms1 := 0) dX12_happens_137 cv_RX12_378 (ci := 12) (k_ob_306 cs) rfl (Nat.le_of_ble_eq_true rfl) (n1 := n - 1) (by omega) (by omega) (by omega) ?_
      refine sp_X12_pass (z := 1) (tx := tx) cs hA (BA_bn hb) hT (by omega) ⟨hz, Or.inr rfl⟩ (by omega) (fun J137 a137 s137 f137 => ?_)
      rw [passR_1] at a137 s137
      exact x_return dX12_happens_140 rfl (by omega) (by omega) (by
    first
      | (exfalso; omega)
      | (rw [if_pos (show 4 ≤ x % 6 by omega), if_pos (by omega)] at hp
         exact hp _ a137 f137)
      | (rw [if_pos (show 4 ≤ x % 6 by omega), if_neg (by omega)] at hp
         exact hp _ hA FP.rf)
      | (rw [if_neg (show ¬ 4 ≤ x % 6 by omega), if_pos (show x % 6 = 3 by omega), if_pos (by omega)] at hp
         exact hp _ a119 (F7.r f119).p)
      | (rw [if_neg (show ¬ 4 ≤ x % 6 by omega), if_pos (show x % 6 = 3 by omega), if_neg (by omega)] at hp
         exact hp _ hA FP.rf)
      | (rw [if_neg (show ¬ 4 ≤ x % 6 by omega), if_neg (show ¬ x % 6 = 3 by omega), if_neg (show ¬ 0 < A 0 by omega)] at hp
         first | exact hp _ hA FP.rf | exact hp _ (by rw [hF86 307 (by omega) (by omega) (by omega)]; exact hA) (FR.p (FD.r hF86)))
      | (have hq := hr (by omega)
         rw [if_neg (show ¬ 4 ≤ x % 6 by omega), if_neg (show ¬ x % 6 = 3 by omega), if_pos (show 0 < A 0 by omega), if_pos (show x % 6 = 0 by omega), if_pos (by omega)] at hp
         exact hp _ a78 (F7.r f78).p)
      | (have hq := hr (by omega)
         rw [if_neg (show ¬ 4 ≤ x % 6 by omega), if_neg (show ¬ x % 6 = 3 by omega), if_pos (show 0 < A 0 by omega), if_pos (show x % 6 = 0 by omega), if_neg (by omega)] at hp
         exact hp _ hA FP.rf)
      | (have hq := hr (by omega)
         have hv : priceP A tx (x / 6 % A 0) = duesP A tx (A 2) (x / 6 % A 0).toNat 0 (A 9) := by rw [hpr, if_pos (by omega)]
         rw [if_neg (show ¬ 4 ≤ x % 6 by omega), if_neg (show ¬ x % 6 = 3 by omega), if_pos (show 0 < A 0 by omega), if_neg (show ¬ x % 6 = 0 by omega), hv, if_neg (by omega)] at hp
         exact hp _ a94 (FR.p (FR.tr (FD.r hF86) f94)))
      | (have hq := hr (by omega)
         have hv : priceP A tx (x / 6 % A 0) = -1 := by rw [hpr, if_neg (by omega)]
         rw [if_neg (show ¬ 4 ≤ x % 6 by omega), if_neg (show ¬ x % 6 = 3 by omega), if_pos (show 0 < A 0 by omega), if_neg (show ¬ x % 6 = 0 by omega), hv, if_pos rfl] at hp
         exact hp _ (by rw [hF86 307 (by omega) (by omega) (by omega)]; exact hA) (FR.p (FD.r hF86))))
  · refine x_iconst dX12_happens_9 ?_
    refine x_goto 24 dX12_happens_10 (by decide) ?_
    have hr2 := hr
    refine x_istore_n (lv2 := [(2, _), (0, _), (1, _)]) dX12_happens_24 (by decide) rfl ?_
    refine x_iconst dX12_happens_25 ?_
    refine x_iload_n dX12_happens_26 rfl ?_
    refine x_bipush dX12_happens_27 (by decide) ?_
    refine x_idiv dX12_happens_29 (by omega) ?_
    refine x_bipush dX12_happens_30 (by decide) ?_
    refine x_irem dX12_happens_32 (by omega) ?_
    refine x_iadd dX12_happens_33 ?_
    refine x_istore_n (lv2 := [(3, _), (2, _), (0, _), (1, _)]) dX12_happens_34 (by decide) rfl ?_
    refine x_iload_n dX12_happens_35 rfl ?_
    refine x_bipush dX12_happens_36 (by decide) ?_
    refine x_irem dX12_happens_38 (by omega) ?_
    by_cases t39_0 : x % 6 = 0
    · refine x_tableIn 68 dX12_happens_39 (by omega) (by omega) (by rw [t39_0]; rfl) (by decide) ?_
      refine x_aload_n dX12_happens_68 rfl ?_
      refine x_iload_n dX12_happens_69 rfl ?_
      refine x_callV1 (mc1 := 0) (ms1 := 0) dX12_happens_70 cv_RX12_360 (ci := 12) (k_ob_306 cs) rfl (Nat.le_of_ble_eq_true rfl) (n1 := n - 1) (by omega) (by omega) (by omega) ?_
      refine sp_X12_canPawn cs hA hb (by first | omega | (have := hr (by omega); omega)) (by omega) (fun r70 hr70 => ?_)
      refine x_if_eq 140 dX12_happens_73 (by decide) (by omega) (fun w73 => ?_) (fun w73 => ?_)
      · exact x_return dX12_happens_140 rfl (by omega) (by omega) (by
    first
      | (exfalso; omega)
      | (rw [if_pos (show 4 ≤ x % 6 by omega), if_pos (by omega)] at hp
         exact hp _ a137 f137)
      | (rw [if_pos (show 4 ≤ x % 6 by omega), if_neg (by omega)] at hp
         exact hp _ hA FP.rf)
      | (rw [if_neg (show ¬ 4 ≤ x % 6 by omega), if_pos (show x % 6 = 3 by omega), if_pos (by omega)] at hp
         exact hp _ a119 (F7.r f119).p)
      | (rw [if_neg (show ¬ 4 ≤ x % 6 by omega), if_pos (show x % 6 = 3 by omega), if_neg (by omega)] at hp
         exact hp _ hA FP.rf)
      | (rw [if_neg (show ¬ 4 ≤ x % 6 by omega), if_neg (show ¬ x % 6 = 3 by omega), if_neg (show ¬ 0 < A 0 by omega)] at hp
         first | exact hp _ hA FP.rf | exact hp _ (by rw [hF86 307 (by omega) (by omega) (by omega)]; exact hA) (FR.p (FD.r hF86)))
      | (have hq := hr (by omega)
         rw [if_neg (show ¬ 4 ≤ x % 6 by omega), if_neg (show ¬ x % 6 = 3 by omega), if_pos (show 0 < A 0 by omega), if_pos (show x % 6 = 0 by omega), if_pos (by omega)] at hp
         exact hp _ a78 (F7.r f78).p)
      | (have hq := hr (by omega)
         rw [if_neg (show ¬ 4 ≤ x % 6 by omega), if_neg (show ¬ x % 6 = 3 by omega), if_pos (show 0 < A 0 by omega), if_pos (show x % 6 = 0 by omega), if_neg (by omega)] at hp
         exact hp _ hA FP.rf)
      | (have hq := hr (by omega)
         have hv : priceP A tx (x / 6 % A 0) = duesP A tx (A 2) (x / 6 % A 0).toNat 0 (A 9) := by rw [hpr, if_pos (by omega)]
         rw [if_neg (show ¬ 4 ≤ x % 6 by omega), if_neg (show ¬ x % 6 = 3 by omega), if_pos (show 0 < A 0 by omega), if_neg (show ¬ x % 6 = 0 by omega), hv, if_neg (by omega)] at hp
         exact hp _ a94 (FR.p (FR.tr (FD.r hF86) f94)))
      | (have hq := hr (by omega)
         have hv : priceP A tx (x / 6 % A 0) = -1 := by rw [hpr, if_neg (by omega)]
         rw [if_neg (show ¬ 4 ≤ x % 6 by omega), if_neg (show ¬ x % 6 = 3 by omega), if_pos (show 0 < A 0 by omega), if_neg (show ¬ x % 6 = 0 by omega), hv, if_pos rfl] at hp
         exact hp _ (by rw [hF86 307 (by omega) (by omega) (by omega)]; exact hA) (FR.p (FD.r hF86))))
      · refine x_aload_n dX12_happens_76 rfl ?_
        refine x_iload_n dX12_happens_77 rfl ?_
        refine x_callV1 (mc1 := 0) (ms1 := 0) dX12_happens_78 cv_RX12_366 (ci := 12) (k_ob_306 cs) rfl (Nat.le_of_ble_eq_true rfl) (n1 := n - 1) (by omega) (by omega) (by omega) ?_
        refine sp_X12_pawnNow cs hA hb hz (by omega) (by omega) (fun J78 a78 f78 => ?_)
        refine x_goto 140 dX12_happens_81 (by decide) ?_
        exact x_return dX12_happens_140 rfl (by omega) (by omega) (by
    first
      | (exfalso; omega)
      | (rw [if_pos (show 4 ≤ x % 6 by omega), if_pos (by omega)] at hp
         exact hp _ a137 f137)
      | (rw [if_pos (show 4 ≤ x % 6 by omega), if_neg (by omega)] at hp
         exact hp _ hA FP.rf)
      | (rw [if_neg (show ¬ 4 ≤ x % 6 by omega), if_pos (show x % 6 = 3 by omega), if_pos (by omega)] at hp
         exact hp _ a119 (F7.r f119).p)
      | (rw [if_neg (show ¬ 4 ≤ x % 6 by omega), if_pos (show x % 6 = 3 by omega), if_neg (by omega)] at hp
         exact hp _ hA FP.rf)
      | (rw [if_neg (show ¬ 4 ≤ x % 6 by omega), if_neg (show ¬ x % 6 = 3 by omega), if_neg (show ¬ 0 < A 0 by omega)] at hp
         first | exact hp _ hA FP.rf | exact hp _ (by rw [hF86 307 (by omega) (by omega) (by omega)]; exact hA) (FR.p (FD.r hF86)))
      | (have hq := hr (by omega)
         rw [if_neg (show ¬ 4 ≤ x % 6 by omega), if_neg (show ¬ x % 6 = 3 by omega), if_pos (show 0 < A 0 by omega), if_pos (show x % 6 = 0 by omega), if_pos (by omega)] at hp
         exact hp _ a78 (F7.r f78).p)
      | (have hq := hr (by omega)
         rw [if_neg (show ¬ 4 ≤ x % 6 by omega), if_neg (show ¬ x % 6 = 3 by omega), if_pos (show 0 < A 0 by omega), if_pos (show x % 6 = 0 by omega), if_neg (by omega)] at hp
         exact hp _ hA FP.rf)
      | (have hq := hr (by omega)
         have hv : priceP A tx (x / 6 % A 0) = duesP A tx (A 2) (x / 6 % A 0).toNat 0 (A 9) := by rw [hpr, if_pos (by omega)]
         rw [if_neg (show ¬ 4 ≤ x % 6 by omega), if_neg (show ¬ x % 6 = 3 by omega), if_pos (show 0 < A 0 by omega), if_neg (show ¬ x % 6 = 0 by omega), hv, if_neg (by omega)] at hp
         exact hp _ a94 (FR.p (FR.tr (FD.r hF86) f94)))
      | (have hq := hr (by omega)
         have hv : priceP A tx (x / 6 % A 0) = -1 := by rw [hpr, if_neg (by omega)]
         rw [if_neg (show ¬ 4 ≤ x % 6 by omega), if_neg (show ¬ x % 6 = 3 by omega), if_pos (show 0 < A 0 by omega), if_neg (show ¬ x % 6 = 0 by omega), hv, if_pos rfl] at hp
         exact hp _ (by rw [hF86 307 (by omega) (by omega) (by omega)]; exact hA) (FR.p (FD.r hF86))))
    by_cases t39_1 : x % 6 = 1
    · refine x_tableIn 84 dX12_happens_39 (by omega) (by omega) (by rw [t39_1]; rfl) (by decide) ?_
      refine x_aload_n dX12_happens_84 rfl ?_
      refine x_iload_n dX12_happens_85 rfl ?_
      refine x_callV1 (mc1 := 0) (ms1 := 0) dX12_happens_86 cv_RX12_369 (ci := 12) (k_ob_306 cs) rfl (Nat.le_of_ble_eq_true rfl) (n1 := n - 1) (by omega) (by omega) (by omega) ?_
      refine sp_X12_canRedeem cs hA (BA_bn hb) hT (by first | omega | (have := hr (by omega); omega)) (by omega) (fun J86 r86 hF86 hr86 => ?_)
      refine x_if_eq 140 dX12_happens_89 (by decide) (by omega) (fun w89 => ?_) (fun w89 => ?_)
      · exact x_return dX12_happens_140 rfl (by omega) (by omega) (by
    first
      | (exfalso; omega)
      | (rw [if_pos (show 4 ≤ x % 6 by omega), if_pos (by omega)] at hp
         exact hp _ a137 f137)
      | (rw [if_pos (show 4 ≤ x % 6 by omega), if_neg (by omega)] at hp
         exact hp _ hA FP.rf)
      | (rw [if_neg (show ¬ 4 ≤ x % 6 by omega), if_pos (show x % 6 = 3 by omega), if_pos (by omega)] at hp
         exact hp _ a119 (F7.r f119).p)
      | (rw [if_neg (show ¬ 4 ≤ x % 6 by omega), if_pos (show x % 6 = 3 by omega), if_neg (by omega)] at hp
         exact hp _ hA FP.rf)
      | (rw [if_neg (show ¬ 4 ≤ x % 6 by omega), if_neg (show ¬ x % 6 = 3 by omega), if_neg (show ¬ 0 < A 0 by omega)] at hp
         first | exact hp _ hA FP.rf | exact hp _ (by rw [hF86 307 (by omega) (by omega) (by omega)]; exact hA) (FR.p (FD.r hF86)))
      | (have hq := hr (by omega)
         rw [if_neg (show ¬ 4 ≤ x % 6 by omega), if_neg (show ¬ x % 6 = 3 by omega), if_pos (show 0 < A 0 by omega), if_pos (show x % 6 = 0 by omega), if_pos (by omega)] at hp
         exact hp _ a78 (F7.r f78).p)
      | (have hq := hr (by omega)
         rw [if_neg (show ¬ 4 ≤ x % 6 by omega), if_neg (show ¬ x % 6 = 3 by omega), if_pos (show 0 < A 0 by omega), if_pos (show x % 6 = 0 by omega), if_neg (by omega)] at hp
         exact hp _ hA FP.rf)
      | (have hq := hr (by omega)
         have hv : priceP A tx (x / 6 % A 0) = duesP A tx (A 2) (x / 6 % A 0).toNat 0 (A 9) := by rw [hpr, if_pos (by omega)]
         rw [if_neg (show ¬ 4 ≤ x % 6 by omega), if_neg (show ¬ x % 6 = 3 by omega), if_pos (show 0 < A 0 by omega), if_neg (show ¬ x % 6 = 0 by omega), hv, if_neg (by omega)] at hp
         exact hp _ a94 (FR.p (FR.tr (FD.r hF86) f94)))
      | (have hq := hr (by omega)
         have hv : priceP A tx (x / 6 % A 0) = -1 := by rw [hpr, if_neg (by omega)]
         rw [if_neg (show ¬ 4 ≤ x % 6 by omega), if_neg (show ¬ x % 6 = 3 by omega), if_pos (show 0 < A 0 by omega), if_neg (show ¬ x % 6 = 0 by omega), hv, if_pos rfl] at hp
         exact hp _ (by rw [hF86 307 (by omega) (by omega) (by omega)]; exact hA) (FR.p (FD.r hF86))))
      · refine x_aload_n dX12_happens_92 rfl ?_
        refine x_iload_n dX12_happens_93 rfl ?_
        refine x_callV1 (mc1 := 0) (ms1 := 0) dX12_happens_94 cv_RX12_372 (ci := 12) (k_ob_306 cs) rfl (Nat.le_of_ble_eq_true rfl) (n1 := n - 1) (by omega) (by omega) (by omega) ?_
        refine sp_X12_redeemNow cs (A := A) (by rw [hF86 307 (by omega) (by omega) (by omega)]; exact hA) (BA_bn hb) (by rw [hF86 309 (by omega) (by omega) (by omega)]; exact hT) (by omega) (by rw [hF86 306 (by omega) (by omega) (by omega)]; exact hz) (by omega) (by omega) (fun J94 a94 f94 => ?_)
        refine x_if_ge 140 dX12_happens_97 (by decide) (by omega) (fun w97 => ?_) (fun w97 => ?_)
        · exact x_return dX12_happens_140 rfl (by omega) (by omega) (by
    first
      | (exfalso; omega)
      | (rw [if_pos (show 4 ≤ x % 6 by omega), if_pos (by omega)] at hp
         exact hp _ a137 f137)
      | (rw [if_pos (show 4 ≤ x % 6 by omega), if_neg (by omega)] at hp
         exact hp _ hA FP.rf)
      | (rw [if_neg (show ¬ 4 ≤ x % 6 by omega), if_pos (show x % 6 = 3 by omega), if_pos (by omega)] at hp
         exact hp _ a119 (F7.r f119).p)
      | (rw [if_neg (show ¬ 4 ≤ x % 6 by omega), if_pos (show x % 6 = 3 by omega), if_neg (by omega)] at hp
         exact hp _ hA FP.rf)
      | (rw [if_neg (show ¬ 4 ≤ x % 6 by omega), if_neg (show ¬ x % 6 = 3 by omega), if_neg (show ¬ 0 < A 0 by omega)] at hp
         first | exact hp _ hA FP.rf | exact hp _ (by rw [hF86 307 (by omega) (by omega) (by omega)]; exact hA) (FR.p (FD.r hF86)))
      | (have hq := hr (by omega)
         rw [if_neg (show ¬ 4 ≤ x % 6 by omega), if_neg (show ¬ x % 6 = 3 by omega), if_pos (show 0 < A 0 by omega), if_pos (show x % 6 = 0 by omega), if_pos (by omega)] at hp
         exact hp _ a78 (F7.r f78).p)
      | (have hq := hr (by omega)
         rw [if_neg (show ¬ 4 ≤ x % 6 by omega), if_neg (show ¬ x % 6 = 3 by omega), if_pos (show 0 < A 0 by omega), if_pos (show x % 6 = 0 by omega), if_neg (by omega)] at hp
         exact hp _ hA FP.rf)
      | (have hq := hr (by omega)
         have hv : priceP A tx (x / 6 % A 0) = duesP A tx (A 2) (x / 6 % A 0).toNat 0 (A 9) := by rw [hpr, if_pos (by omega)]
         rw [if_neg (show ¬ 4 ≤ x % 6 by omega), if_neg (show ¬ x % 6 = 3 by omega), if_pos (show 0 < A 0 by omega), if_neg (show ¬ x % 6 = 0 by omega), hv, if_neg (by omega)] at hp
         exact hp _ a94 (FR.p (FR.tr (FD.r hF86) f94)))
      | (have hq := hr (by omega)
         have hv : priceP A tx (x / 6 % A 0) = -1 := by rw [hpr, if_neg (by omega)]
         rw [if_neg (show ¬ 4 ≤ x % 6 by omega), if_neg (show ¬ x % 6 = 3 by omega), if_pos (show 0 < A 0 by omega), if_neg (show ¬ x % 6 = 0 by omega), hv, if_pos rfl] at hp
         exact hp _ (by rw [hF86 307 (by omega) (by omega) (by omega)]; exact hA) (FR.p (FD.r hF86))))
        · exfalso; omega
    by_cases t39_2 : x % 6 = 2
    · refine x_tableIn 84 dX12_happens_39 (by omega) (by omega) (by rw [t39_2]; rfl) (by decide) ?_
      refine x_aload_n dX12_happens_84 rfl ?_
      refine x_iload_n dX12_happens_85 rfl ?_
      refine x_callV1 (mc1 := 0) (ms1 := 0) dX12_happens_86 cv_RX12_369 (ci := 12) (k_ob_306 cs) rfl (Nat.le_of_ble_eq_true rfl) (n1 := n - 1) (by omega) (by omega) (by omega) ?_
      refine sp_X12_canRedeem cs hA (BA_bn hb) hT (by first | omega | (have := hr (by omega); omega)) (by omega) (fun J86 r86 hF86 hr86 => ?_)
      refine x_if_eq 140 dX12_happens_89 (by decide) (by omega) (fun w89 => ?_) (fun w89 => ?_)
      · exact x_return dX12_happens_140 rfl (by omega) (by omega) (by
    first
      | (exfalso; omega)
      | (rw [if_pos (show 4 ≤ x % 6 by omega), if_pos (by omega)] at hp
         exact hp _ a137 f137)
      | (rw [if_pos (show 4 ≤ x % 6 by omega), if_neg (by omega)] at hp
         exact hp _ hA FP.rf)
      | (rw [if_neg (show ¬ 4 ≤ x % 6 by omega), if_pos (show x % 6 = 3 by omega), if_pos (by omega)] at hp
         exact hp _ a119 (F7.r f119).p)
      | (rw [if_neg (show ¬ 4 ≤ x % 6 by omega), if_pos (show x % 6 = 3 by omega), if_neg (by omega)] at hp
         exact hp _ hA FP.rf)
      | (rw [if_neg (show ¬ 4 ≤ x % 6 by omega), if_neg (show ¬ x % 6 = 3 by omega), if_neg (show ¬ 0 < A 0 by omega)] at hp
         first | exact hp _ hA FP.rf | exact hp _ (by rw [hF86 307 (by omega) (by omega) (by omega)]; exact hA) (FR.p (FD.r hF86)))
      | (have hq := hr (by omega)
         rw [if_neg (show ¬ 4 ≤ x % 6 by omega), if_neg (show ¬ x % 6 = 3 by omega), if_pos (show 0 < A 0 by omega), if_pos (show x % 6 = 0 by omega), if_pos (by omega)] at hp
         exact hp _ a78 (F7.r f78).p)
      | (have hq := hr (by omega)
         rw [if_neg (show ¬ 4 ≤ x % 6 by omega), if_neg (show ¬ x % 6 = 3 by omega), if_pos (show 0 < A 0 by omega), if_pos (show x % 6 = 0 by omega), if_neg (by omega)] at hp
         exact hp _ hA FP.rf)
      | (have hq := hr (by omega)
         have hv : priceP A tx (x / 6 % A 0) = duesP A tx (A 2) (x / 6 % A 0).toNat 0 (A 9) := by rw [hpr, if_pos (by omega)]
         rw [if_neg (show ¬ 4 ≤ x % 6 by omega), if_neg (show ¬ x % 6 = 3 by omega), if_pos (show 0 < A 0 by omega), if_neg (show ¬ x % 6 = 0 by omega), hv, if_neg (by omega)] at hp
         exact hp _ a94 (FR.p (FR.tr (FD.r hF86) f94)))
      | (have hq := hr (by omega)
         have hv : priceP A tx (x / 6 % A 0) = -1 := by rw [hpr, if_neg (by omega)]
         rw [if_neg (show ¬ 4 ≤ x % 6 by omega), if_neg (show ¬ x % 6 = 3 by omega), if_pos (show 0 < A 0 by omega), if_neg (show ¬ x % 6 = 0 by omega), hv, if_pos rfl] at hp
         exact hp _ (by rw [hF86 307 (by omega) (by omega) (by omega)]; exact hA) (FR.p (FD.r hF86))))
      · refine x_aload_n dX12_happens_92 rfl ?_
        refine x_iload_n dX12_happens_93 rfl ?_
        refine x_callV1 (mc1 := 0) (ms1 := 0) dX12_happens_94 cv_RX12_372 (ci := 12) (k_ob_306 cs) rfl (Nat.le_of_ble_eq_true rfl) (n1 := n - 1) (by omega) (by omega) (by omega) ?_
        refine sp_X12_redeemNow cs (A := A) (by rw [hF86 307 (by omega) (by omega) (by omega)]; exact hA) (BA_bn hb) (by rw [hF86 309 (by omega) (by omega) (by omega)]; exact hT) (by omega) (by rw [hF86 306 (by omega) (by omega) (by omega)]; exact hz) (by omega) (by omega) (fun J94 a94 f94 => ?_)
        refine x_if_ge 140 dX12_happens_97 (by decide) (by omega) (fun w97 => ?_) (fun w97 => ?_)
        · exact x_return dX12_happens_140 rfl (by omega) (by omega) (by
    first
      | (exfalso; omega)
      | (rw [if_pos (show 4 ≤ x % 6 by omega), if_pos (by omega)] at hp
         exact hp _ a137 f137)
      | (rw [if_pos (show 4 ≤ x % 6 by omega), if_neg (by omega)] at hp
         exact hp _ hA FP.rf)
      | (rw [if_neg (show ¬ 4 ≤ x % 6 by omega), if_pos (show x % 6 = 3 by omega), if_pos (by omega)] at hp
         exact hp _ a119 (F7.r f119).p)
      | (rw [if_neg (show ¬ 4 ≤ x % 6 by omega), if_pos (show x % 6 = 3 by omega), if_neg (by omega)] at hp
         exact hp _ hA FP.rf)
      | (rw [if_neg (show ¬ 4 ≤ x % 6 by omega), if_neg (show ¬ x % 6 = 3 by omega), if_neg (show ¬ 0 < A 0 by omega)] at hp
         first | exact hp _ hA FP.rf | exact hp _ (by rw [hF86 307 (by omega) (by omega) (by omega)]; exact hA) (FR.p (FD.r hF86)))
      | (have hq := hr (by omega)
         rw [if_neg (show ¬ 4 ≤ x % 6 by omega), if_neg (show ¬ x % 6 = 3 by omega), if_pos (show 0 < A 0 by omega), if_pos (show x % 6 = 0 by omega), if_pos (by omega)] at hp
         exact hp _ a78 (F7.r f78).p)
      | (have hq := hr (by omega)
         rw [if_neg (show ¬ 4 ≤ x % 6 by omega), if_neg (show ¬ x % 6 = 3 by omega), if_pos (show 0 < A 0 by omega), if_pos (show x % 6 = 0 by omega), if_neg (by omega)] at hp
         exact hp _ hA FP.rf)
      | (have hq := hr (by omega)
         have hv : priceP A tx (x / 6 % A 0) = duesP A tx (A 2) (x / 6 % A 0).toNat 0 (A 9) := by rw [hpr, if_pos (by omega)]
         rw [if_neg (show ¬ 4 ≤ x % 6 by omega), if_neg (show ¬ x % 6 = 3 by omega), if_pos (show 0 < A 0 by omega), if_neg (show ¬ x % 6 = 0 by omega), hv, if_neg (by omega)] at hp
         exact hp _ a94 (FR.p (FR.tr (FD.r hF86) f94)))
      | (have hq := hr (by omega)
         have hv : priceP A tx (x / 6 % A 0) = -1 := by rw [hpr, if_neg (by omega)]
         rw [if_neg (show ¬ 4 ≤ x % 6 by omega), if_neg (show ¬ x % 6 = 3 by omega), if_pos (show 0 < A 0 by omega), if_neg (show ¬ x % 6 = 0 by omega), hv, if_pos rfl] at hp
         exact hp _ (by rw [hF86 307 (by omega) (by omega) (by omega)]; exact hA) (FR.p (FD.r hF86))))
        · exfalso; omega
    by_cases t39_3 : x % 6 = 3
    · refine x_tableIn 101 dX12_happens_39 (by omega) (by omega) (by rw [t39_3]; rfl) (by decide) ?_
      refine x_aload_n dX12_happens_101 rfl ?_
      refine x_iload_n dX12_happens_102 rfl ?_
      refine x_callV1 (mc1 := 0) (ms1 := 0) dX12_happens_103 cv_RX12_375 (ci := 12) (k_ob_306 cs) rfl (Nat.le_of_ble_eq_true rfl) (n1 := n - 1) (by omega) (by omega) (by omega) ?_
      refine sp_X12_canEarn cs hA hb (by omega) (by omega) (fun r103 hr103 => ?_)
      refine x_if_eq 140 dX12_happens_106 (by decide) (by omega) (fun w106 => ?_) (fun w106 => ?_)
      · exact x_return dX12_happens_140 rfl (by omega) (by omega) (by
    first
      | (exfalso; omega)
      | (rw [if_pos (show 4 ≤ x % 6 by omega), if_pos (by omega)] at hp
         exact hp _ a137 f137)
      | (rw [if_pos (show 4 ≤ x % 6 by omega), if_neg (by omega)] at hp
         exact hp _ hA FP.rf)
      | (rw [if_neg (show ¬ 4 ≤ x % 6 by omega), if_pos (show x % 6 = 3 by omega), if_pos (by omega)] at hp
         exact hp _ a119 (F7.r f119).p)
      | (rw [if_neg (show ¬ 4 ≤ x % 6 by omega), if_pos (show x % 6 = 3 by omega), if_neg (by omega)] at hp
         exact hp _ hA FP.rf)
      | (rw [if_neg (show ¬ 4 ≤ x % 6 by omega), if_neg (show ¬ x % 6 = 3 by omega), if_neg (show ¬ 0 < A 0 by omega)] at hp
         first | exact hp _ hA FP.rf | exact hp _ (by rw [hF86 307 (by omega) (by omega) (by omega)]; exact hA) (FR.p (FD.r hF86)))
      | (have hq := hr (by omega)
         rw [if_neg (show ¬ 4 ≤ x % 6 by omega), if_neg (show ¬ x % 6 = 3 by omega), if_pos (show 0 < A 0 by omega), if_pos (show x % 6 = 0 by omega), if_pos (by omega)] at hp
         exact hp _ a78 (F7.r f78).p)
      | (have hq := hr (by omega)
         rw [if_neg (show ¬ 4 ≤ x % 6 by omega), if_neg (show ¬ x % 6 = 3 by omega), if_pos (show 0 < A 0 by omega), if_pos (show x % 6 = 0 by omega), if_neg (by omega)] at hp
         exact hp _ hA FP.rf)
      | (have hq := hr (by omega)
         have hv : priceP A tx (x / 6 % A 0) = duesP A tx (A 2) (x / 6 % A 0).toNat 0 (A 9) := by rw [hpr, if_pos (by omega)]
         rw [if_neg (show ¬ 4 ≤ x % 6 by omega), if_neg (show ¬ x % 6 = 3 by omega), if_pos (show 0 < A 0 by omega), if_neg (show ¬ x % 6 = 0 by omega), hv, if_neg (by omega)] at hp
         exact hp _ a94 (FR.p (FR.tr (FD.r hF86) f94)))
      | (have hq := hr (by omega)
         have hv : priceP A tx (x / 6 % A 0) = -1 := by rw [hpr, if_neg (by omega)]
         rw [if_neg (show ¬ 4 ≤ x % 6 by omega), if_neg (show ¬ x % 6 = 3 by omega), if_pos (show 0 < A 0 by omega), if_neg (show ¬ x % 6 = 0 by omega), hv, if_pos rfl] at hp
         exact hp _ (by rw [hF86 307 (by omega) (by omega) (by omega)]; exact hA) (FR.p (FD.r hF86))))
      · refine x_aload_n dX12_happens_109 rfl ?_
        refine x_getR (b := 307) dX12_happens_110 gf_RX12_7 (k_ob_306 cs) (fun _ _ => rfl) (k_r_306_0 cs) ?_
        refine x_bipush dX12_happens_113 (by decide) ?_
        refine x_dup2 dX12_happens_115 rfl rfl ?_
        refine x_ald7 (kk := 9) (v := A 9) dX12_happens_116 cs (by omega) (by omega) (by rw [hA]; repeat (first | rfl | rw [upA_s] | rw [upA_o (by omega)])) ?_
        refine x_iload_n dX12_happens_117 rfl ?_
        refine x_iadd dX12_happens_118 ?_
        refine x_ast7 (kk := 9) dX12_happens_119 cs (by omega) (by omega) hA (fun J119 a119 f119 => ?_)
        refine x_goto 140 dX12_happens_120 (by decide) ?_
        exact x_return dX12_happens_140 rfl (by omega) (by omega) (by
    first
      | (exfalso; omega)
      | (rw [if_pos (show 4 ≤ x % 6 by omega), if_pos (by omega)] at hp
         exact hp _ a137 f137)
      | (rw [if_pos (show 4 ≤ x % 6 by omega), if_neg (by omega)] at hp
         exact hp _ hA FP.rf)
      | (rw [if_neg (show ¬ 4 ≤ x % 6 by omega), if_pos (show x % 6 = 3 by omega), if_pos (by omega)] at hp
         exact hp _ a119 (F7.r f119).p)
      | (rw [if_neg (show ¬ 4 ≤ x % 6 by omega), if_pos (show x % 6 = 3 by omega), if_neg (by omega)] at hp
         exact hp _ hA FP.rf)
      | (rw [if_neg (show ¬ 4 ≤ x % 6 by omega), if_neg (show ¬ x % 6 = 3 by omega), if_neg (show ¬ 0 < A 0 by omega)] at hp
         first | exact hp _ hA FP.rf | exact hp _ (by rw [hF86 307 (by omega) (by omega) (by omega)]; exact hA) (FR.p (FD.r hF86)))
      | (have hq := hr (by omega)
         rw [if_neg (show ¬ 4 ≤ x % 6 by omega), if_neg (show ¬ x % 6 = 3 by omega), if_pos (show 0 < A 0 by omega), if_pos (show x % 6 = 0 by omega), if_pos (by omega)] at hp
         exact hp _ a78 (F7.r f78).p)
      | (have hq := hr (by omega)
         rw [if_neg (show ¬ 4 ≤ x % 6 by omega), if_neg (show ¬ x % 6 = 3 by omega), if_pos (show 0 < A 0 by omega), if_pos (show x % 6 = 0 by omega), if_neg (by omega)] at hp
         exact hp _ hA FP.rf)
      | (have hq := hr (by omega)
         have hv : priceP A tx (x / 6 % A 0) = duesP A tx (A 2) (x / 6 % A 0).toNat 0 (A 9) := by rw [hpr, if_pos (by omega)]
         rw [if_neg (show ¬ 4 ≤ x % 6 by omega), if_neg (show ¬ x % 6 = 3 by omega), if_pos (show 0 < A 0 by omega), if_neg (show ¬ x % 6 = 0 by omega), hv, if_neg (by omega)] at hp
         exact hp _ a94 (FR.p (FR.tr (FD.r hF86) f94)))
      | (have hq := hr (by omega)
         have hv : priceP A tx (x / 6 % A 0) = -1 := by rw [hpr, if_neg (by omega)]
         rw [if_neg (show ¬ 4 ≤ x % 6 by omega), if_neg (show ¬ x % 6 = 3 by omega), if_pos (show 0 < A 0 by omega), if_neg (show ¬ x % 6 = 0 by omega), hv, if_pos rfl] at hp
         exact hp _ (by rw [hF86 307 (by omega) (by omega) (by omega)]; exact hA) (FR.p (FD.r hF86))))
    refine x_tableOut 123 dX12_happens_39 (by omega) (by omega) (by decide) ?_
    refine x_aload_n dX12_happens_123 rfl ?_
    refine x_getR (b := 307) dX12_happens_124 gf_RX12_7 (k_ob_306 cs) (fun _ _ => rfl) (k_r_306_0 cs) ?_
    refine x_bipush dX12_happens_127 (by decide) ?_
    refine x_ald7 (kk := 7) (v := A 7) dX12_happens_129 cs (by omega) (by omega) (by rw [hA]; repeat (first | rfl | rw [upA_s] | rw [upA_o (by omega)])) ?_
    refine x_sipush dX12_happens_130 (by decide) ?_
    refine x_icmp_ge 140 dX12_happens_133 (by decide) ⟨(by omega), (by omega)⟩ (fun w133 => ?_) (fun w133 => ?_)
    · exact x_return dX12_happens_140 rfl (by omega) (by omega) (by
    first
      | (exfalso; omega)
      | (rw [if_pos (show 4 ≤ x % 6 by omega), if_pos (by omega)] at hp
         exact hp _ a137 f137)
      | (rw [if_pos (show 4 ≤ x % 6 by omega), if_neg (by omega)] at hp
         exact hp _ hA FP.rf)
      | (rw [if_neg (show ¬ 4 ≤ x % 6 by omega), if_pos (show x % 6 = 3 by omega), if_pos (by omega)] at hp
         exact hp _ a119 (F7.r f119).p)
      | (rw [if_neg (show ¬ 4 ≤ x % 6 by omega), if_pos (show x % 6 = 3 by omega), if_neg (by omega)] at hp
         exact hp _ hA FP.rf)
      | (rw [if_neg (show ¬ 4 ≤ x % 6 by omega), if_neg (show ¬ x % 6 = 3 by omega), if_neg (show ¬ 0 < A 0 by omega)] at hp
         first | exact hp _ hA FP.rf | exact hp _ (by rw [hF86 307 (by omega) (by omega) (by omega)]; exact hA) (FR.p (FD.r hF86)))
      | (have hq := hr (by omega)
         rw [if_neg (show ¬ 4 ≤ x % 6 by omega), if_neg (show ¬ x % 6 = 3 by omega), if_pos (show 0 < A 0 by omega), if_pos (show x % 6 = 0 by omega), if_pos (by omega)] at hp
         exact hp _ a78 (F7.r f78).p)
      | (have hq := hr (by omega)
         rw [if_neg (show ¬ 4 ≤ x % 6 by omega), if_neg (show ¬ x % 6 = 3 by omega), if_pos (show 0 < A 0 by omega), if_pos (show x % 6 = 0 by omega), if_neg (by omega)] at hp
         exact hp _ hA FP.rf)
      | (have hq := hr (by omega)
         have hv : priceP A tx (x / 6 % A 0) = duesP A tx (A 2) (x / 6 % A 0).toNat 0 (A 9) := by rw [hpr, if_pos (by omega)]
         rw [if_neg (show ¬ 4 ≤ x % 6 by omega), if_neg (show ¬ x % 6 = 3 by omega), if_pos (show 0 < A 0 by omega), if_neg (show ¬ x % 6 = 0 by omega), hv, if_neg (by omega)] at hp
         exact hp _ a94 (FR.p (FR.tr (FD.r hF86) f94)))
      | (have hq := hr (by omega)
         have hv : priceP A tx (x / 6 % A 0) = -1 := by rw [hpr, if_neg (by omega)]
         rw [if_neg (show ¬ 4 ≤ x % 6 by omega), if_neg (show ¬ x % 6 = 3 by omega), if_pos (show 0 < A 0 by omega), if_neg (show ¬ x % 6 = 0 by omega), hv, if_pos rfl] at hp
         exact hp _ (by rw [hF86 307 (by omega) (by omega) (by omega)]; exact hA) (FR.p (FD.r hF86))))
    · refine x_aload_n dX12_happens_136 rfl ?_
      refine x_callV0 (mc1 := 0) (ms1 := 0) dX12_happens_137 cv_RX12_378 (ci := 12) (k_ob_306 cs) rfl (Nat.le_of_ble_eq_true rfl) (n1 := n - 1) (by omega) (by omega) (by omega) ?_
      refine sp_X12_pass (z := 1) (tx := tx) cs hA (BA_bn hb) hT (by omega) ⟨hz, Or.inr rfl⟩ (by omega) (fun J137 a137 s137 f137 => ?_)
      rw [passR_1] at a137 s137
      exact x_return dX12_happens_140 rfl (by omega) (by omega) (by
    first
      | (exfalso; omega)
      | (rw [if_pos (show 4 ≤ x % 6 by omega), if_pos (by omega)] at hp
         exact hp _ a137 f137)
      | (rw [if_pos (show 4 ≤ x % 6 by omega), if_neg (by omega)] at hp
         exact hp _ hA FP.rf)
      | (rw [if_neg (show ¬ 4 ≤ x % 6 by omega), if_pos (show x % 6 = 3 by omega), if_pos (by omega)] at hp
         exact hp _ a119 (F7.r f119).p)
      | (rw [if_neg (show ¬ 4 ≤ x % 6 by omega), if_pos (show x % 6 = 3 by omega), if_neg (by omega)] at hp
         exact hp _ hA FP.rf)
      | (rw [if_neg (show ¬ 4 ≤ x % 6 by omega), if_neg (show ¬ x % 6 = 3 by omega), if_neg (show ¬ 0 < A 0 by omega)] at hp
         first | exact hp _ hA FP.rf | exact hp _ (by rw [hF86 307 (by omega) (by omega) (by omega)]; exact hA) (FR.p (FD.r hF86)))
      | (have hq := hr (by omega)
         rw [if_neg (show ¬ 4 ≤ x % 6 by omega), if_neg (show ¬ x % 6 = 3 by omega), if_pos (show 0 < A 0 by omega), if_pos (show x % 6 = 0 by omega), if_pos (by omega)] at hp
         exact hp _ a78 (F7.r f78).p)
      | (have hq := hr (by omega)
         rw [if_neg (show ¬ 4 ≤ x % 6 by omega), if_neg (show ¬ x % 6 = 3 by omega), if_pos (show 0 < A 0 by omega), if_pos (show x % 6 = 0 by omega), if_neg (by omega)] at hp
         exact hp _ hA FP.rf)
      | (have hq := hr (by omega)
         have hv : priceP A tx (x / 6 % A 0) = duesP A tx (A 2) (x / 6 % A 0).toNat 0 (A 9) := by rw [hpr, if_pos (by omega)]
         rw [if_neg (show ¬ 4 ≤ x % 6 by omega), if_neg (show ¬ x % 6 = 3 by omega), if_pos (show 0 < A 0 by omega), if_neg (show ¬ x % 6 = 0 by omega), hv, if_neg (by omega)] at hp
         exact hp _ a94 (FR.p (FR.tr (FD.r hF86) f94)))
      | (have hq := hr (by omega)
         have hv : priceP A tx (x / 6 % A 0) = -1 := by rw [hpr, if_neg (by omega)]
         rw [if_neg (show ¬ 4 ≤ x % 6 by omega), if_neg (show ¬ x % 6 = 3 by omega), if_pos (show 0 < A 0 by omega), if_neg (show ¬ x % 6 = 0 by omega), hv, if_pos rfl] at hp
         exact hp _ (by rw [hF86 307 (by omega) (by omega) (by omega)]; exact hA) (FR.p (FD.r hF86))))
theorem dX12_years_0 : decode prog_14_method_96_code 0 = .ok (.iload_n 1, 1) := by decide +kernel
theorem dX12_years_1 : decode prog_14_method_96_code 1 = .ok (.iconst 0, 1) := by decide +kernel
theorem dX12_years_2 : decode prog_14_method_96_code 2 = .ok (.sipush 9999, 3) := by decide +kernel
theorem dX12_years_5 : decode prog_14_method_96_code 5 = .ok (.invokestatic 81, 3) := by decide +kernel
theorem dX12_years_8 : decode prog_14_method_96_code 8 = .ok (.ifCond .eq 13, 3) := by decide +kernel
theorem dX12_years_11 : decode prog_14_method_96_code 11 = .ok (.iload_n 2, 1) := by decide +kernel
theorem dX12_years_12 : decode prog_14_method_96_code 12 = .ok (.iconst 1, 1) := by decide +kernel
theorem dX12_years_13 : decode prog_14_method_96_code 13 = .ok (.bipush 40, 2) := by decide +kernel
theorem dX12_years_15 : decode prog_14_method_96_code 15 = .ok (.invokestatic 81, 3) := by decide +kernel
theorem dX12_years_18 : decode prog_14_method_96_code 18 = .ok (.ifCond .ne 5, 3) := by decide +kernel
theorem dX12_years_21 : decode prog_14_method_96_code 21 = .ok (.iconst (-1), 1) := by decide +kernel
theorem dX12_years_22 : decode prog_14_method_96_code 22 = .ok (.ireturn, 1) := by decide +kernel
theorem dX12_years_23 : decode prog_14_method_96_code 23 = .ok (.aload_n 0, 1) := by decide +kernel
theorem dX12_years_24 : decode prog_14_method_96_code 24 = .ok (.invokevirtual 363, 3) := by decide +kernel
theorem dX12_years_27 : decode prog_14_method_96_code 27 = .ok (.aload_n 0, 1) := by decide +kernel
theorem dX12_years_28 : decode prog_14_method_96_code 28 = .ok (.getfield 7, 3) := by decide +kernel
theorem dX12_years_31 : decode prog_14_method_96_code 31 = .ok (.bipush 8, 2) := by decide +kernel
theorem dX12_years_33 : decode prog_14_method_96_code 33 = .ok (.iload_n 1, 1) := by decide +kernel
theorem dX12_years_34 : decode prog_14_method_96_code 34 = .ok (.iconst 2, 1) := by decide +kernel
theorem dX12_years_35 : decode prog_14_method_96_code 35 = .ok (.imul, 1) := by decide +kernel
theorem dX12_years_36 : decode prog_14_method_96_code 36 = .ok (.sipush 373, 3) := by decide +kernel
theorem dX12_years_39 : decode prog_14_method_96_code 39 = .ok (.iadd, 1) := by decide +kernel
theorem dX12_years_40 : decode prog_14_method_96_code 40 = .ok (.iastore, 1) := by decide +kernel
theorem dX12_years_41 : decode prog_14_method_96_code 41 = .ok (.iconst 0, 1) := by decide +kernel
theorem dX12_years_42 : decode prog_14_method_96_code 42 = .ok (.istore_n 3, 1) := by decide +kernel
theorem dX12_years_43 : decode prog_14_method_96_code 43 = .ok (.iload_n 3, 1) := by decide +kernel
theorem dX12_years_44 : decode prog_14_method_96_code 44 = .ok (.iload_n 2, 1) := by decide +kernel
theorem dX12_years_45 : decode prog_14_method_96_code 45 = .ok (.if_icmp .ge 28, 3) := by decide +kernel
theorem dX12_years_48 : decode prog_14_method_96_code 48 = .ok (.aload_n 0, 1) := by decide +kernel
theorem dX12_years_49 : decode prog_14_method_96_code 49 = .ok (.getfield 7, 3) := by decide +kernel
theorem dX12_years_52 : decode prog_14_method_96_code 52 = .ok (.bipush 8, 2) := by decide +kernel
theorem dX12_years_54 : decode prog_14_method_96_code 54 = .ok (.iaload, 1) := by decide +kernel
theorem dX12_years_55 : decode prog_14_method_96_code 55 = .ok (.istore 4, 2) := by decide +kernel
theorem dX12_years_57 : decode prog_14_method_96_code 57 = .ok (.aload_n 0, 1) := by decide +kernel
theorem dX12_years_58 : decode prog_14_method_96_code 58 = .ok (.invokevirtual 333, 3) := by decide +kernel
theorem dX12_years_61 : decode prog_14_method_96_code 61 = .ok (.aload_n 0, 1) := by decide +kernel
theorem dX12_years_62 : decode prog_14_method_96_code 62 = .ok (.iload 4, 2) := by decide +kernel
theorem dX12_years_64 : decode prog_14_method_96_code 64 = .ok (.invokevirtual 399, 3) := by decide +kernel
theorem dX12_years_67 : decode prog_14_method_96_code 67 = .ok (.iinc 3 1, 3) := by decide +kernel
theorem dX12_years_70 : decode prog_14_method_96_code 70 = .ok (.goto (-27), 3) := by decide +kernel
theorem dX12_years_73 : decode prog_14_method_96_code 73 = .ok (.aload_n 0, 1) := by decide +kernel
theorem dX12_years_74 : decode prog_14_method_96_code 74 = .ok (.getfield 7, 3) := by decide +kernel
theorem dX12_years_77 : decode prog_14_method_96_code 77 = .ok (.bipush 7, 2) := by decide +kernel
theorem dX12_years_79 : decode prog_14_method_96_code 79 = .ok (.iaload, 1) := by decide +kernel
theorem dX12_years_80 : decode prog_14_method_96_code 80 = .ok (.ireturn, 1) := by decide +kernel
theorem live_1 (hb : BA A) : liveA A tx 1 = A 1 := by
  have h0 := hb.1.1
  have hB : BA (upA A 8 (anx (A 8))) := BA_x hb (anx_b _)
  have e : upA A 8 (anx (A 8)) 1 = A 1 := upA_o (by omega)
  unfold liveA
  split
  · split
    · rw [pass_lo hB (by omega)]; exact e
    · exact e
  · split
    · split
      · rw [upA_o (by omega)]; exact e
      · exact e
    · split
      · split
        · split
          · unfold pawnA wrA; repeat rw [upA_o (by omega)]
          · exact e
        · split
          · exact e
          · unfold redeemA wrA; repeat rw [upA_o (by omega)]
      · exact e
theorem lp_X12_years {B : Nat → Int} {s m : Int} (cs : CS S R) (hm : 1 ≤ m ∧ m ≤ 40) (hz : I 306 23 = 1) (hn : 8 ≤ n) (hT : RTx (I 309) B tx) (hp : ∀ I', I' 307 = lvL B tx m.toNat → FP I I' → Post (some (.int (iI (lvL B tx m.toNat 7)))) S I' R) : ∀ (d k : Nat) (J : CI), k ≤ m.toNat → m.toNat - k = d → J 307 = lvL B tx k → BA (lvL B tx k) → lvL B tx k 1 = B 1 → FP I J → WP n 0 0 mX12_years Post 43 [(0, .ref (S.2.1 306)), (1, .int (iI s)), (2, .int (iI m)), (3, .int (iI (k : Int)))] [] 0 0 S J R := by
  intro d
  induction d using Nat.strongRecOn with
  | ind d ih =>
    intro k J k1 k2 hA hb h1 hF
    obtain ⟨A, hAe⟩ : ∃ A, A = lvL B tx k := ⟨_, rfl⟩
    rw [← hAe] at hA hb h1
    have b0 := hb.1.1
    have b8 : 0 ≤ A 8 ∧ A 8 ≤ 30870 := hb.1.2.2.1
    refine x_iload_n dX12_years_43 rfl ?_
    refine x_iload_n dX12_years_44 rfl ?_
    refine x_icmp_ge 73 dX12_years_45 (by decide) ⟨(by omega), (by omega)⟩ (fun w45 => ?_) (fun w45 => ?_)
    · refine x_aload_n dX12_years_73 rfl ?_
      refine x_getR (b := 307) dX12_years_74 gf_RX12_7 (k_ob_306 cs) (fun _ _ => rfl) (k_r_306_0 cs) ?_
      refine x_bipush dX12_years_77 (by decide) ?_
      refine x_ald7 (kk := 7) (v := A 7) dX12_years_79 cs (by omega) (by omega) (by rw [hA]; repeat (first | rfl | rw [upA_s] | rw [upA_o (by omega)])) ?_
      exact x_ireturn dX12_years_80 rfl (by omega) (by omega) (by obtain rfl : k = m.toNat := (by omega); rw [← hAe] at hp; exact hp _ hA hF)
    · refine x_aload_n dX12_years_48 rfl ?_
      refine x_getR (b := 307) dX12_years_49 gf_RX12_7 (k_ob_306 cs) (fun _ _ => rfl) (k_r_306_0 cs) ?_
      refine x_bipush dX12_years_52 (by decide) ?_
      refine x_ald7 (kk := 8) (v := A 8) dX12_years_54 cs (by omega) (by omega) (by rw [hA]; repeat (first | rfl | rw [upA_s] | rw [upA_o (by omega)])) ?_
      refine x_istore (lv2 := [(4, _), (0, _), (1, _), (2, _), (3, _)]) dX12_years_55 (by decide) rfl ?_
      refine x_aload_n dX12_years_57 rfl ?_
      refine x_callV0 (mc1 := 0) (ms1 := 0) dX12_years_58 cv_RX12_333 (ci := 12) (k_ob_306 cs) rfl (Nat.le_of_ble_eq_true rfl) (n1 := n - 1) (by omega) (by omega) (by omega) ?_
      refine sp_X12_anew cs hA b8 (fun J58 a58 f58 => ?_)
      refine x_aload_n dX12_years_61 rfl ?_
      refine x_iload dX12_years_62 rfl ?_
      refine x_callV1 (mc1 := 0) (ms1 := 0) dX12_years_64 cv_RX12_399 (ci := 12) (k_ob_306 cs) rfl (Nat.le_of_ble_eq_true rfl) (n1 := n - 1) (by omega) (by omega) (by omega) ?_
      refine sp_X12_happens cs a58 (BA_x hb (anx_b _)) (tx := tx) (by rw [f58 309 (by omega), hF.1 309 (by omega) (by omega) (by omega) (by omega) (by omega)]; exact fun t ht => hT t (by rw [upA_o (by omega), h1] at ht; exact ht)) (by rw [f58 306 (by omega), hF.2 23 (by omega)]; exact hz) b8 (by omega) (fun J64 a64 f64 => ?_)
      refine x_iinc (lv2 := [(3, _), (4, _), (0, _), (1, _), (2, _)]) dX12_years_67 rfl (by decide) rfl ?_
      refine x_goto 43 dX12_years_70 (by decide) ?_
      refine x_sub [2, 3, 4, 0] rfl ?_
      have ek : lvL B tx (k + 1) = liveA A tx := by rw [hAe]; rfl
      have lx := live_X (A := A) (tx := tx) b0
      exact ih _ (by omega) (k + 1) J64 (by omega) rfl (by rw [ek, ← lx]; exact a64) (by rw [ek]; exact BA_live hb) (by rw [ek, live_1 hb]; exact h1) ((hF.tr (F7.r f58).p).tr f64)
theorem sp_X12_years {s m : Int} (cs : CS S R) (hA : I 307 = A) (hb : BA A) (hT : RTx (I 309) A tx) (hz : I 306 23 = 1) (hs : Rg s) (hm : Rg m) (hn : 8 ≤ n) (hp : ∀ I', I' 307 = (f_years A tx s m).2 → FP I I' → Post (some (.int (iI (f_years A tx s m).1))) S I' R) : Call n 0 0 mX12_years [.ref (S.2.1 306), .int (iI s), .int (iI m)] S I R Post := by
  have b0 := hb.1.1
  have b1 := hb.2.1.1
  have b2 := hb.2.1.2.1
  have b3 := hb.2.1.2.2.1
  have b4 := hb.2.1.2.2.2.1
  have b5 := hb.2.1.2.2.2.2.1
  have b6 := hb.2.1.2.2.2.2.2.1
  have b114 := hb.2.1.2.2.2.2.2.2
  have b7 : 0 ≤ A 7 ∧ A 7 ≤ 9999 := hb.1.2.1
  have b8 : 0 ≤ A 8 ∧ A 8 ≤ 30870 := hb.1.2.2.1
  have b9 : 0 ≤ A 9 ∧ A 9 ≤ 9999 := hb.1.2.2.2.1
  have b10 : 0 ≤ A 10 ∧ A 10 ≤ 1 := hb.1.2.2.2.2.1
  have b11 := BA_11 hb
  unfold f_years at hp
  refine Call.of (by decide +kernel) (Nat.le_of_ble_eq_true rfl) ?_
  show WP _ _ _ _ _ 0 [(0, _), (1, _), (2, _)] [] 0 0 _ _ _
  refine x_iload_n dX12_years_0 rfl ?_
  refine x_iconst dX12_years_1 ?_
  refine x_sipush dX12_years_2 (by decide) ?_
  refine x_callS3 (mc1 := 0) (ms1 := 0) dX12_years_5 cv_RX12_81 (Nat.le_of_ble_eq_true rfl) (n1 := n - 1) (by omega) (by omega) (by omega) ?_
  refine sp_X12_isIn (by omega) (by omega) (by omega) (fun r5 hr5 => ?_)
  refine x_if_eq 21 dX12_years_8 (by decide) (by omega) (fun w8 => ?_) (fun w8 => ?_)
  · refine x_iconst dX12_years_21 ?_
    exact x_ireturn dX12_years_22 rfl (by omega) (by omega) (by rw [if_neg (by omega)] at hp; exact hp _ hA FP.rf)
  · refine x_iload_n dX12_years_11 rfl ?_
    refine x_iconst dX12_years_12 ?_
    refine x_bipush dX12_years_13 (by decide) ?_
    refine x_callS3 (mc1 := 0) (ms1 := 0) dX12_years_15 cv_RX12_81 (Nat.le_of_ble_eq_true rfl) (n1 := n - 1) (by omega) (by omega) (by omega) ?_
    refine sp_X12_isIn (by omega) (by omega) (by omega) (fun r15 hr15 => ?_)
    refine x_if_ne 23 dX12_years_18 (by decide) (by omega) (fun w18 => ?_) (fun w18 => ?_)
    · refine x_aload_n dX12_years_23 rfl ?_
      refine x_callV0 (mc1 := 0) (ms1 := 0) dX12_years_24 cv_RX12_363 (ci := 12) (k_ob_306 cs) rfl (Nat.le_of_ble_eq_true rfl) (n1 := n - 1) (by omega) (by omega) (by omega) ?_
      refine sp_X12_keep cs hA hb (fun J24 a24 f24 => ?_)
      refine x_aload_n dX12_years_27 rfl ?_
      refine x_getR (b := 307) dX12_years_28 gf_RX12_7 (k_ob_306 cs) (fun _ _ => rfl) (k_r_306_0 cs) ?_
      refine x_bipush dX12_years_31 (by decide) ?_
      refine x_iload_n dX12_years_33 rfl ?_
      refine x_iconst dX12_years_34 ?_
      refine x_imul dX12_years_35 ?_
      refine x_sipush dX12_years_36 (by decide) ?_
      refine x_iadd dX12_years_39 ?_
      refine x_ast7 (kk := 8) dX12_years_40 cs (by omega) (by omega) a24 (fun J40 a40 f40 => ?_)
      refine x_iconst dX12_years_41 ?_
      refine x_istore_n (lv2 := [(3, _), (0, _), (1, _), (2, _)]) dX12_years_42 (by decide) rfl ?_
      refine x_sub [1, 2, 3, 0] rfl ?_
      rw [if_pos (by omega)] at hp
      have fh : F7 I J40 := F7.tr f24 f40
      exact lp_X12_years (I := J40) (B := upA (keepA A) 8 (s * 2 + 373)) cs (by omega) (by rw [fh 306 (by omega)]; exact hz) hn (by rw [fh 309 (by omega)]; exact fun t ht => hT t (by rw [upA_o (by omega), kp_lo (by omega) (by omega)] at ht; exact ht)) (fun I' q1 q2 => hp I' q1 ((F7.r fh).p.tr q2)) _ 0 J40 (by omega) rfl a40 (BA_x (BA_keep hb) (by omega)) rfl FP.rf
    · refine x_iconst dX12_years_21 ?_
      exact x_ireturn dX12_years_22 rfl (by omega) (by omega) (by rw [if_neg (by omega)] at hp; exact hp _ hA FP.rf)
theorem dX12_of_0 : decode prog_14_method_97_code 0 = .ok (.aload_n 0, 1) := by decide +kernel
theorem dX12_of_1 : decode prog_14_method_97_code 1 = .ok (.iload_n 1, 1) := by decide +kernel
theorem dX12_of_2 : decode prog_14_method_97_code 2 = .ok (.invokevirtual 342, 3) := by decide +kernel
theorem dX12_of_5 : decode prog_14_method_97_code 5 = .ok (.ifCond .ne 7, 3) := by decide +kernel
theorem dX12_of_8 : decode prog_14_method_97_code 8 = .ok (.sipush (-10000), 3) := by decide +kernel
theorem dX12_of_11 : decode prog_14_method_97_code 11 = .ok (.ireturn, 1) := by decide +kernel
theorem dX12_of_12 : decode prog_14_method_97_code 12 = .ok (.iload_n 2, 1) := by decide +kernel
theorem dX12_of_13 : decode prog_14_method_97_code 13 = .ok (.tableswitch 101 0 7 #[47, 47, 61, 71, 77, 83, 89, 95], 47) := by decide +kernel
theorem dX12_of_60 : decode prog_14_method_97_code 60 = .ok (.aload_n 0, 1) := by decide +kernel
theorem dX12_of_61 : decode prog_14_method_97_code 61 = .ok (.getfield 7, 3) := by decide +kernel
theorem dX12_of_64 : decode prog_14_method_97_code 64 = .ok (.bipush 36, 2) := by decide +kernel
theorem dX12_of_66 : decode prog_14_method_97_code 66 = .ok (.iconst 2, 1) := by decide +kernel
theorem dX12_of_67 : decode prog_14_method_97_code 67 = .ok (.iload_n 1, 1) := by decide +kernel
theorem dX12_of_68 : decode prog_14_method_97_code 68 = .ok (.imul, 1) := by decide +kernel
theorem dX12_of_69 : decode prog_14_method_97_code 69 = .ok (.iadd, 1) := by decide +kernel
theorem dX12_of_70 : decode prog_14_method_97_code 70 = .ok (.iload_n 2, 1) := by decide +kernel
theorem dX12_of_71 : decode prog_14_method_97_code 71 = .ok (.iadd, 1) := by decide +kernel
theorem dX12_of_72 : decode prog_14_method_97_code 72 = .ok (.iaload, 1) := by decide +kernel
theorem dX12_of_73 : decode prog_14_method_97_code 73 = .ok (.ireturn, 1) := by decide +kernel
theorem dX12_of_74 : decode prog_14_method_97_code 74 = .ok (.aload_n 0, 1) := by decide +kernel
theorem dX12_of_75 : decode prog_14_method_97_code 75 = .ok (.getfield 7, 3) := by decide +kernel
theorem dX12_of_78 : decode prog_14_method_97_code 78 = .ok (.bipush 52, 2) := by decide +kernel
theorem dX12_of_80 : decode prog_14_method_97_code 80 = .ok (.iload_n 1, 1) := by decide +kernel
theorem dX12_of_81 : decode prog_14_method_97_code 81 = .ok (.iadd, 1) := by decide +kernel
theorem dX12_of_82 : decode prog_14_method_97_code 82 = .ok (.iaload, 1) := by decide +kernel
theorem dX12_of_83 : decode prog_14_method_97_code 83 = .ok (.ireturn, 1) := by decide +kernel
theorem dX12_of_84 : decode prog_14_method_97_code 84 = .ok (.aload_n 0, 1) := by decide +kernel
theorem dX12_of_85 : decode prog_14_method_97_code 85 = .ok (.iload_n 1, 1) := by decide +kernel
theorem dX12_of_86 : decode prog_14_method_97_code 86 = .ok (.invokevirtual 281, 3) := by decide +kernel
theorem dX12_of_89 : decode prog_14_method_97_code 89 = .ok (.ireturn, 1) := by decide +kernel
theorem dX12_of_90 : decode prog_14_method_97_code 90 = .ok (.aload_n 0, 1) := by decide +kernel
theorem dX12_of_91 : decode prog_14_method_97_code 91 = .ok (.iload_n 1, 1) := by decide +kernel
theorem dX12_of_92 : decode prog_14_method_97_code 92 = .ok (.invokevirtual 85, 3) := by decide +kernel
theorem dX12_of_95 : decode prog_14_method_97_code 95 = .ok (.ireturn, 1) := by decide +kernel
theorem dX12_of_96 : decode prog_14_method_97_code 96 = .ok (.aload_n 0, 1) := by decide +kernel
theorem dX12_of_97 : decode prog_14_method_97_code 97 = .ok (.iload_n 1, 1) := by decide +kernel
theorem dX12_of_98 : decode prog_14_method_97_code 98 = .ok (.invokevirtual 310, 3) := by decide +kernel
theorem dX12_of_101 : decode prog_14_method_97_code 101 = .ok (.ireturn, 1) := by decide +kernel
theorem dX12_of_102 : decode prog_14_method_97_code 102 = .ok (.aload_n 0, 1) := by decide +kernel
theorem dX12_of_103 : decode prog_14_method_97_code 103 = .ok (.iload_n 1, 1) := by decide +kernel
theorem dX12_of_104 : decode prog_14_method_97_code 104 = .ok (.invokevirtual 330, 3) := by decide +kernel
theorem dX12_of_107 : decode prog_14_method_97_code 107 = .ok (.ireturn, 1) := by decide +kernel
theorem dX12_of_108 : decode prog_14_method_97_code 108 = .ok (.aload_n 0, 1) := by decide +kernel
theorem dX12_of_109 : decode prog_14_method_97_code 109 = .ok (.iload_n 1, 1) := by decide +kernel
theorem dX12_of_110 : decode prog_14_method_97_code 110 = .ok (.invokevirtual 354, 3) := by decide +kernel
theorem dX12_of_113 : decode prog_14_method_97_code 113 = .ok (.ireturn, 1) := by decide +kernel
theorem dX12_of_114 : decode prog_14_method_97_code 114 = .ok (.sipush (-10000), 3) := by decide +kernel
theorem dX12_of_117 : decode prog_14_method_97_code 117 = .ok (.ireturn, 1) := by decide +kernel
theorem sp_X12_of {q w : Int} (cs : CS S R) (hA : I 307 = A) (hN : BN A) (hT : RTx (I 309) A tx) (hq : Rg q) (hw : Rg w) (hn : 6 ≤ n) (hp : ∀ I', FD I I' → Post (some (.int (iI (f_of A tx q w)))) S I' R) : Call n 0 0 mX12_of [.ref (S.2.1 306), .int (iI q), .int (iI w)] S I R Post := by
  obtain ⟨b0, b1, b2, b7, b8, b9, b10, bq⟩ := id hN
  unfold f_of at hp
  refine Call.of (by decide +kernel) (Nat.le_of_ble_eq_true rfl) ?_
  show WP _ _ _ _ _ 0 [(0, _), (1, _), (2, _)] [] 0 0 _ _ _
  refine x_aload_n dX12_of_0 rfl ?_
  refine x_iload_n dX12_of_1 rfl ?_
  refine x_callV1 (mc1 := 0) (ms1 := 0) dX12_of_2 cv_RX12_342 (ci := 12) (k_ob_306 cs) rfl (Nat.le_of_ble_eq_true rfl) (n1 := n - 1) (by omega) (by omega) (by omega) ?_
  refine sp_X12_isQuarrel cs hA (by omega) (by omega) (by omega) (fun r2 hr2 => ?_)
  refine x_if_ne 12 dX12_of_5 (by decide) (by omega) (fun w5 => ?_) (fun w5 => ?_)
  · have bqq := bq q.toNat (by omega)
    rw [if_pos (show 0 ≤ q ∧ q < A 0 by omega)] at hp
    refine x_iload_n dX12_of_12 rfl ?_
    by_cases t13_0 : w = 0
    · refine x_tableIn 60 dX12_of_13 (by omega) (by omega) (by rw [t13_0]; rfl) (by decide) ?_
      refine x_aload_n dX12_of_60 rfl ?_
      refine x_getR (b := 307) dX12_of_61 gf_RX12_7 (k_ob_306 cs) (fun _ _ => rfl) (k_r_306_0 cs) ?_
      refine x_bipush dX12_of_64 (by decide) ?_
      refine x_iconst dX12_of_66 ?_
      refine x_iload_n dX12_of_67 rfl ?_
      refine x_imul dX12_of_68 ?_
      refine x_iadd dX12_of_69 ?_
      refine x_iload_n dX12_of_70 rfl ?_
      refine x_iadd dX12_of_71 ?_
      refine x_ald7 (kk := 36 + 2 * q.toNat + w.toNat) (v := A (36 + 2 * q.toNat + w.toNat)) dX12_of_72 cs (by omega) (by omega) (by rw [hA]; repeat (first | rfl | rw [upA_s] | rw [upA_o (by omega)])) ?_
      exact x_ireturn dX12_of_73 rfl (by omega) (by omega) (by
    first
      | (rw [if_neg (show ¬ (0 ≤ q ∧ q < A 0) by omega)] at hp; exact hp _ FD.rf)
      | (have hw9 : w = 0 := (by omega)
         rw [if_pos (by omega)] at hp
         rw [show 36 + 2 * q.toNat + w.toNat = 36 + 2 * q.toNat by omega]; exact hp _ FD.rf)
      | (have hw9 : w = 1 := (by omega)
         rw [if_neg (by omega), if_pos (by omega)] at hp
         rw [show 36 + 2 * q.toNat + w.toNat = 37 + 2 * q.toNat by omega]; exact hp _ FD.rf)
      | (have hw9 : w = 2 := (by omega)
         rw [if_neg (by omega), if_neg (by omega), if_pos (by omega)] at hp
         exact hp _ FD.rf)
      | (have hw9 : w = 3 := (by omega)
         rw [if_neg (by omega), if_neg (by omega), if_neg (by omega), if_pos (by omega)] at hp
         exact hp _ FD.rf)
      | (have hw9 : w = 4 := (by omega)
         rw [if_neg (by omega), if_neg (by omega), if_neg (by omega), if_neg (by omega), if_pos (by omega)] at hp
         exact hp _ FD.rf)
      | (have hw9 : w = 5 := (by omega)
         rw [if_neg (by omega), if_neg (by omega), if_neg (by omega), if_neg (by omega), if_neg (by omega), if_pos (by omega)] at hp
         exact hp _ FD.rf)
      | (have hw9 : w = 6 := (by omega)
         rw [if_neg (by omega), if_neg (by omega), if_neg (by omega), if_neg (by omega), if_neg (by omega), if_neg (by omega), if_pos (by omega)] at hp
         exact hp _ hF104)
      | (have hw9 : w = 7 := (by omega)
         rw [if_neg (by omega), if_neg (by omega), if_neg (by omega), if_neg (by omega), if_neg (by omega), if_neg (by omega), if_neg (by omega), if_pos (by omega)] at hp
         exact hp _ hF110)
      | (rw [if_neg (by omega), if_neg (by omega), if_neg (by omega), if_neg (by omega), if_neg (by omega), if_neg (by omega), if_neg (by omega), if_neg (by omega)] at hp
         exact hp _ FD.rf))
    by_cases t13_1 : w = 1
    · refine x_tableIn 60 dX12_of_13 (by omega) (by omega) (by rw [t13_1]; rfl) (by decide) ?_
      refine x_aload_n dX12_of_60 rfl ?_
      refine x_getR (b := 307) dX12_of_61 gf_RX12_7 (k_ob_306 cs) (fun _ _ => rfl) (k_r_306_0 cs) ?_
      refine x_bipush dX12_of_64 (by decide) ?_
      refine x_iconst dX12_of_66 ?_
      refine x_iload_n dX12_of_67 rfl ?_
      refine x_imul dX12_of_68 ?_
      refine x_iadd dX12_of_69 ?_
      refine x_iload_n dX12_of_70 rfl ?_
      refine x_iadd dX12_of_71 ?_
      refine x_ald7 (kk := 36 + 2 * q.toNat + w.toNat) (v := A (36 + 2 * q.toNat + w.toNat)) dX12_of_72 cs (by omega) (by omega) (by rw [hA]; repeat (first | rfl | rw [upA_s] | rw [upA_o (by omega)])) ?_
      exact x_ireturn dX12_of_73 rfl (by omega) (by omega) (by
    first
      | (rw [if_neg (show ¬ (0 ≤ q ∧ q < A 0) by omega)] at hp; exact hp _ FD.rf)
      | (have hw9 : w = 0 := (by omega)
         rw [if_pos (by omega)] at hp
         rw [show 36 + 2 * q.toNat + w.toNat = 36 + 2 * q.toNat by omega]; exact hp _ FD.rf)
      | (have hw9 : w = 1 := (by omega)
         rw [if_neg (by omega), if_pos (by omega)] at hp
         rw [show 36 + 2 * q.toNat + w.toNat = 37 + 2 * q.toNat by omega]; exact hp _ FD.rf)
      | (have hw9 : w = 2 := (by omega)
         rw [if_neg (by omega), if_neg (by omega), if_pos (by omega)] at hp
         exact hp _ FD.rf)
      | (have hw9 : w = 3 := (by omega)
         rw [if_neg (by omega), if_neg (by omega), if_neg (by omega), if_pos (by omega)] at hp
         exact hp _ FD.rf)
      | (have hw9 : w = 4 := (by omega)
         rw [if_neg (by omega), if_neg (by omega), if_neg (by omega), if_neg (by omega), if_pos (by omega)] at hp
         exact hp _ FD.rf)
      | (have hw9 : w = 5 := (by omega)
         rw [if_neg (by omega), if_neg (by omega), if_neg (by omega), if_neg (by omega), if_neg (by omega), if_pos (by omega)] at hp
         exact hp _ FD.rf)
      | (have hw9 : w = 6 := (by omega)
         rw [if_neg (by omega), if_neg (by omega), if_neg (by omega), if_neg (by omega), if_neg (by omega), if_neg (by omega), if_pos (by omega)] at hp
         exact hp _ hF104)
      | (have hw9 : w = 7 := (by omega)
         rw [if_neg (by omega), if_neg (by omega), if_neg (by omega), if_neg (by omega), if_neg (by omega), if_neg (by omega), if_neg (by omega), if_pos (by omega)] at hp
         exact hp _ hF110)
      | (rw [if_neg (by omega), if_neg (by omega), if_neg (by omega), if_neg (by omega), if_neg (by omega), if_neg (by omega), if_neg (by omega), if_neg (by omega)] at hp
         exact hp _ FD.rf))
    by_cases t13_2 : w = 2
    · refine x_tableIn 74 dX12_of_13 (by omega) (by omega) (by rw [t13_2]; rfl) (by decide) ?_
      refine x_aload_n dX12_of_74 rfl ?_
      refine x_getR (b := 307) dX12_of_75 gf_RX12_7 (k_ob_306 cs) (fun _ _ => rfl) (k_r_306_0 cs) ?_
      refine x_bipush dX12_of_78 (by decide) ?_
      refine x_iload_n dX12_of_80 rfl ?_
      refine x_iadd dX12_of_81 ?_
      refine x_ald7 (kk := 52 + q.toNat) (v := A (52 + q.toNat)) dX12_of_82 cs (by omega) (by omega) (by rw [hA]; repeat (first | rfl | rw [upA_s] | rw [upA_o (by omega)])) ?_
      exact x_ireturn dX12_of_83 rfl (by omega) (by omega) (by
    first
      | (rw [if_neg (show ¬ (0 ≤ q ∧ q < A 0) by omega)] at hp; exact hp _ FD.rf)
      | (have hw9 : w = 0 := (by omega)
         rw [if_pos (by omega)] at hp
         rw [show 36 + 2 * q.toNat + w.toNat = 36 + 2 * q.toNat by omega]; exact hp _ FD.rf)
      | (have hw9 : w = 1 := (by omega)
         rw [if_neg (by omega), if_pos (by omega)] at hp
         rw [show 36 + 2 * q.toNat + w.toNat = 37 + 2 * q.toNat by omega]; exact hp _ FD.rf)
      | (have hw9 : w = 2 := (by omega)
         rw [if_neg (by omega), if_neg (by omega), if_pos (by omega)] at hp
         exact hp _ FD.rf)
      | (have hw9 : w = 3 := (by omega)
         rw [if_neg (by omega), if_neg (by omega), if_neg (by omega), if_pos (by omega)] at hp
         exact hp _ FD.rf)
      | (have hw9 : w = 4 := (by omega)
         rw [if_neg (by omega), if_neg (by omega), if_neg (by omega), if_neg (by omega), if_pos (by omega)] at hp
         exact hp _ FD.rf)
      | (have hw9 : w = 5 := (by omega)
         rw [if_neg (by omega), if_neg (by omega), if_neg (by omega), if_neg (by omega), if_neg (by omega), if_pos (by omega)] at hp
         exact hp _ FD.rf)
      | (have hw9 : w = 6 := (by omega)
         rw [if_neg (by omega), if_neg (by omega), if_neg (by omega), if_neg (by omega), if_neg (by omega), if_neg (by omega), if_pos (by omega)] at hp
         exact hp _ hF104)
      | (have hw9 : w = 7 := (by omega)
         rw [if_neg (by omega), if_neg (by omega), if_neg (by omega), if_neg (by omega), if_neg (by omega), if_neg (by omega), if_neg (by omega), if_pos (by omega)] at hp
         exact hp _ hF110)
      | (rw [if_neg (by omega), if_neg (by omega), if_neg (by omega), if_neg (by omega), if_neg (by omega), if_neg (by omega), if_neg (by omega), if_neg (by omega)] at hp
         exact hp _ FD.rf))
    by_cases t13_3 : w = 3
    · refine x_tableIn 84 dX12_of_13 (by omega) (by omega) (by rw [t13_3]; rfl) (by decide) ?_
      refine x_aload_n dX12_of_84 rfl ?_
      refine x_iload_n dX12_of_85 rfl ?_
      refine x_callV1 (mc1 := 0) (ms1 := 0) dX12_of_86 cv_RX12_281 (ci := 12) (k_ob_306 cs) rfl (Nat.le_of_ble_eq_true rfl) (n1 := n - 1) (by omega) (by omega) (by omega) ?_
      refine sp_X12_heatOf_z cs hA (by omega) ?_
      exact x_ireturn dX12_of_89 rfl (by omega) (by omega) (by
    first
      | (rw [if_neg (show ¬ (0 ≤ q ∧ q < A 0) by omega)] at hp; exact hp _ FD.rf)
      | (have hw9 : w = 0 := (by omega)
         rw [if_pos (by omega)] at hp
         rw [show 36 + 2 * q.toNat + w.toNat = 36 + 2 * q.toNat by omega]; exact hp _ FD.rf)
      | (have hw9 : w = 1 := (by omega)
         rw [if_neg (by omega), if_pos (by omega)] at hp
         rw [show 36 + 2 * q.toNat + w.toNat = 37 + 2 * q.toNat by omega]; exact hp _ FD.rf)
      | (have hw9 : w = 2 := (by omega)
         rw [if_neg (by omega), if_neg (by omega), if_pos (by omega)] at hp
         exact hp _ FD.rf)
      | (have hw9 : w = 3 := (by omega)
         rw [if_neg (by omega), if_neg (by omega), if_neg (by omega), if_pos (by omega)] at hp
         exact hp _ FD.rf)
      | (have hw9 : w = 4 := (by omega)
         rw [if_neg (by omega), if_neg (by omega), if_neg (by omega), if_neg (by omega), if_pos (by omega)] at hp
         exact hp _ FD.rf)
      | (have hw9 : w = 5 := (by omega)
         rw [if_neg (by omega), if_neg (by omega), if_neg (by omega), if_neg (by omega), if_neg (by omega), if_pos (by omega)] at hp
         exact hp _ FD.rf)
      | (have hw9 : w = 6 := (by omega)
         rw [if_neg (by omega), if_neg (by omega), if_neg (by omega), if_neg (by omega), if_neg (by omega), if_neg (by omega), if_pos (by omega)] at hp
         exact hp _ hF104)
      | (have hw9 : w = 7 := (by omega)
         rw [if_neg (by omega), if_neg (by omega), if_neg (by omega), if_neg (by omega), if_neg (by omega), if_neg (by omega), if_neg (by omega), if_pos (by omega)] at hp
         exact hp _ hF110)
      | (rw [if_neg (by omega), if_neg (by omega), if_neg (by omega), if_neg (by omega), if_neg (by omega), if_neg (by omega), if_neg (by omega), if_neg (by omega)] at hp
         exact hp _ FD.rf))
    by_cases t13_4 : w = 4
    · refine x_tableIn 90 dX12_of_13 (by omega) (by omega) (by rw [t13_4]; rfl) (by decide) ?_
      refine x_aload_n dX12_of_90 rfl ?_
      refine x_iload_n dX12_of_91 rfl ?_
      refine x_callV1 (mc1 := 0) (ms1 := 0) dX12_of_92 cv_RX12_85 (ci := 12) (k_ob_306 cs) rfl (Nat.le_of_ble_eq_true rfl) (n1 := n - 1) (by omega) (by omega) (by omega) ?_
      refine sp_X12_howOf_z cs hA (by omega) ?_
      exact x_ireturn dX12_of_95 rfl (by omega) (by omega) (by
    first
      | (rw [if_neg (show ¬ (0 ≤ q ∧ q < A 0) by omega)] at hp; exact hp _ FD.rf)
      | (have hw9 : w = 0 := (by omega)
         rw [if_pos (by omega)] at hp
         rw [show 36 + 2 * q.toNat + w.toNat = 36 + 2 * q.toNat by omega]; exact hp _ FD.rf)
      | (have hw9 : w = 1 := (by omega)
         rw [if_neg (by omega), if_pos (by omega)] at hp
         rw [show 36 + 2 * q.toNat + w.toNat = 37 + 2 * q.toNat by omega]; exact hp _ FD.rf)
      | (have hw9 : w = 2 := (by omega)
         rw [if_neg (by omega), if_neg (by omega), if_pos (by omega)] at hp
         exact hp _ FD.rf)
      | (have hw9 : w = 3 := (by omega)
         rw [if_neg (by omega), if_neg (by omega), if_neg (by omega), if_pos (by omega)] at hp
         exact hp _ FD.rf)
      | (have hw9 : w = 4 := (by omega)
         rw [if_neg (by omega), if_neg (by omega), if_neg (by omega), if_neg (by omega), if_pos (by omega)] at hp
         exact hp _ FD.rf)
      | (have hw9 : w = 5 := (by omega)
         rw [if_neg (by omega), if_neg (by omega), if_neg (by omega), if_neg (by omega), if_neg (by omega), if_pos (by omega)] at hp
         exact hp _ FD.rf)
      | (have hw9 : w = 6 := (by omega)
         rw [if_neg (by omega), if_neg (by omega), if_neg (by omega), if_neg (by omega), if_neg (by omega), if_neg (by omega), if_pos (by omega)] at hp
         exact hp _ hF104)
      | (have hw9 : w = 7 := (by omega)
         rw [if_neg (by omega), if_neg (by omega), if_neg (by omega), if_neg (by omega), if_neg (by omega), if_neg (by omega), if_neg (by omega), if_pos (by omega)] at hp
         exact hp _ hF110)
      | (rw [if_neg (by omega), if_neg (by omega), if_neg (by omega), if_neg (by omega), if_neg (by omega), if_neg (by omega), if_neg (by omega), if_neg (by omega)] at hp
         exact hp _ FD.rf))
    by_cases t13_5 : w = 5
    · refine x_tableIn 96 dX12_of_13 (by omega) (by omega) (by rw [t13_5]; rfl) (by decide) ?_
      refine x_aload_n dX12_of_96 rfl ?_
      refine x_iload_n dX12_of_97 rfl ?_
      refine x_callV1 (mc1 := 0) (ms1 := 0) dX12_of_98 cv_RX12_310 (ci := 12) (k_ob_306 cs) rfl (Nat.le_of_ble_eq_true rfl) (n1 := n - 1) (by omega) (by omega) (by omega) ?_
      refine sp_X12_daysOf_z cs hA (by omega) (by omega) (by omega) ?_
      exact x_ireturn dX12_of_101 rfl (by omega) (by omega) (by
    first
      | (rw [if_neg (show ¬ (0 ≤ q ∧ q < A 0) by omega)] at hp; exact hp _ FD.rf)
      | (have hw9 : w = 0 := (by omega)
         rw [if_pos (by omega)] at hp
         rw [show 36 + 2 * q.toNat + w.toNat = 36 + 2 * q.toNat by omega]; exact hp _ FD.rf)
      | (have hw9 : w = 1 := (by omega)
         rw [if_neg (by omega), if_pos (by omega)] at hp
         rw [show 36 + 2 * q.toNat + w.toNat = 37 + 2 * q.toNat by omega]; exact hp _ FD.rf)
      | (have hw9 : w = 2 := (by omega)
         rw [if_neg (by omega), if_neg (by omega), if_pos (by omega)] at hp
         exact hp _ FD.rf)
      | (have hw9 : w = 3 := (by omega)
         rw [if_neg (by omega), if_neg (by omega), if_neg (by omega), if_pos (by omega)] at hp
         exact hp _ FD.rf)
      | (have hw9 : w = 4 := (by omega)
         rw [if_neg (by omega), if_neg (by omega), if_neg (by omega), if_neg (by omega), if_pos (by omega)] at hp
         exact hp _ FD.rf)
      | (have hw9 : w = 5 := (by omega)
         rw [if_neg (by omega), if_neg (by omega), if_neg (by omega), if_neg (by omega), if_neg (by omega), if_pos (by omega)] at hp
         exact hp _ FD.rf)
      | (have hw9 : w = 6 := (by omega)
         rw [if_neg (by omega), if_neg (by omega), if_neg (by omega), if_neg (by omega), if_neg (by omega), if_neg (by omega), if_pos (by omega)] at hp
         exact hp _ hF104)
      | (have hw9 : w = 7 := (by omega)
         rw [if_neg (by omega), if_neg (by omega), if_neg (by omega), if_neg (by omega), if_neg (by omega), if_neg (by omega), if_neg (by omega), if_pos (by omega)] at hp
         exact hp _ hF110)
      | (rw [if_neg (by omega), if_neg (by omega), if_neg (by omega), if_neg (by omega), if_neg (by omega), if_neg (by omega), if_neg (by omega), if_neg (by omega)] at hp
         exact hp _ FD.rf))
    by_cases t13_6 : w = 6
    · refine x_tableIn 102 dX12_of_13 (by omega) (by omega) (by rw [t13_6]; rfl) (by decide) ?_
      refine x_aload_n dX12_of_102 rfl ?_
      refine x_iload_n dX12_of_103 rfl ?_
      refine x_callV1 (mc1 := 0) (ms1 := 0) dX12_of_104 cv_RX12_330 (ci := 12) (k_ob_306 cs) rfl (Nat.le_of_ble_eq_true rfl) (n1 := n - 1) (by omega) (by omega) (by omega) ?_
      refine sp_X12_duesOf_z cs hA hN hT (by omega) (by omega) (fun J104 hF104 => ?_)
      exact x_ireturn dX12_of_107 rfl (by omega) (by omega) (by
    first
      | (rw [if_neg (show ¬ (0 ≤ q ∧ q < A 0) by omega)] at hp; exact hp _ FD.rf)
      | (have hw9 : w = 0 := (by omega)
         rw [if_pos (by omega)] at hp
         rw [show 36 + 2 * q.toNat + w.toNat = 36 + 2 * q.toNat by omega]; exact hp _ FD.rf)
      | (have hw9 : w = 1 := (by omega)
         rw [if_neg (by omega), if_pos (by omega)] at hp
         rw [show 36 + 2 * q.toNat + w.toNat = 37 + 2 * q.toNat by omega]; exact hp _ FD.rf)
      | (have hw9 : w = 2 := (by omega)
         rw [if_neg (by omega), if_neg (by omega), if_pos (by omega)] at hp
         exact hp _ FD.rf)
      | (have hw9 : w = 3 := (by omega)
         rw [if_neg (by omega), if_neg (by omega), if_neg (by omega), if_pos (by omega)] at hp
         exact hp _ FD.rf)
      | (have hw9 : w = 4 := (by omega)
         rw [if_neg (by omega), if_neg (by omega), if_neg (by omega), if_neg (by omega), if_pos (by omega)] at hp
         exact hp _ FD.rf)
      | (have hw9 : w = 5 := (by omega)
         rw [if_neg (by omega), if_neg (by omega), if_neg (by omega), if_neg (by omega), if_neg (by omega), if_pos (by omega)] at hp
         exact hp _ FD.rf)
      | (have hw9 : w = 6 := (by omega)
         rw [if_neg (by omega), if_neg (by omega), if_neg (by omega), if_neg (by omega), if_neg (by omega), if_neg (by omega), if_pos (by omega)] at hp
         exact hp _ hF104)
      | (have hw9 : w = 7 := (by omega)
         rw [if_neg (by omega), if_neg (by omega), if_neg (by omega), if_neg (by omega), if_neg (by omega), if_neg (by omega), if_neg (by omega), if_pos (by omega)] at hp
         exact hp _ hF110)
      | (rw [if_neg (by omega), if_neg (by omega), if_neg (by omega), if_neg (by omega), if_neg (by omega), if_neg (by omega), if_neg (by omega), if_neg (by omega)] at hp
         exact hp _ FD.rf))
    by_cases t13_7 : w = 7
    · refine x_tableIn 108 dX12_of_13 (by omega) (by omega) (by rw [t13_7]; rfl) (by decide) ?_
      refine x_aload_n dX12_of_108 rfl ?_
      refine x_iload_n dX12_of_109 rfl ?_
      refine x_callV1 (mc1 := 0) (ms1 := 0) dX12_of_110 cv_RX12_354 (ci := 12) (k_ob_306 cs) rfl (Nat.le_of_ble_eq_true rfl) (n1 := n - 1) (by omega) (by omega) (by omega) ?_
      rw [asN (a := q) (by omega)]
      refine sp_X12_sellsOf cs hA hN hT (by omega) (by omega) (fun J110 hF110 => ?_)
      exact x_ireturn dX12_of_113 rfl (by omega) (by omega) (by
    first
      | (rw [if_neg (show ¬ (0 ≤ q ∧ q < A 0) by omega)] at hp; exact hp _ FD.rf)
      | (have hw9 : w = 0 := (by omega)
         rw [if_pos (by omega)] at hp
         rw [show 36 + 2 * q.toNat + w.toNat = 36 + 2 * q.toNat by omega]; exact hp _ FD.rf)
      | (have hw9 : w = 1 := (by omega)
         rw [if_neg (by omega), if_pos (by omega)] at hp
         rw [show 36 + 2 * q.toNat + w.toNat = 37 + 2 * q.toNat by omega]; exact hp _ FD.rf)
      | (have hw9 : w = 2 := (by omega)
         rw [if_neg (by omega), if_neg (by omega), if_pos (by omega)] at hp
         exact hp _ FD.rf)
      | (have hw9 : w = 3 := (by omega)
         rw [if_neg (by omega), if_neg (by omega), if_neg (by omega), if_pos (by omega)] at hp
         exact hp _ FD.rf)
      | (have hw9 : w = 4 := (by omega)
         rw [if_neg (by omega), if_neg (by omega), if_neg (by omega), if_neg (by omega), if_pos (by omega)] at hp
         exact hp _ FD.rf)
      | (have hw9 : w = 5 := (by omega)
         rw [if_neg (by omega), if_neg (by omega), if_neg (by omega), if_neg (by omega), if_neg (by omega), if_pos (by omega)] at hp
         exact hp _ FD.rf)
      | (have hw9 : w = 6 := (by omega)
         rw [if_neg (by omega), if_neg (by omega), if_neg (by omega), if_neg (by omega), if_neg (by omega), if_neg (by omega), if_pos (by omega)] at hp
         exact hp _ hF104)
      | (have hw9 : w = 7 := (by omega)
         rw [if_neg (by omega), if_neg (by omega), if_neg (by omega), if_neg (by omega), if_neg (by omega), if_neg (by omega), if_neg (by omega), if_pos (by omega)] at hp
         exact hp _ hF110)
      | (rw [if_neg (by omega), if_neg (by omega), if_neg (by omega), if_neg (by omega), if_neg (by omega), if_neg (by omega), if_neg (by omega), if_neg (by omega)] at hp
         exact hp _ FD.rf))
    refine x_tableOut 114 dX12_of_13 (by omega) (by omega) (by decide) ?_
    refine x_sipush dX12_of_114 (by decide) ?_
    exact x_ireturn dX12_of_117 rfl (by omega) (by omega) (by
    first
      | (rw [if_neg (show ¬ (0 ≤ q ∧ q < A 0) by omega)] at hp; exact hp _ FD.rf)
      | (have hw9 : w = 0 := (by omega)
         rw [if_pos (by omega)] at hp
         rw [show 36 + 2 * q.toNat + w.toNat = 36 + 2 * q.toNat by omega]; exact hp _ FD.rf)
      | (have hw9 : w = 1 := (by omega)
         rw [if_neg (by omega), if_pos (by omega)] at hp
         rw [show 36 + 2 * q.toNat + w.toNat = 37 + 2 * q.toNat by omega]; exact hp _ FD.rf)
      | (have hw9 : w = 2 := (by omega)
         rw [if_neg (by omega), if_neg (by omega), if_pos (by omega)] at hp
         exact hp _ FD.rf)
      | (have hw9 : w = 3 := (by omega)
         rw [if_neg (by omega), if_neg (by omega), if_neg (by omega), if_pos (by omega)] at hp
         exact hp _ FD.rf)
      | (have hw9 : w = 4 := (by omega)
         rw [if_neg (by omega), if_neg (by omega), if_neg (by omega), if_neg (by omega), if_pos (by omega)] at hp
         exact hp _ FD.rf)
      | (have hw9 : w = 5 := (by omega)
         rw [if_neg (by omega), if_neg (by omega), if_neg (by omega), if_neg (by omega), if_neg (by omega), if_pos (by omega)] at hp
         exact hp _ FD.rf)
      | (have hw9 : w = 6 := (by omega)
         rw [if_neg (by omega), if_neg (by omega), if_neg (by omega), if_neg (by omega), if_neg (by omega), if_neg (by omega), if_pos (by omega)] at hp
         exact hp _ hF104)
      | (have hw9 : w = 7 := (by omega)
         rw [if_neg (by omega), if_neg (by omega), if_neg (by omega), if_neg (by omega), if_neg (by omega), if_neg (by omega), if_neg (by omega), if_pos (by omega)] at hp
         exact hp _ hF110)
      | (rw [if_neg (by omega), if_neg (by omega), if_neg (by omega), if_neg (by omega), if_neg (by omega), if_neg (by omega), if_neg (by omega), if_neg (by omega)] at hp
         exact hp _ FD.rf))
  · refine x_sipush dX12_of_8 (by decide) ?_
    exact x_ireturn dX12_of_11 rfl (by omega) (by omega) (by
    first
      | (rw [if_neg (show ¬ (0 ≤ q ∧ q < A 0) by omega)] at hp; exact hp _ FD.rf)
      | (have hw9 : w = 0 := (by omega)
         rw [if_pos (by omega)] at hp
         rw [show 36 + 2 * q.toNat + w.toNat = 36 + 2 * q.toNat by omega]; exact hp _ FD.rf)
      | (have hw9 : w = 1 := (by omega)
         rw [if_neg (by omega), if_pos (by omega)] at hp
         rw [show 36 + 2 * q.toNat + w.toNat = 37 + 2 * q.toNat by omega]; exact hp _ FD.rf)
      | (have hw9 : w = 2 := (by omega)
         rw [if_neg (by omega), if_neg (by omega), if_pos (by omega)] at hp
         exact hp _ FD.rf)
      | (have hw9 : w = 3 := (by omega)
         rw [if_neg (by omega), if_neg (by omega), if_neg (by omega), if_pos (by omega)] at hp
         exact hp _ FD.rf)
      | (have hw9 : w = 4 := (by omega)
         rw [if_neg (by omega), if_neg (by omega), if_neg (by omega), if_neg (by omega), if_pos (by omega)] at hp
         exact hp _ FD.rf)
      | (have hw9 : w = 5 := (by omega)
         rw [if_neg (by omega), if_neg (by omega), if_neg (by omega), if_neg (by omega), if_neg (by omega), if_pos (by omega)] at hp
         exact hp _ FD.rf)
      | (have hw9 : w = 6 := (by omega)
         rw [if_neg (by omega), if_neg (by omega), if_neg (by omega), if_neg (by omega), if_neg (by omega), if_neg (by omega), if_pos (by omega)] at hp
         exact hp _ hF104)
      | (have hw9 : w = 7 := (by omega)
         rw [if_neg (by omega), if_neg (by omega), if_neg (by omega), if_neg (by omega), if_neg (by omega), if_neg (by omega), if_neg (by omega), if_pos (by omega)] at hp
         exact hp _ hF110)
      | (rw [if_neg (by omega), if_neg (by omega), if_neg (by omega), if_neg (by omega), if_neg (by omega), if_neg (by omega), if_neg (by omega), if_neg (by omega)] at hp
         exact hp _ FD.rf))
theorem dop_sm {K : Nat} : ∀ k : Nat, k ≤ K → dopL A tx k = smR (duR A tx) (pwN A K) k := by
  have hbit : ∀ (M k : Nat), (pwN A M).testBit k = decide (k < M ∧ A (12 + 3 * k) = 1) := by
    intro M
    induction M with
    | zero => intro k; simp [pwN]
    | succ M ih =>
      intro k
      simp only [pwN]
      split
      · rename_i h
        rw [Nat.testBit_or, ih k, Nat.testBit_two_pow]
        by_cases e : M = k
        · subst e; simp [h]
        · by_cases e2 : k < M
          · simp [e, e2, show k < M + 1 by omega]
          · simp [e, e2, show ¬ k < M + 1 by omega]
      · rename_i h
        rw [ih k]
        by_cases e : k = M
        · subst e; simp [h]
        · by_cases e2 : k < M
          · simp [e2, show k < M + 1 by omega]
          · simp [e2, show ¬ k < M + 1 by omega]
  intro k
  induction k with
  | zero => intro _; rfl
  | succ k ih =>
    intro hk
    simp only [dopL, smR]
    rw [ih (by omega), hbit]
    by_cases h : A (12 + 3 * k) = 1
    · rw [if_pos h, if_pos (by simp [h]; omega)]; rfl
    · rw [if_neg h, if_neg (by simp [h])]
theorem dX12_is_0 : decode prog_14_method_98_code 0 = .ok (.iload_n 1, 1) := by decide +kernel
theorem dX12_is_1 : decode prog_14_method_98_code 1 = .ok (.iconst 0, 1) := by decide +kernel
theorem dX12_is_2 : decode prog_14_method_98_code 2 = .ok (.iconst 3, 1) := by decide +kernel
theorem dX12_is_3 : decode prog_14_method_98_code 3 = .ok (.invokestatic 81, 3) := by decide +kernel
theorem dX12_is_6 : decode prog_14_method_98_code 6 = .ok (.ifCond .eq 15, 3) := by decide +kernel
theorem dX12_is_9 : decode prog_14_method_98_code 9 = .ok (.aload_n 0, 1) := by decide +kernel
theorem dX12_is_10 : decode prog_14_method_98_code 10 = .ok (.getfield 7, 3) := by decide +kernel
theorem dX12_is_13 : decode prog_14_method_98_code 13 = .ok (.bipush 7, 2) := by decide +kernel
theorem dX12_is_15 : decode prog_14_method_98_code 15 = .ok (.iload_n 1, 1) := by decide +kernel
theorem dX12_is_16 : decode prog_14_method_98_code 16 = .ok (.iadd, 1) := by decide +kernel
theorem dX12_is_17 : decode prog_14_method_98_code 17 = .ok (.iaload, 1) := by decide +kernel
theorem dX12_is_18 : decode prog_14_method_98_code 18 = .ok (.goto 21, 3) := by decide +kernel
theorem dX12_is_21 : decode prog_14_method_98_code 21 = .ok (.iload_n 1, 1) := by decide +kernel
theorem dX12_is_22 : decode prog_14_method_98_code 22 = .ok (.iconst 4, 1) := by decide +kernel
theorem dX12_is_23 : decode prog_14_method_98_code 23 = .ok (.if_icmp .ne 14, 3) := by decide +kernel
theorem dX12_is_26 : decode prog_14_method_98_code 26 = .ok (.aload_n 0, 1) := by decide +kernel
theorem dX12_is_27 : decode prog_14_method_98_code 27 = .ok (.aload_n 0, 1) := by decide +kernel
theorem dX12_is_28 : decode prog_14_method_98_code 28 = .ok (.invokevirtual 324, 3) := by decide +kernel
theorem dX12_is_31 : decode prog_14_method_98_code 31 = .ok (.invokevirtual 402, 3) := by decide +kernel
theorem dX12_is_34 : decode prog_14_method_98_code 34 = .ok (.goto 5, 3) := by decide +kernel
theorem dX12_is_37 : decode prog_14_method_98_code 37 = .ok (.bipush (-2), 2) := by decide +kernel
theorem dX12_is_39 : decode prog_14_method_98_code 39 = .ok (.ireturn, 1) := by decide +kernel
theorem sp_X12_is {w : Int} (cs : CS S R) (hA : I 307 = A) (hN : BN A) (hT : RTx (I 309) A tx) (hw : Rg w) (hn : 7 ≤ n) (hp : ∀ I', FD I I' → Post (some (.int (iI (f_is A tx w)))) S I' R) : Call n 0 0 mX12_is [.ref (S.2.1 306), .int (iI w)] S I R Post := by
  obtain ⟨b0, b1, b2, b7, b8, b9, b10, bq⟩ := id hN
  unfold f_is at hp
  have hpl := pwN_lt8 b0
  rw [dop_sm (K := (A 0).toNat) _ (Nat.le_refl _)] at hp
  refine Call.of (by decide +kernel) (Nat.le_of_ble_eq_true rfl) ?_
  show WP _ _ _ _ _ 0 [(0, _), (1, _)] [] 0 0 _ _ _
  refine x_iload_n dX12_is_0 rfl ?_
  refine x_iconst dX12_is_1 ?_
  refine x_iconst dX12_is_2 ?_
  refine x_callS3 (mc1 := 0) (ms1 := 0) dX12_is_3 cv_RX12_81 (Nat.le_of_ble_eq_true rfl) (n1 := n - 1) (by omega) (by omega) (by omega) ?_
  refine sp_X12_isIn (by omega) (by omega) (by omega) (fun r3 hr3 => ?_)
  refine x_if_eq 21 dX12_is_6 (by decide) (by omega) (fun w6 => ?_) (fun w6 => ?_)
  · refine x_iload_n dX12_is_21 rfl ?_
    refine x_iconst dX12_is_22 ?_
    refine x_icmp_ne 37 dX12_is_23 (by decide) ⟨(by omega), (by omega)⟩ (fun w23 => ?_) (fun w23 => ?_)
    · refine x_bipush dX12_is_37 (by decide) ?_
      exact x_ireturn dX12_is_39 rfl (by omega) (by omega) (by
    first
      | (rcases (show w = 0 ∨ w = 1 ∨ w = 2 ∨ w = 3 by omega) with hw9 | hw9 | hw9 | hw9
         · rw [if_pos (by omega)] at hp; rw [show 7 + w.toNat = 7 by omega]; exact hp _ FD.rf
         · rw [if_neg (by omega), if_pos (by omega)] at hp; rw [show 7 + w.toNat = 8 by omega]; exact hp _ FD.rf
         · rw [if_neg (by omega), if_neg (by omega), if_pos (by omega)] at hp; rw [show 7 + w.toNat = 9 by omega]; exact hp _ FD.rf
         · rw [if_neg (by omega), if_neg (by omega), if_neg (by omega), if_pos (by omega)] at hp; rw [show 7 + w.toNat = 10 by omega]; exact hp _ FD.rf)
      | (have hw9 : w = 4 := (by omega); rw [if_neg (by omega), if_neg (by omega), if_neg (by omega), if_neg (by omega), if_pos (by omega)] at hp; exact hp _ hF31)
      | (rw [if_neg (by omega), if_neg (by omega), if_neg (by omega), if_neg (by omega), if_neg (by omega)] at hp; exact hp _ FD.rf))
    · refine x_aload_n dX12_is_26 rfl ?_
      refine x_aload_n dX12_is_27 rfl ?_
      refine x_callV0 (mc1 := 0) (ms1 := 0) dX12_is_28 cv_RX12_324 (ci := 12) (k_ob_306 cs) rfl (Nat.le_of_ble_eq_true rfl) (n1 := n - 1) (by omega) (by omega) (by omega) ?_
      refine sp_X12_pawnedNow_n cs hA hN (by omega) ?_
      refine x_callV1 (mc1 := 0) (ms1 := 0) dX12_is_31 cv_RX12_402 (ci := 12) (k_ob_306 cs) rfl (Nat.le_of_ble_eq_true rfl) (n1 := n - 1) (by omega) (by omega) (by omega) ?_
      refine sp_X12_duesOfAll cs hpl hA hN hT (by omega) (fun J31 hF31 => ?_)
      refine x_goto 39 dX12_is_34 (by decide) ?_
      exact x_ireturn dX12_is_39 rfl (by omega) (by omega) (by
    first
      | (rcases (show w = 0 ∨ w = 1 ∨ w = 2 ∨ w = 3 by omega) with hw9 | hw9 | hw9 | hw9
         · rw [if_pos (by omega)] at hp; rw [show 7 + w.toNat = 7 by omega]; exact hp _ FD.rf
         · rw [if_neg (by omega), if_pos (by omega)] at hp; rw [show 7 + w.toNat = 8 by omega]; exact hp _ FD.rf
         · rw [if_neg (by omega), if_neg (by omega), if_pos (by omega)] at hp; rw [show 7 + w.toNat = 9 by omega]; exact hp _ FD.rf
         · rw [if_neg (by omega), if_neg (by omega), if_neg (by omega), if_pos (by omega)] at hp; rw [show 7 + w.toNat = 10 by omega]; exact hp _ FD.rf)
      | (have hw9 : w = 4 := (by omega); rw [if_neg (by omega), if_neg (by omega), if_neg (by omega), if_neg (by omega), if_pos (by omega)] at hp; exact hp _ hF31)
      | (rw [if_neg (by omega), if_neg (by omega), if_neg (by omega), if_neg (by omega), if_neg (by omega)] at hp; exact hp _ FD.rf))
  · refine x_aload_n dX12_is_9 rfl ?_
    refine x_getR (b := 307) dX12_is_10 gf_RX12_7 (k_ob_306 cs) (fun _ _ => rfl) (k_r_306_0 cs) ?_
    refine x_bipush dX12_is_13 (by decide) ?_
    refine x_iload_n dX12_is_15 rfl ?_
    refine x_iadd dX12_is_16 ?_
    refine x_ald7 (kk := 7 + w.toNat) (v := A (7 + w.toNat)) dX12_is_17 cs (by omega) (by omega) (by rw [hA]; repeat (first | rfl | rw [upA_s] | rw [upA_o (by omega)])) ?_
    refine x_goto 39 dX12_is_18 (by decide) ?_
    exact x_ireturn dX12_is_39 rfl (by omega) (by omega) (by
    first
      | (rcases (show w = 0 ∨ w = 1 ∨ w = 2 ∨ w = 3 by omega) with hw9 | hw9 | hw9 | hw9
         · rw [if_pos (by omega)] at hp; rw [show 7 + w.toNat = 7 by omega]; exact hp _ FD.rf
         · rw [if_neg (by omega), if_pos (by omega)] at hp; rw [show 7 + w.toNat = 8 by omega]; exact hp _ FD.rf
         · rw [if_neg (by omega), if_neg (by omega), if_pos (by omega)] at hp; rw [show 7 + w.toNat = 9 by omega]; exact hp _ FD.rf
         · rw [if_neg (by omega), if_neg (by omega), if_neg (by omega), if_pos (by omega)] at hp; rw [show 7 + w.toNat = 10 by omega]; exact hp _ FD.rf)
      | (have hw9 : w = 4 := (by omega); rw [if_neg (by omega), if_neg (by omega), if_neg (by omega), if_neg (by omega), if_pos (by omega)] at hp; exact hp _ hF31)
      | (rw [if_neg (by omega), if_neg (by omega), if_neg (by omega), if_neg (by omega), if_neg (by omega)] at hp; exact hp _ FD.rf))
end Ref13
