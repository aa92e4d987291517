section Ref22
variable {n mc ms : Nat} {M : Md} {pc : Nat} {lv : List (Nat × Value)} {st : List Value} {k j : Nat} {Post : PT} {S : Sh} {I : CI} {R : CR} {A : Nat → Int} {tx : Nat → Nat → Int}
theorem smR_cut {r : Nat → Int} {s k : Nat} (h : s < 2 ^ k) : ∀ j : Nat, smR r s (k + j) = smR r s k := by
  intro j
  induction j with
  | zero => rfl
  | succ j ih =>
    show smR r s (k + j) + (if s.testBit (k + j) then r (k + j) else 0) = _
    rw [Nat.testBit_lt_two_pow (Nat.lt_of_lt_of_le h (Nat.pow_le_pow_right (by decide) (by omega))), ih]
    simp
theorem sm_8 {r : Nat → Int} {s k : Nat} (h : s < 2 ^ k) (hk : k ≤ 8) : smR r s k = smR r s 8 := by
  have := smR_cut (r := r) h (8 - k)
  rw [show k + (8 - k) = 8 by omega] at this
  exact this.symm
theorem sd_sub2 {x y : Nat} (hx : x < 2147483648) (h : sdN x y = 0) : Sub x y := by
  intro b hb
  have h1 : (sdN x y).testBit b = false := by rw [h]; simp
  rw [sdN_tb hx, hb] at h1
  cases hy : y.testBit b
  · rw [hy] at h1; exact absurd h1 (by decide)
  · rfl
theorem co_hi {k : Nat} (hk : k = (A 0).toNat) (h8 : k ≤ 8) : ∀ d : Nat, 2 ^ k + d ≤ 256 → coB A tx (2 ^ k + d) = coB A tx (2 ^ k) := by
  intro d
  induction d with
  | zero => intro _; rfl
  | succ d ih =>
    intro h
    show coB A tx (2 ^ k + d + 1) = _
    simp only [coB]
    rw [if_neg (fun hh => ?_), ih (by omega)]
    have h1 := sub_le (sd_sub2 (by omega) hh.1)
    have h2 := pwN_lt (A := A) (A 0).toNat
    rw [← hk] at h1 h2
    omega
theorem co_1 : coB A tx 1 = 0 := by
  simp only [coB]
  exact ite_self 0
theorem dX12_cool_0 : decode prog_14_method_122_code 0 = .ok (.iload_n 1, 1) := by decide +kernel
theorem dX12_cool_1 : decode prog_14_method_122_code 1 = .ok (.iconst 0, 1) := by decide +kernel
theorem dX12_cool_2 : decode prog_14_method_122_code 2 = .ok (.iconst 2, 1) := by decide +kernel
theorem dX12_cool_3 : decode prog_14_method_122_code 3 = .ok (.invokestatic 81, 3) := by decide +kernel
theorem dX12_cool_6 : decode prog_14_method_122_code 6 = .ok (.ifCond .ne 5, 3) := by decide +kernel
theorem dX12_cool_9 : decode prog_14_method_122_code 9 = .ok (.iconst (-1), 1) := by decide +kernel
theorem dX12_cool_10 : decode prog_14_method_122_code 10 = .ok (.ireturn, 1) := by decide +kernel
theorem dX12_cool_11 : decode prog_14_method_122_code 11 = .ok (.iconst 0, 1) := by decide +kernel
theorem dX12_cool_12 : decode prog_14_method_122_code 12 = .ok (.istore_n 2, 1) := by decide +kernel
theorem dX12_cool_13 : decode prog_14_method_122_code 13 = .ok (.iconst 1, 1) := by decide +kernel
theorem dX12_cool_14 : decode prog_14_method_122_code 14 = .ok (.istore_n 3, 1) := by decide +kernel
theorem dX12_cool_15 : decode prog_14_method_122_code 15 = .ok (.iload_n 3, 1) := by decide +kernel
theorem dX12_cool_16 : decode prog_14_method_122_code 16 = .ok (.iconst 1, 1) := by decide +kernel
theorem dX12_cool_17 : decode prog_14_method_122_code 17 = .ok (.aload_n 0, 1) := by decide +kernel
theorem dX12_cool_18 : decode prog_14_method_122_code 18 = .ok (.getfield 7, 3) := by decide +kernel
theorem dX12_cool_21 : decode prog_14_method_122_code 21 = .ok (.iconst 0, 1) := by decide +kernel
theorem dX12_cool_22 : decode prog_14_method_122_code 22 = .ok (.iaload, 1) := by decide +kernel
theorem dX12_cool_23 : decode prog_14_method_122_code 23 = .ok (.ishl, 1) := by decide +kernel
theorem dX12_cool_24 : decode prog_14_method_122_code 24 = .ok (.if_icmp .ge 76, 3) := by decide +kernel
theorem dX12_cool_27 : decode prog_14_method_122_code 27 = .ok (.iload_n 3, 1) := by decide +kernel
theorem dX12_cool_28 : decode prog_14_method_122_code 28 = .ok (.aload_n 0, 1) := by decide +kernel
theorem dX12_cool_29 : decode prog_14_method_122_code 29 = .ok (.invokevirtual 324, 3) := by decide +kernel
theorem dX12_cool_32 : decode prog_14_method_122_code 32 = .ok (.iconst (-1), 1) := by decide +kernel
theorem dX12_cool_33 : decode prog_14_method_122_code 33 = .ok (.ixor, 1) := by decide +kernel
theorem dX12_cool_34 : decode prog_14_method_122_code 34 = .ok (.iand, 1) := by decide +kernel
theorem dX12_cool_35 : decode prog_14_method_122_code 35 = .ok (.ifCond .ne 59, 3) := by decide +kernel
theorem dX12_cool_38 : decode prog_14_method_122_code 38 = .ok (.aload_n 0, 1) := by decide +kernel
theorem dX12_cool_39 : decode prog_14_method_122_code 39 = .ok (.iload_n 3, 1) := by decide +kernel
theorem dX12_cool_40 : decode prog_14_method_122_code 40 = .ok (.invokevirtual 402, 3) := by decide +kernel
theorem dX12_cool_43 : decode prog_14_method_122_code 43 = .ok (.aload_n 0, 1) := by decide +kernel
theorem dX12_cool_44 : decode prog_14_method_122_code 44 = .ok (.getfield 7, 3) := by decide +kernel
theorem dX12_cool_47 : decode prog_14_method_122_code 47 = .ok (.bipush 9, 2) := by decide +kernel
theorem dX12_cool_49 : decode prog_14_method_122_code 49 = .ok (.iaload, 1) := by decide +kernel
theorem dX12_cool_50 : decode prog_14_method_122_code 50 = .ok (.if_icmp .le 6, 3) := by decide +kernel
theorem dX12_cool_53 : decode prog_14_method_122_code 53 = .ok (.goto 41, 3) := by decide +kernel
theorem dX12_cool_56 : decode prog_14_method_122_code 56 = .ok (.aload_n 0, 1) := by decide +kernel
theorem dX12_cool_57 : decode prog_14_method_122_code 57 = .ok (.iload_n 3, 1) := by decide +kernel
theorem dX12_cool_58 : decode prog_14_method_122_code 58 = .ok (.invokevirtual 436, 3) := by decide +kernel
theorem dX12_cool_61 : decode prog_14_method_122_code 61 = .ok (.aload_n 0, 1) := by decide +kernel
theorem dX12_cool_62 : decode prog_14_method_122_code 62 = .ok (.iload_n 2, 1) := by decide +kernel
theorem dX12_cool_63 : decode prog_14_method_122_code 63 = .ok (.invokevirtual 436, 3) := by decide +kernel
theorem dX12_cool_66 : decode prog_14_method_122_code 66 = .ok (.isub, 1) := by decide +kernel
theorem dX12_cool_67 : decode prog_14_method_122_code 67 = .ok (.istore 4, 2) := by decide +kernel
theorem dX12_cool_69 : decode prog_14_method_122_code 69 = .ok (.iload 4, 2) := by decide +kernel
theorem dX12_cool_71 : decode prog_14_method_122_code 71 = .ok (.ifCond .gt 21, 3) := by decide +kernel
theorem dX12_cool_74 : decode prog_14_method_122_code 74 = .ok (.iload 4, 2) := by decide +kernel
theorem dX12_cool_76 : decode prog_14_method_122_code 76 = .ok (.ifCond .ne 18, 3) := by decide +kernel
theorem dX12_cool_79 : decode prog_14_method_122_code 79 = .ok (.aload_n 0, 1) := by decide +kernel
theorem dX12_cool_80 : decode prog_14_method_122_code 80 = .ok (.iload_n 3, 1) := by decide +kernel
theorem dX12_cool_81 : decode prog_14_method_122_code 81 = .ok (.invokevirtual 402, 3) := by decide +kernel
theorem dX12_cool_84 : decode prog_14_method_122_code 84 = .ok (.aload_n 0, 1) := by decide +kernel
theorem dX12_cool_85 : decode prog_14_method_122_code 85 = .ok (.iload_n 2, 1) := by decide +kernel
theorem dX12_cool_86 : decode prog_14_method_122_code 86 = .ok (.invokevirtual 402, 3) := by decide +kernel
theorem dX12_cool_89 : decode prog_14_method_122_code 89 = .ok (.if_icmp .ge 5, 3) := by decide +kernel
theorem dX12_cool_92 : decode prog_14_method_122_code 92 = .ok (.iload_n 3, 1) := by decide +kernel
theorem dX12_cool_93 : decode prog_14_method_122_code 93 = .ok (.istore_n 2, 1) := by decide +kernel
theorem dX12_cool_94 : decode prog_14_method_122_code 94 = .ok (.iinc 3 1, 3) := by decide +kernel
theorem dX12_cool_97 : decode prog_14_method_122_code 97 = .ok (.goto (-82), 3) := by decide +kernel
theorem dX12_cool_100 : decode prog_14_method_122_code 100 = .ok (.iload_n 1, 1) := by decide +kernel
theorem dX12_cool_101 : decode prog_14_method_122_code 101 = .ok (.ifCond .ne 7, 3) := by decide +kernel
theorem dX12_cool_104 : decode prog_14_method_122_code 104 = .ok (.iload_n 2, 1) := by decide +kernel
theorem dX12_cool_105 : decode prog_14_method_122_code 105 = .ok (.goto 21, 3) := by decide +kernel
theorem dX12_cool_108 : decode prog_14_method_122_code 108 = .ok (.iload_n 1, 1) := by decide +kernel
theorem dX12_cool_109 : decode prog_14_method_122_code 109 = .ok (.iconst 1, 1) := by decide +kernel
theorem dX12_cool_110 : decode prog_14_method_122_code 110 = .ok (.if_icmp .ne 11, 3) := by decide +kernel
theorem dX12_cool_113 : decode prog_14_method_122_code 113 = .ok (.aload_n 0, 1) := by decide +kernel
theorem dX12_cool_114 : decode prog_14_method_122_code 114 = .ok (.iload_n 2, 1) := by decide +kernel
theorem dX12_cool_115 : decode prog_14_method_122_code 115 = .ok (.invokevirtual 436, 3) := by decide +kernel
theorem dX12_cool_118 : decode prog_14_method_122_code 118 = .ok (.goto 8, 3) := by decide +kernel
theorem dX12_cool_121 : decode prog_14_method_122_code 121 = .ok (.aload_n 0, 1) := by decide +kernel
theorem dX12_cool_122 : decode prog_14_method_122_code 122 = .ok (.iload_n 2, 1) := by decide +kernel
theorem dX12_cool_123 : decode prog_14_method_122_code 123 = .ok (.invokevirtual 402, 3) := by decide +kernel
theorem dX12_cool_126 : decode prog_14_method_122_code 126 = .ok (.ireturn, 1) := by decide +kernel
theorem lp_X12_cool {w : Int} {K : Nat} (cs : CS S R) (hA : I 307 = A) (hN : BN A) (hT : RTx (I 309) A tx) (hK0 : K = (A 0).toNat) (hw : 0 ≤ w ∧ w ≤ 2) (hn : 7 ≤ n) (hp : ∀ I', FD I I' → Post (some (.int (iI (f_cool A tx w)))) S I' R) : ∀ (d s : Nat) (J : CI), 1 ≤ s → s ≤ 2 ^ K → 2 ^ K - s = d → FD I J → WP n 0 0 mX12_cool Post 15 [(0, .ref (S.2.1 306)), (1, .int (iI w)), (2, .int (iI (coB A tx s : Int))), (3, .int (iI (s : Int)))] [] 0 0 S J R := by
  obtain ⟨b0, b1, b2, b7, b8, b9, b10, bq⟩ := id hN
  have hK8 : K ≤ 8 := by omega
  have h256 : 2 ^ K ≤ 2 ^ 8 := Nat.pow_le_pow_right (by decide) hK8
  have hpl := pwN_lt8 b0
  intro d
  induction d using Nat.strongRecOn with
  | ind d ih =>
    intro s J s0 s1 s2 hF
    have aJ : J 307 = A := by rw [hF 307 (by omega) (by omega) (by omega)]; exact hA
    have tJ : RTx (J 309) A tx := by rw [hF 309 (by omega) (by omega) (by omega)]; exact hT
    have hco := coB_ok (A := A) (tx := tx) s
    have hc8 : coB A tx s < 2 ^ K := by
      have h1 := sub_le (sd_sub2 (by omega) hco.1)
      have h2 := pwN_lt (A := A) (A 0).toNat
      rw [← hK0] at h1 h2
      omega
    have du1 := smR_b2 (r := duR A tx) (s := s) (M := 9999) (fun q => duesP_b _ _ _ _ _ _) 8
    have du2 := smR_b2 (r := duR A tx) (s := coB A tx s) (M := 9999) (fun q => duesP_b _ _ _ _ _ _) 8
    have hhe : ∀ x, x < 2 ^ K → 0 ≤ smR (heR A) x 8 ∧ smR (heR A) x 8 ≤ 72 := by
      intro x hx
      rw [← sm_8 hx hK8]
      have : ∀ k : Nat, k ≤ 8 → 0 ≤ smR (heR A) x k ∧ smR (heR A) x k ≤ 9 * (k : Int) := by
        intro k
        induction k with
        | zero => intro _; simp [smR]
        | succ k ih =>
          intro hk
          have h1 := ih (by omega)
          have h2 := (bq k (by omega)).2.2.1
          have h3 : heR A k = A (14 + 3 * k) := rfl
          simp only [smR]
          split <;> omega
      have := this K hK8
      omega
    have he2 := hhe _ hc8
    have es : coB A tx (s + 1) = if sdN s (pwN A (A 0).toNat) = 0 ∧ smR (duR A tx) s 8 ≤ A 9 ∧ (smR (heR A) (coB A tx s) 8 < smR (heR A) s 8 ∨ (smR (heR A) s 8 = smR (heR A) (coB A tx s) 8 ∧ smR (duR A tx) s 8 < smR (duR A tx) (coB A tx s) 8)) then s else coB A tx s := rfl
    refine x_iload_n dX12_cool_15 rfl ?_
    refine x_iconst dX12_cool_16 ?_
    refine x_aload_n dX12_cool_17 rfl ?_
    refine x_getR (b := 307) dX12_cool_18 gf_RX12_7 (k_ob_306 cs) (fun _ _ => rfl) (k_r_306_0 cs) ?_
    refine x_iconst dX12_cool_21 ?_
    refine x_ald7 (kk := 0) (v := A 0) dX12_cool_22 cs (by omega) (by omega) (by rw [aJ]; repeat (first | rfl | rw [upA_s] | rw [upA_o (by omega)])) ?_
    refine x_ishl dX12_cool_23 ?_
    rw [show shlI 1 (A 0) = ((2 ^ K : Nat) : Int) from (by rw [show A 0 = ((K : Nat) : Int) by omega, shl1_n (by omega)])]
    refine x_icmp_ge 100 dX12_cool_24 (by decide) ⟨(by omega), (by omega)⟩ (fun w24 => ?_) (fun w24 => ?_)
    · refine x_iload_n dX12_cool_100 rfl ?_
      refine x_if_ne 108 dX12_cool_101 (by decide) (by omega) (fun w101 => ?_) (fun w101 => ?_)
      · refine x_iload_n dX12_cool_108 rfl ?_
        refine x_iconst dX12_cool_109 ?_
        refine x_icmp_ne 121 dX12_cool_110 (by decide) ⟨(by omega), (by omega)⟩ (fun w110 => ?_) (fun w110 => ?_)
        · refine x_aload_n dX12_cool_121 rfl ?_
          refine x_iload_n dX12_cool_122 rfl ?_
          refine x_callV1 (mc1 := 0) (ms1 := 0) dX12_cool_123 cv_RX12_402 (ci := 12) (k_ob_306 cs) rfl (Nat.le_of_ble_eq_true rfl) (n1 := n - 1) (by omega) (by omega) (by omega) ?_
          refine sp_X12_duesOfAll (s := coB A tx s) cs (by omega) (by rw [hF 307 (by omega) (by omega) (by omega)]; exact hA) hN (by rw [hF 309 (by omega) (by omega) (by omega)]; exact hT) (by omega) (fun J123 f123 => ?_)
          rw [sm_8 (k := (A 0).toNat) (by rw [← hK0]; omega) (by omega)]
          exact x_ireturn dX12_cool_126 rfl (by omega) (by omega) (by
    obtain rfl : s = 2 ^ K := (by omega)
    have hfin : coB A tx 256 = coB A tx (2 ^ K) := by
      have := co_hi (A := A) (tx := tx) hK0 hK8 (256 - 2 ^ K) (by omega)
      rw [show 2 ^ K + (256 - 2 ^ K) = 256 by omega] at this
      exact this
    unfold f_cool at hp
    rw [if_pos hw, hfin] at hp
    first
      | (rw [if_pos (by omega)] at hp; exact hp _ hF)
      | (rw [if_neg (by omega), if_pos (by omega)] at hp; exact hp _ hF)
      | (rw [if_neg (by omega), if_neg (by omega)] at hp; exact hp _ (FD.tr hF f123)))
        · refine x_aload_n dX12_cool_113 rfl ?_
          refine x_iload_n dX12_cool_114 rfl ?_
          refine x_callV1 (mc1 := 0) (ms1 := 0) dX12_cool_115 cv_RX12_436 (ci := 12) (k_ob_306 cs) rfl (Nat.le_of_ble_eq_true rfl) (n1 := n - 1) (by omega) (by omega) (by omega) ?_
          refine sp_X12_heatOfAll (s := coB A tx s) cs (by omega) (by rw [hF 307 (by omega) (by omega) (by omega)]; exact hA) hN (by omega) ?_
          rw [sm_8 (k := (A 0).toNat) (by rw [← hK0]; omega) (by omega)]
          refine x_goto 126 dX12_cool_118 (by decide) ?_
          exact x_ireturn dX12_cool_126 rfl (by omega) (by omega) (by
    obtain rfl : s = 2 ^ K := (by omega)
    have hfin : coB A tx 256 = coB A tx (2 ^ K) := by
      have := co_hi (A := A) (tx := tx) hK0 hK8 (256 - 2 ^ K) (by omega)
      rw [show 2 ^ K + (256 - 2 ^ K) = 256 by omega] at this
      exact this
    unfold f_cool at hp
    rw [if_pos hw, hfin] at hp
    first
      | (rw [if_pos (by omega)] at hp; exact hp _ hF)
      | (rw [if_neg (by omega), if_pos (by omega)] at hp; exact hp _ hF)
      | (rw [if_neg (by omega), if_neg (by omega)] at hp; exact hp _ (FD.tr hF f123)))
      · refine x_iload_n dX12_cool_104 rfl ?_
        refine x_goto 126 dX12_cool_105 (by decide) ?_
        exact x_ireturn dX12_cool_126 rfl (by omega) (by omega) (by
    obtain rfl : s = 2 ^ K := (by omega)
    have hfin : coB A tx 256 = coB A tx (2 ^ K) := by
      have := co_hi (A := A) (tx := tx) hK0 hK8 (256 - 2 ^ K) (by omega)
      rw [show 2 ^ K + (256 - 2 ^ K) = 256 by omega] at this
      exact this
    unfold f_cool at hp
    rw [if_pos hw, hfin] at hp
    first
      | (rw [if_pos (by omega)] at hp; exact hp _ hF)
      | (rw [if_neg (by omega), if_pos (by omega)] at hp; exact hp _ hF)
      | (rw [if_neg (by omega), if_neg (by omega)] at hp; exact hp _ (FD.tr hF f123)))
    · refine x_iload_n dX12_cool_27 rfl ?_
      refine x_aload_n dX12_cool_28 rfl ?_
      refine x_callV0 (mc1 := 0) (ms1 := 0) dX12_cool_29 cv_RX12_324 (ci := 12) (k_ob_306 cs) rfl (Nat.le_of_ble_eq_true rfl) (n1 := n - 1) (by omega) (by omega) (by omega) ?_
      refine sp_X12_pawnedNow_n cs aJ hN (by omega) ?_
      refine x_iconst dX12_cool_32 ?_
      refine x_ixor dX12_cool_33 ?_
      refine x_iand dX12_cool_34 ?_
      rw [andnot_n (by omega) (by omega)]
      have hsdl := sdN_le s (pwN A (A 0).toNat)
      refine x_if_ne 94 dX12_cool_35 (by decide) (by omega) (fun w35 => ?_) (fun w35 => ?_)
      · refine x_iinc (lv2 := [(3, _), (0, _), (1, _), (2, _)]) dX12_cool_94 rfl (by decide) rfl ?_
        refine x_goto 15 dX12_cool_97 (by decide) ?_
        refine x_sub [1, 2, 3, 0] rfl ?_
        first
          | (have ek := es
             rw [if_neg (by omega)] at ek
             have hg := ih _ (by omega) (s + 1) J (by omega) (by omega) rfl hF
             rw [ek] at hg
             exact hg)
          | (have ek := es
             rw [if_pos (by omega)] at ek
             have hg := ih _ (by omega) (s + 1) J (by omega) (by omega) rfl hF
             rw [ek] at hg
             exact hg)
          | (have ek := es
             rw [if_neg (by omega)] at ek
             have hg := ih _ (by omega) (s + 1) J40 (by omega) (by omega) rfl (FD.tr hF f40)
             rw [ek] at hg
             exact hg)
          | (have ek := es
             rw [if_pos (by omega)] at ek
             have hg := ih _ (by omega) (s + 1) J40 (by omega) (by omega) rfl (FD.tr hF f40)
             rw [ek] at hg
             exact hg)
          | (have ek := es
             rw [if_neg (by omega)] at ek
             have hg := ih _ (by omega) (s + 1) J81 (by omega) (by omega) rfl (FD.tr (FD.tr hF f40) f81)
             rw [ek] at hg
             exact hg)
          | (have ek := es
             rw [if_pos (by omega)] at ek
             have hg := ih _ (by omega) (s + 1) J81 (by omega) (by omega) rfl (FD.tr (FD.tr hF f40) f81)
             rw [ek] at hg
             exact hg)
          | (have ek := es
             rw [if_neg (by omega)] at ek
             have hg := ih _ (by omega) (s + 1) J86 (by omega) (by omega) rfl (FD.tr (FD.tr (FD.tr hF f40) f81) f86)
             rw [ek] at hg
             exact hg)
          | (have ek := es
             rw [if_pos (by omega)] at ek
             have hg := ih _ (by omega) (s + 1) J86 (by omega) (by omega) rfl (FD.tr (FD.tr (FD.tr hF f40) f81) f86)
             rw [ek] at hg
             exact hg)
      · have he1 := hhe s (by omega)
        refine x_aload_n dX12_cool_38 rfl ?_
        refine x_iload_n dX12_cool_39 rfl ?_
        refine x_callV1 (mc1 := 0) (ms1 := 0) dX12_cool_40 cv_RX12_402 (ci := 12) (k_ob_306 cs) rfl (Nat.le_of_ble_eq_true rfl) (n1 := n - 1) (by omega) (by omega) (by omega) ?_
        refine sp_X12_duesOfAll (s := s) cs (by omega) (by rw [hF 307 (by omega) (by omega) (by omega)]; exact hA) hN (by rw [hF 309 (by omega) (by omega) (by omega)]; exact hT) (by omega) (fun J40 f40 => ?_)
        rw [sm_8 (k := (A 0).toNat) (by rw [← hK0]; omega) (by omega)]
        refine x_aload_n dX12_cool_43 rfl ?_
        refine x_getR (b := 307) dX12_cool_44 gf_RX12_7 (k_ob_306 cs) (fun _ _ => rfl) (k_r_306_0 cs) ?_
        refine x_bipush dX12_cool_47 (by decide) ?_
        refine x_ald7 (kk := 9) (v := A 9) dX12_cool_49 cs (by omega) (by omega) (by rw [f40 307 (by omega) (by omega) (by omega), aJ]) ?_
        refine x_icmp_le 56 dX12_cool_50 (by decide) ⟨(by omega), (by omega)⟩ (fun w50 => ?_) (fun w50 => ?_)
        · refine x_aload_n dX12_cool_56 rfl ?_
          refine x_iload_n dX12_cool_57 rfl ?_
          refine x_callV1 (mc1 := 0) (ms1 := 0) dX12_cool_58 cv_RX12_436 (ci := 12) (k_ob_306 cs) rfl (Nat.le_of_ble_eq_true rfl) (n1 := n - 1) (by omega) (by omega) (by omega) ?_
          refine sp_X12_heatOfAll (s := s) cs (by omega) (by rw [f40 307 (by omega) (by omega) (by omega), hF 307 (by omega) (by omega) (by omega)]; exact hA) hN (by omega) ?_
          rw [sm_8 (k := (A 0).toNat) (by rw [← hK0]; omega) (by omega)]
          refine x_aload_n dX12_cool_61 rfl ?_
          refine x_iload_n dX12_cool_62 rfl ?_
          refine x_callV1 (mc1 := 0) (ms1 := 0) dX12_cool_63 cv_RX12_436 (ci := 12) (k_ob_306 cs) rfl (Nat.le_of_ble_eq_true rfl) (n1 := n - 1) (by omega) (by omega) (by omega) ?_
          refine sp_X12_heatOfAll (s := coB A tx s) cs (by omega) (by rw [f40 307 (by omega) (by omega) (by omega), hF 307 (by omega) (by omega) (by omega)]; exact hA) hN (by omega) ?_
          rw [sm_8 (k := (A 0).toNat) (by rw [← hK0]; omega) (by omega)]
          refine x_isub dX12_cool_66 ?_
          refine x_istore (lv2 := [(4, _), (0, _), (1, _), (2, _), (3, _)]) dX12_cool_67 (by decide) rfl ?_
          refine x_iload dX12_cool_69 rfl ?_
          refine x_if_gt 92 dX12_cool_71 (by decide) (by omega) (fun w71 => ?_) (fun w71 => ?_)
          · refine x_iload_n dX12_cool_92 rfl ?_
            refine x_istore_n (lv2 := [(2, _), (4, _), (0, _), (1, _), (3, _)]) dX12_cool_93 (by decide) rfl ?_
            refine x_iinc (lv2 := [(3, _), (2, _), (4, _), (0, _), (1, _)]) dX12_cool_94 rfl (by decide) rfl ?_
            refine x_goto 15 dX12_cool_97 (by decide) ?_
            refine x_sub [3, 4, 1, 0] rfl ?_
            first
              | (have ek := es
                 rw [if_neg (by omega)] at ek
                 have hg := ih _ (by omega) (s + 1) J (by omega) (by omega) rfl hF
                 rw [ek] at hg
                 exact hg)
              | (have ek := es
                 rw [if_pos (by omega)] at ek
                 have hg := ih _ (by omega) (s + 1) J (by omega) (by omega) rfl hF
                 rw [ek] at hg
                 exact hg)
              | (have ek := es
                 rw [if_neg (by omega)] at ek
                 have hg := ih _ (by omega) (s + 1) J40 (by omega) (by omega) rfl (FD.tr hF f40)
                 rw [ek] at hg
                 exact hg)
              | (have ek := es
                 rw [if_pos (by omega)] at ek
                 have hg := ih _ (by omega) (s + 1) J40 (by omega) (by omega) rfl (FD.tr hF f40)
                 rw [ek] at hg
                 exact hg)
              | (have ek := es
                 rw [if_neg (by omega)] at ek
                 have hg := ih _ (by omega) (s + 1) J81 (by omega) (by omega) rfl (FD.tr (FD.tr hF f40) f81)
                 rw [ek] at hg
                 exact hg)
              | (have ek := es
                 rw [if_pos (by omega)] at ek
                 have hg := ih _ (by omega) (s + 1) J81 (by omega) (by omega) rfl (FD.tr (FD.tr hF f40) f81)
                 rw [ek] at hg
                 exact hg)
              | (have ek := es
                 rw [if_neg (by omega)] at ek
                 have hg := ih _ (by omega) (s + 1) J86 (by omega) (by omega) rfl (FD.tr (FD.tr (FD.tr hF f40) f81) f86)
                 rw [ek] at hg
                 exact hg)
              | (have ek := es
                 rw [if_pos (by omega)] at ek
                 have hg := ih _ (by omega) (s + 1) J86 (by omega) (by omega) rfl (FD.tr (FD.tr (FD.tr hF f40) f81) f86)
                 rw [ek] at hg
                 exact hg)
          · refine x_iload dX12_cool_74 rfl ?_
            refine x_if_ne 94 dX12_cool_76 (by decide) (by omega) (fun w76 => ?_) (fun w76 => ?_)
            · refine x_iinc (lv2 := [(3, _), (4, _), (0, _), (1, _), (2, _)]) dX12_cool_94 rfl (by decide) rfl ?_
              refine x_goto 15 dX12_cool_97 (by decide) ?_
              refine x_sub [2, 3, 4, 0] rfl ?_
              first
                | (have ek := es
                   rw [if_neg (by omega)] at ek
                   have hg := ih _ (by omega) (s + 1) J (by omega) (by omega) rfl hF
                   rw [ek] at hg
                   exact hg)
                | (have ek := es
                   rw [if_pos (by omega)] at ek
                   have hg := ih _ (by omega) (s + 1) J (by omega) (by omega) rfl hF
                   rw [ek] at hg
                   exact hg)
                | (have ek := es
                   rw [if_neg (by omega)] at ek
                   have hg := ih _ (by omega) (s + 1) J40 (by omega) (by omega) rfl (FD.tr hF f40)
                   rw [ek] at hg
                   exact hg)
                | (have ek := es
                   rw [if_pos (by omega)] at ek
                   have hg := ih _ (by omega) (s + 1) J40 (by omega) (by omega) rfl (FD.tr hF f40)
                   rw [ek] at hg
                   exact hg)
                | (have ek := es
                   rw [if_neg (by omega)] at ek
                   have hg := ih _ (by omega) (s + 1) J81 (by omega) (by omega) rfl (FD.tr (FD.tr hF f40) f81)
                   rw [ek] at hg
                   exact hg)
                | (have ek := es
                   rw [if_pos (by omega)] at ek
                   have hg := ih _ (by omega) (s + 1) J81 (by omega) (by omega) rfl (FD.tr (FD.tr hF f40) f81)
                   rw [ek] at hg
                   exact hg)
                | (have ek := es
                   rw [if_neg (by omega)] at ek
                   have hg := ih _ (by omega) (s + 1) J86 (by omega) (by omega) rfl (FD.tr (FD.tr (FD.tr hF f40) f81) f86)
                   rw [ek] at hg
                   exact hg)
                | (have ek := es
                   rw [if_pos (by omega)] at ek
                   have hg := ih _ (by omega) (s + 1) J86 (by omega) (by omega) rfl (FD.tr (FD.tr (FD.tr hF f40) f81) f86)
                   rw [ek] at hg
                   exact hg)
            · refine x_aload_n dX12_cool_79 rfl ?_
              refine x_iload_n dX12_cool_80 rfl ?_
              refine x_callV1 (mc1 := 0) (ms1 := 0) dX12_cool_81 cv_RX12_402 (ci := 12) (k_ob_306 cs) rfl (Nat.le_of_ble_eq_true rfl) (n1 := n - 1) (by omega) (by omega) (by omega) ?_
              refine sp_X12_duesOfAll (s := s) cs (by omega) (by rw [f40 307 (by omega) (by omega) (by omega), hF 307 (by omega) (by omega) (by omega)]; exact hA) hN (by rw [f40 309 (by omega) (by omega) (by omega), hF 309 (by omega) (by omega) (by omega)]; exact hT) (by omega) (fun J81 f81 => ?_)
              rw [sm_8 (k := (A 0).toNat) (by rw [← hK0]; omega) (by omega)]
              refine x_aload_n dX12_cool_84 rfl ?_
              refine x_iload_n dX12_cool_85 rfl ?_
              refine x_callV1 (mc1 := 0) (ms1 := 0) dX12_cool_86 cv_RX12_402 (ci := 12) (k_ob_306 cs) rfl (Nat.le_of_ble_eq_true rfl) (n1 := n - 1) (by omega) (by omega) (by omega) ?_
              refine sp_X12_duesOfAll (s := coB A tx s) cs (by omega) (by rw [f81 307 (by omega) (by omega) (by omega), f40 307 (by omega) (by omega) (by omega), hF 307 (by omega) (by omega) (by omega)]; exact hA) hN (by rw [f81 309 (by omega) (by omega) (by omega), f40 309 (by omega) (by omega) (by omega), hF 309 (by omega) (by omega) (by omega)]; exact hT) (by omega) (fun J86 f86 => ?_)
              rw [sm_8 (k := (A 0).toNat) (by rw [← hK0]; omega) (by omega)]
              refine x_icmp_ge 94 dX12_cool_89 (by decide) ⟨(by omega), (by omega)⟩ (fun w89 => ?_) (fun w89 => ?_)
              · refine x_iinc (lv2 := [(3, _), (4, _), (0, _), (1, _), (2, _)]) dX12_cool_94 rfl (by decide) rfl ?_
                refine x_goto 15 dX12_cool_97 (by decide) ?_
                refine x_sub [2, 3, 4, 0] rfl ?_
                first
                  | (have ek := es
                     rw [if_neg (by omega)] at ek
                     have hg := ih _ (by omega) (s + 1) J (by omega) (by omega) rfl hF
                     rw [ek] at hg
                     exact hg)
                  | (have ek := es
                     rw [if_pos (by omega)] at ek
                     have hg := ih _ (by omega) (s + 1) J (by omega) (by omega) rfl hF
                     rw [ek] at hg
                     exact hg)
                  | (have ek := es
                     rw [if_neg (by omega)] at ek
                     have hg := ih _ (by omega) (s + 1) J40 (by omega) (by omega) rfl (FD.tr hF f40)
                     rw [ek] at hg
                     exact hg)
                  | (have ek := es
                     rw [if_pos (by omega)] at ek
                     have hg := ih _ (by omega) (s + 1) J40 (by omega) (by omega) rfl (FD.tr hF f40)
                     rw [ek] at hg
                     exact hg)
                  | (have ek := es
                     rw [if_neg (by omega)] at ek
                     have hg := ih _ (by omega) (s + 1) J81 (by omega) (by omega) rfl (FD.tr (FD.tr hF f40) f81)
                     rw [ek] at hg
                     exact hg)
                  | (have ek := es
                     rw [if_pos (by omega)] at ek
                     have hg := ih _ (by omega) (s + 1) J81 (by omega) (by omega) rfl (FD.tr (FD.tr hF f40) f81)
                     rw [ek] at hg
                     exact hg)
                  | (have ek := es
                     rw [if_neg (by omega)] at ek
                     have hg := ih _ (by omega) (s + 1) J86 (by omega) (by omega) rfl (FD.tr (FD.tr (FD.tr hF f40) f81) f86)
                     rw [ek] at hg
                     exact hg)
                  | (have ek := es
                     rw [if_pos (by omega)] at ek
                     have hg := ih _ (by omega) (s + 1) J86 (by omega) (by omega) rfl (FD.tr (FD.tr (FD.tr hF f40) f81) f86)
                     rw [ek] at hg
                     exact hg)
              · refine x_iload_n dX12_cool_92 rfl ?_
                refine x_istore_n (lv2 := [(2, _), (4, _), (0, _), (1, _), (3, _)]) dX12_cool_93 (by decide) rfl ?_
                refine x_iinc (lv2 := [(3, _), (2, _), (4, _), (0, _), (1, _)]) dX12_cool_94 rfl (by decide) rfl ?_
                refine x_goto 15 dX12_cool_97 (by decide) ?_
                refine x_sub [3, 4, 1, 0] rfl ?_
                first
                  | (have ek := es
                     rw [if_neg (by omega)] at ek
                     have hg := ih _ (by omega) (s + 1) J (by omega) (by omega) rfl hF
                     rw [ek] at hg
                     exact hg)
                  | (have ek := es
                     rw [if_pos (by omega)] at ek
                     have hg := ih _ (by omega) (s + 1) J (by omega) (by omega) rfl hF
                     rw [ek] at hg
                     exact hg)
                  | (have ek := es
                     rw [if_neg (by omega)] at ek
                     have hg := ih _ (by omega) (s + 1) J40 (by omega) (by omega) rfl (FD.tr hF f40)
                     rw [ek] at hg
                     exact hg)
                  | (have ek := es
                     rw [if_pos (by omega)] at ek
                     have hg := ih _ (by omega) (s + 1) J40 (by omega) (by omega) rfl (FD.tr hF f40)
                     rw [ek] at hg
                     exact hg)
                  | (have ek := es
                     rw [if_neg (by omega)] at ek
                     have hg := ih _ (by omega) (s + 1) J81 (by omega) (by omega) rfl (FD.tr (FD.tr hF f40) f81)
                     rw [ek] at hg
                     exact hg)
                  | (have ek := es
                     rw [if_pos (by omega)] at ek
                     have hg := ih _ (by omega) (s + 1) J81 (by omega) (by omega) rfl (FD.tr (FD.tr hF f40) f81)
                     rw [ek] at hg
                     exact hg)
                  | (have ek := es
                     rw [if_neg (by omega)] at ek
                     have hg := ih _ (by omega) (s + 1) J86 (by omega) (by omega) rfl (FD.tr (FD.tr (FD.tr hF f40) f81) f86)
                     rw [ek] at hg
                     exact hg)
                  | (have ek := es
                     rw [if_pos (by omega)] at ek
                     have hg := ih _ (by omega) (s + 1) J86 (by omega) (by omega) rfl (FD.tr (FD.tr (FD.tr hF f40) f81) f86)
                     rw [ek] at hg
                     exact hg)
        · refine x_goto 94 dX12_cool_53 (by decide) ?_
          refine x_iinc (lv2 := [(3, _), (0, _), (1, _), (2, _)]) dX12_cool_94 rfl (by decide) rfl ?_
          refine x_goto 15 dX12_cool_97 (by decide) ?_
          refine x_sub [1, 2, 3, 0] rfl ?_
          first
            | (have ek := es
               rw [if_neg (by omega)] at ek
               have hg := ih _ (by omega) (s + 1) J (by omega) (by omega) rfl hF
               rw [ek] at hg
               exact hg)
            | (have ek := es
               rw [if_pos (by omega)] at ek
               have hg := ih _ (by omega) (s + 1) J (by omega) (by omega) rfl hF
               rw [ek] at hg
               exact hg)
            | (have ek := es
               rw [if_neg (by omega)] at ek
               have hg := ih _ (by omega) (s + 1) J40 (by omega) (by omega) rfl (FD.tr hF f40)
               rw [ek] at hg
               exact hg)
            | (have ek := es
               rw [if_pos (by omega)] at ek
               have hg := ih _ (by omega) (s + 1) J40 (by omega) (by omega) rfl (FD.tr hF f40)
               rw [ek] at hg
               exact hg)
            | (have ek := es
               rw [if_neg (by omega)] at ek
               have hg := ih _ (by omega) (s + 1) J81 (by omega) (by omega) rfl (FD.tr (FD.tr hF f40) f81)
               rw [ek] at hg
               exact hg)
            | (have ek := es
               rw [if_pos (by omega)] at ek
               have hg := ih _ (by omega) (s + 1) J81 (by omega) (by omega) rfl (FD.tr (FD.tr hF f40) f81)
               rw [ek] at hg
               exact hg)
            | (have ek := es
               rw [if_neg (by omega)] at ek
               have hg := ih _ (by omega) (s + 1) J86 (by omega) (by omega) rfl (FD.tr (FD.tr (FD.tr hF f40) f81) f86)
               rw [ek] at hg
               exact hg)
            | (have ek := es
               rw [if_pos (by omega)] at ek
               have hg := ih _ (by omega) (s + 1) J86 (by omega) (by omega) rfl (FD.tr (FD.tr (FD.tr hF f40) f81) f86)
               rw [ek] at hg
               exact hg)
theorem sp_X12_cool {w : Int} (cs : CS S R) (hA : I 307 = A) (hN : BN A) (hT : RTx (I 309) A tx) (hw : Rg w) (hn : 7 ≤ n) (hp : ∀ I', FD I I' → Post (some (.int (iI (f_cool A tx w)))) S I' R) : Call n 0 0 mX12_cool [.ref (S.2.1 306), .int (iI w)] S I R Post := by
  have b0 := hN.1
  refine Call.of (by decide +kernel) (Nat.le_of_ble_eq_true rfl) ?_
  show WP _ _ _ _ _ 0 [(0, _), (1, _)] [] 0 0 _ _ _
  refine x_iload_n dX12_cool_0 rfl ?_
  refine x_iconst dX12_cool_1 ?_
  refine x_iconst dX12_cool_2 ?_
  refine x_callS3 (mc1 := 0) (ms1 := 0) dX12_cool_3 cv_RX12_81 (Nat.le_of_ble_eq_true rfl) (n1 := n - 1) (by omega) (by omega) (by omega) ?_
  refine sp_X12_isIn (by omega) (by omega) (by omega) (fun r3 hr3 => ?_)
  refine x_if_ne 11 dX12_cool_6 (by decide) (by omega) (fun w6 => ?_) (fun w6 => ?_)
  · refine x_iconst dX12_cool_11 ?_
    refine x_istore_n (lv2 := [(2, _), (0, _), (1, _)]) dX12_cool_12 (by decide) rfl ?_
    refine x_iconst dX12_cool_13 ?_
    refine x_istore_n (lv2 := [(3, _), (2, _), (0, _), (1, _)]) dX12_cool_14 (by decide) rfl ?_
    refine x_sub [2, 3, 1, 0] rfl ?_
    have hg := lp_X12_cool (w := w) (K := (A 0).toNat) cs hA hN hT rfl (by omega) hn hp _ 1 I (by omega) (Nat.pow_pos (by decide)) rfl FD.rf
    rw [co_1] at hg
    exact hg
  · refine x_iconst dX12_cool_9 ?_
    exact x_ireturn dX12_cool_10 rfl (by omega) (by omega) (by unfold f_cool at hp; rw [if_neg (by omega)] at hp; exact hp _ FD.rf)
end Ref22
