section Ref3
variable {n mc ms : Nat} {M : Md} {pc : Nat} {lv : List (Nat × Value)} {st : List Value} {k j : Nat} {Post : PT} {S : Sh} {I : CI} {R : CR} {A : Nat → Int} {tx : Nat → Nat → Int}
theorem sp_X12_howOf_z {z : Int} (cs : CS S R) (hA : I 307 = A) (hq : 0 ≤ z ∧ z < 8) (hp : Post (some (.int (iI (A (12 + 3 * z.toNat))))) S I R) : Call n 0 0 mX12_howOf [.ref (S.2.1 306), .int (iI z)] S I R Post := by
  rw [asN hq.1]; exact sp_X12_howOf cs hA (by omega) hp
theorem sp_X12_heatOf_z {z : Int} (cs : CS S R) (hA : I 307 = A) (hq : 0 ≤ z ∧ z < 8) (hp : Post (some (.int (iI (A (14 + 3 * z.toNat))))) S I R) : Call n 0 0 mX12_heatOf [.ref (S.2.1 306), .int (iI z)] S I R Post := by
  rw [asN hq.1]; exact sp_X12_heatOf cs hA (by omega) hp
theorem sp_X12_isPawned_z {z : Int} (cs : CS S R) (hA : I 307 = A) (hq : 0 ≤ z ∧ z < 8) (hr : Rg (A (12 + 3 * z.toNat))) (hn : 1 ≤ n) (hp : ∀ r, (r = 1 ∧ A (12 + 3 * z.toNat) = 1 ∨ r = 0 ∧ ¬ (A (12 + 3 * z.toNat) = 1)) → Post (some (.int (iI r))) S I R) : Call n 0 0 mX12_isPawned [.ref (S.2.1 306), .int (iI z)] S I R Post := by
  rw [asN hq.1]; exact sp_X12_isPawned cs hA (by omega) hr hn hp
theorem sp_X12_daysOf_z {z : Int} (cs : CS S R) (hA : I 307 = A) (hq : 0 ≤ z ∧ z < 8) (hr : Rg (A (12 + 3 * z.toNat))) (hn : 2 ≤ n) (hp : Post (some (.int (iI (if A (12 + 3 * z.toNat) = 1 then A 7 - A (13 + 3 * z.toNat) else 0)))) S I R) : Call n 0 0 mX12_daysOf [.ref (S.2.1 306), .int (iI z)] S I R Post := by
  rw [asN hq.1]; exact sp_X12_daysOf cs hA (by omega) hr hn hp
abbrev hwR (A : Nat → Int) : Nat → Int := fun q => A (12 + 3 * q)
theorem hotL_i {f g : Nat → Int} (hg : ∀ i, i < 8 → 0 ≤ g i) : ∀ k : Nat, k ≤ 8 → ((hotL f g k).1 = -1 ∧ (hotL f g k).2 = -1) ∨ (0 ≤ (hotL f g k).1 ∧ (hotL f g k).1 < k ∧ (hotL f g k).2 = g (hotL f g k).1.toNat) := by
  intro k
  induction k with
  | zero => intro _; exact Or.inl ⟨rfl, rfl⟩
  | succ k ih =>
    intro hk
    have := ih (by omega)
    simp only [hotL]
    split
    · right
      exact ⟨by dsimp only; omega, by dsimp only; omega, by dsimp only; rw [Int.toNat_natCast]⟩
    · rcases this with h | h
      · exact Or.inl h
      · exact Or.inr ⟨h.1, by omega, h.2.2⟩
theorem hotL_congr {f g f' g' : Nat → Int} : ∀ k : Nat, (∀ i, i < k → f i = f' i ∧ g i = g' i) → hotL f g k = hotL f' g' k := by
  intro k
  induction k with
  | zero => intro _; rfl
  | succ k ih =>
    intro h
    simp only [hotL]
    rw [ih (fun i hi => h i (by omega)), (h k (by omega)).1, (h k (by omega)).2]
theorem dX12_hottest_0 : decode prog_14_method_102_code 0 = .ok (.iconst (-1), 1) := by decide +kernel
theorem dX12_hottest_1 : decode prog_14_method_102_code 1 = .ok (.istore_n 1, 1) := by decide +kernel
theorem dX12_hottest_2 : decode prog_14_method_102_code 2 = .ok (.iconst 0, 1) := by decide +kernel
theorem dX12_hottest_3 : decode prog_14_method_102_code 3 = .ok (.istore_n 2, 1) := by decide +kernel
theorem dX12_hottest_4 : decode prog_14_method_102_code 4 = .ok (.iload_n 2, 1) := by decide +kernel
theorem dX12_hottest_5 : decode prog_14_method_102_code 5 = .ok (.aload_n 0, 1) := by decide +kernel
theorem dX12_hottest_6 : decode prog_14_method_102_code 6 = .ok (.getfield 7, 3) := by decide +kernel
theorem dX12_hottest_9 : decode prog_14_method_102_code 9 = .ok (.iconst 0, 1) := by decide +kernel
theorem dX12_hottest_10 : decode prog_14_method_102_code 10 = .ok (.iaload, 1) := by decide +kernel
theorem dX12_hottest_11 : decode prog_14_method_102_code 11 = .ok (.if_icmp .ge 37, 3) := by decide +kernel
theorem dX12_hottest_14 : decode prog_14_method_102_code 14 = .ok (.aload_n 0, 1) := by decide +kernel
theorem dX12_hottest_15 : decode prog_14_method_102_code 15 = .ok (.iload_n 2, 1) := by decide +kernel
theorem dX12_hottest_16 : decode prog_14_method_102_code 16 = .ok (.invokevirtual 85, 3) := by decide +kernel
theorem dX12_hottest_19 : decode prog_14_method_102_code 19 = .ok (.ifCond .ne 23, 3) := by decide +kernel
theorem dX12_hottest_22 : decode prog_14_method_102_code 22 = .ok (.iload_n 1, 1) := by decide +kernel
theorem dX12_hottest_23 : decode prog_14_method_102_code 23 = .ok (.iconst (-1), 1) := by decide +kernel
theorem dX12_hottest_24 : decode prog_14_method_102_code 24 = .ok (.if_icmp .eq 16, 3) := by decide +kernel
theorem dX12_hottest_27 : decode prog_14_method_102_code 27 = .ok (.aload_n 0, 1) := by decide +kernel
theorem dX12_hottest_28 : decode prog_14_method_102_code 28 = .ok (.iload_n 2, 1) := by decide +kernel
theorem dX12_hottest_29 : decode prog_14_method_102_code 29 = .ok (.invokevirtual 281, 3) := by decide +kernel
theorem dX12_hottest_32 : decode prog_14_method_102_code 32 = .ok (.aload_n 0, 1) := by decide +kernel
theorem dX12_hottest_33 : decode prog_14_method_102_code 33 = .ok (.iload_n 1, 1) := by decide +kernel
theorem dX12_hottest_34 : decode prog_14_method_102_code 34 = .ok (.invokevirtual 281, 3) := by decide +kernel
theorem dX12_hottest_37 : decode prog_14_method_102_code 37 = .ok (.if_icmp .le 5, 3) := by decide +kernel
theorem dX12_hottest_40 : decode prog_14_method_102_code 40 = .ok (.iload_n 2, 1) := by decide +kernel
theorem dX12_hottest_41 : decode prog_14_method_102_code 41 = .ok (.istore_n 1, 1) := by decide +kernel
theorem dX12_hottest_42 : decode prog_14_method_102_code 42 = .ok (.iinc 2 1, 3) := by decide +kernel
theorem dX12_hottest_45 : decode prog_14_method_102_code 45 = .ok (.goto (-41), 3) := by decide +kernel
theorem dX12_hottest_48 : decode prog_14_method_102_code 48 = .ok (.iload_n 1, 1) := by decide +kernel
theorem dX12_hottest_49 : decode prog_14_method_102_code 49 = .ok (.ireturn, 1) := by decide +kernel
theorem lp_X12_hottest (cs : CS S R) (hA : I 307 = A) (hb : BA A) (hn : 1 ≤ n) (hp : Post (some (.int (iI (hotL (hwR A) (heR A) (A 0).toNat).1))) S I R) : ∀ (d k : Nat), (k : Int) ≤ A 0 → (A 0).toNat - k = d → WP n 0 0 mX12_hottest Post 4 [(0, .ref (S.2.1 306)), (1, .int (iI (hotL (hwR A) (heR A) k).1)), (2, .int (iI (k : Int)))] [] 0 0 S I R := by
  have b0 := hb.1.1
  have hq : ∀ q : Nat, q < 8 → (0 ≤ A (12 + 3 * q) ∧ A (12 + 3 * q) ≤ 3) ∧ (0 ≤ A (14 + 3 * q) ∧ A (14 + 3 * q) ≤ 9) := fun q h => by
    have := hb.1.2.2.2.2.2.1 q h
    rw [show 6 + 6 + 3 * q = 12 + 3 * q by omega, show 6 + 8 + 3 * q = 14 + 3 * q by omega] at this
    exact ⟨this.1, this.2.2⟩
  intro d
  induction d using Nat.strongRecOn with
  | ind d ih =>
    intro k k1 k2
    obtain ⟨z, hz⟩ : ∃ z, z = hotL (hwR A) (heR A) k := ⟨_, rfl⟩
    have hi := hotL_i (f := hwR A) (g := heR A) (fun i h => (hq i h).2.1) k (by omega)
    have es : hotL (hwR A) (heR A) (k + 1) = if hwR A k = 0 ∧ z.2 < heR A k then ((k : Int), heR A k) else z := by rw [hz]; rfl
    rw [← hz] at hi ⊢
    have eh : hwR A k = A (12 + 3 * k) := rfl
    have ee : heR A k = A (14 + 3 * k) := rfl
    have ez : heR A z.1.toNat = A (14 + 3 * z.1.toNat) := rfl
    by_cases hkk : (k : Int) < A 0
    · have hqk := hq k (by omega)
      have hqz : 0 ≤ z.1 → (0 ≤ A (14 + 3 * z.1.toNat) ∧ A (14 + 3 * z.1.toNat) ≤ 9) := fun h => (hq _ (by omega)).2
      refine x_iload_n dX12_hottest_4 rfl ?_
      refine x_aload_n dX12_hottest_5 rfl ?_
      refine x_getR (b := 307) dX12_hottest_6 gf_RX12_7 (k_ob_306 cs) (fun _ _ => rfl) (k_r_306_0 cs) ?_
      refine x_iconst dX12_hottest_9 ?_
      refine x_ald7 (kk := 0) (v := A 0) dX12_hottest_10 cs (by omega) (by omega) (by rw [hA]; repeat (first | rfl | rw [upA_s] | rw [upA_o (by omega)])) ?_
      refine x_icmp_ge 48 dX12_hottest_11 (by decide) ⟨(by omega), (by omega)⟩ (fun w11 => ?_) (fun w11 => ?_)
      · exfalso; omega
      · refine x_aload_n dX12_hottest_14 rfl ?_
        refine x_iload_n dX12_hottest_15 rfl ?_
        refine x_callV1 (mc1 := 0) (ms1 := 0) dX12_hottest_16 cv_RX12_85 (ci := 12) (k_ob_306 cs) rfl (Nat.le_of_ble_eq_true rfl) (n1 := n - 1) (by omega) (by omega) (by omega) ?_
        refine sp_X12_howOf cs hA (by omega) ?_
        refine x_if_ne 42 dX12_hottest_19 (by decide) (by omega) (fun w19 => ?_) (fun w19 => ?_)
        · refine x_iinc (lv2 := [(2, _), (0, _), (1, _)]) dX12_hottest_42 rfl (by decide) rfl ?_
          refine x_goto 4 dX12_hottest_45 (by decide) ?_
          refine x_sub [1, 2, 0] rfl ?_
          have hg := ih _ (by omega) (k + 1) (by omega) rfl
          first
            | (rw [es, if_pos (by omega)] at hg; exact hg)
            | (rw [es, if_neg (by omega)] at hg; exact hg)
        · refine x_iload_n dX12_hottest_22 rfl ?_
          refine x_iconst dX12_hottest_23 ?_
          refine x_icmp_eq 40 dX12_hottest_24 (by decide) ⟨(by omega), (by omega)⟩ (fun w24 => ?_) (fun w24 => ?_)
          · refine x_iload_n dX12_hottest_40 rfl ?_
            refine x_istore_n (lv2 := [(1, _), (0, _), (2, _)]) dX12_hottest_41 (by decide) rfl ?_
            refine x_iinc (lv2 := [(2, _), (1, _), (0, _)]) dX12_hottest_42 rfl (by decide) rfl ?_
            refine x_goto 4 dX12_hottest_45 (by decide) ?_
            refine x_sub [2, 1, 0] rfl ?_
            have hg := ih _ (by omega) (k + 1) (by omega) rfl
            first
              | (rw [es, if_pos (by omega)] at hg; exact hg)
              | (rw [es, if_neg (by omega)] at hg; exact hg)
          · refine x_aload_n dX12_hottest_27 rfl ?_
            refine x_iload_n dX12_hottest_28 rfl ?_
            refine x_callV1 (mc1 := 0) (ms1 := 0) dX12_hottest_29 cv_RX12_281 (ci := 12) (k_ob_306 cs) rfl (Nat.le_of_ble_eq_true rfl) (n1 := n - 1) (by omega) (by omega) (by omega) ?_
            refine sp_X12_heatOf cs hA (by omega) ?_
            refine x_aload_n dX12_hottest_32 rfl ?_
            refine x_iload_n dX12_hottest_33 rfl ?_
            refine x_callV1 (mc1 := 0) (ms1 := 0) dX12_hottest_34 cv_RX12_281 (ci := 12) (k_ob_306 cs) rfl (Nat.le_of_ble_eq_true rfl) (n1 := n - 1) (by omega) (by omega) (by omega) ?_
            refine sp_X12_heatOf_z cs hA (by omega) ?_
            have hqz2 := hqz (by omega)
            refine x_icmp_le 42 dX12_hottest_37 (by decide) ⟨(by omega), (by omega)⟩ (fun w37 => ?_) (fun w37 => ?_)
            · refine x_iinc (lv2 := [(2, _), (0, _), (1, _)]) dX12_hottest_42 rfl (by decide) rfl ?_
              refine x_goto 4 dX12_hottest_45 (by decide) ?_
              refine x_sub [1, 2, 0] rfl ?_
              have hg := ih _ (by omega) (k + 1) (by omega) rfl
              first
                | (rw [es, if_pos (by omega)] at hg; exact hg)
                | (rw [es, if_neg (by omega)] at hg; exact hg)
            · refine x_iload_n dX12_hottest_40 rfl ?_
              refine x_istore_n (lv2 := [(1, _), (0, _), (2, _)]) dX12_hottest_41 (by decide) rfl ?_
              refine x_iinc (lv2 := [(2, _), (1, _), (0, _)]) dX12_hottest_42 rfl (by decide) rfl ?_
              refine x_goto 4 dX12_hottest_45 (by decide) ?_
              refine x_sub [2, 1, 0] rfl ?_
              have hg := ih _ (by omega) (k + 1) (by omega) rfl
              first
                | (rw [es, if_pos (by omega)] at hg; exact hg)
                | (rw [es, if_neg (by omega)] at hg; exact hg)
    · obtain rfl : k = (A 0).toNat := by omega
      rw [← hz] at hp
      refine x_iload_n dX12_hottest_4 rfl ?_
      refine x_aload_n dX12_hottest_5 rfl ?_
      refine x_getR (b := 307) dX12_hottest_6 gf_RX12_7 (k_ob_306 cs) (fun _ _ => rfl) (k_r_306_0 cs) ?_
      refine x_iconst dX12_hottest_9 ?_
      refine x_ald7 (kk := 0) (v := A 0) dX12_hottest_10 cs (by omega) (by omega) (by rw [hA]; repeat (first | rfl | rw [upA_s] | rw [upA_o (by omega)])) ?_
      refine x_icmp_ge 48 dX12_hottest_11 (by decide) ⟨(by omega), (by omega)⟩ (fun w11 => ?_) (fun w11 => ?_)
      · refine x_iload_n dX12_hottest_48 rfl ?_
        exact x_ireturn dX12_hottest_49 rfl (by omega) (by omega) (hp)
      · exfalso; omega
theorem sp_X12_hottest  (cs : CS S R) (hA : I 307 = A) (hb : BA A) (hn : 1 ≤ n) (hp : Post (some (.int (iI ((hotL (hwR A) (heR A) (A 0).toNat).1)))) S I R) : Call n 0 0 mX12_hottest [.ref (S.2.1 306)] S I R Post := by
  have b0 := hb.1.1
  refine Call.of (by decide +kernel) (Nat.le_of_ble_eq_true rfl) ?_
  show WP _ _ _ _ _ 0 [(0, _)] [] 0 0 _ _ _
  refine x_iconst dX12_hottest_0 ?_
  refine x_istore_n (lv2 := [(1, _), (0, _)]) dX12_hottest_1 (by decide) rfl ?_
  refine x_iconst dX12_hottest_2 ?_
  refine x_istore_n (lv2 := [(2, _), (1, _), (0, _)]) dX12_hottest_3 (by decide) rfl ?_
  refine x_sub [2, 1, 0] rfl ?_
  exact lp_X12_hottest cs hA hb hn hp _ 0 (by omega) rfl
theorem dX12_about_0 : decode prog_14_method_146_code 0 = .ok (.iload_n 1, 1) := by decide +kernel
theorem dX12_about_1 : decode prog_14_method_146_code 1 = .ok (.iconst 0, 1) := by decide +kernel
theorem dX12_about_2 : decode prog_14_method_146_code 2 = .ok (.bipush 6, 2) := by decide +kernel
theorem dX12_about_4 : decode prog_14_method_146_code 4 = .ok (.invokestatic 81, 3) := by decide +kernel
theorem dX12_about_7 : decode prog_14_method_146_code 7 = .ok (.ifCond .eq 12, 3) := by decide +kernel
theorem dX12_about_10 : decode prog_14_method_146_code 10 = .ok (.aload_n 0, 1) := by decide +kernel
theorem dX12_about_11 : decode prog_14_method_146_code 11 = .ok (.getfield 7, 3) := by decide +kernel
theorem dX12_about_14 : decode prog_14_method_146_code 14 = .ok (.iload_n 1, 1) := by decide +kernel
theorem dX12_about_15 : decode prog_14_method_146_code 15 = .ok (.iaload, 1) := by decide +kernel
theorem dX12_about_16 : decode prog_14_method_146_code 16 = .ok (.goto 18, 3) := by decide +kernel
theorem dX12_about_19 : decode prog_14_method_146_code 19 = .ok (.iload_n 1, 1) := by decide +kernel
theorem dX12_about_20 : decode prog_14_method_146_code 20 = .ok (.bipush 7, 2) := by decide +kernel
theorem dX12_about_22 : decode prog_14_method_146_code 22 = .ok (.if_icmp .ne 10, 3) := by decide +kernel
theorem dX12_about_25 : decode prog_14_method_146_code 25 = .ok (.aload_n 0, 1) := by decide +kernel
theorem dX12_about_26 : decode prog_14_method_146_code 26 = .ok (.getfield 100, 3) := by decide +kernel
theorem dX12_about_29 : decode prog_14_method_146_code 29 = .ok (.goto 5, 3) := by decide +kernel
theorem dX12_about_32 : decode prog_14_method_146_code 32 = .ok (.bipush (-2), 2) := by decide +kernel
theorem dX12_about_34 : decode prog_14_method_146_code 34 = .ok (.ireturn, 1) := by decide +kernel
theorem sp_X12_about {q : Int} (cs : CS S R) (hA : I 307 = A) (hq : Rg q) (hn : 1 ≤ n) (hp : ∀ r, ((0 ≤ q ∧ q ≤ 6 ∧ r = A q.toNat) ∨ (q = 7 ∧ r = I 306 4) ∨ (¬ (0 ≤ q ∧ q ≤ 7) ∧ r = -2)) → Post (some (.int (iI r))) S I R) : Call n 0 0 mX12_about [.ref (S.2.1 306), .int (iI q)] S I R Post := by
  refine Call.of (by decide +kernel) (Nat.le_of_ble_eq_true rfl) ?_
  show WP _ _ _ _ _ 0 [(0, _), (1, _)] [] 0 0 _ _ _
  refine x_iload_n dX12_about_0 rfl ?_
  refine x_iconst dX12_about_1 ?_
  refine x_bipush dX12_about_2 (by decide) ?_
  refine x_callS3 (mc1 := 0) (ms1 := 0) dX12_about_4 cv_RX12_81 (Nat.le_of_ble_eq_true rfl) (n1 := n - 1) (by omega) (by omega) (by omega) ?_
  refine sp_X12_isIn (by omega) (by omega) (by omega) (fun r4 hr4 => ?_)
  refine x_if_eq 19 dX12_about_7 (by decide) (by omega) (fun w7 => ?_) (fun w7 => ?_)
  · refine x_iload_n dX12_about_19 rfl ?_
    refine x_bipush dX12_about_20 (by decide) ?_
    refine x_icmp_ne 32 dX12_about_22 (by decide) ⟨(by omega), (by omega)⟩ (fun w22 => ?_) (fun w22 => ?_)
    · refine x_bipush dX12_about_32 (by decide) ?_
      exact x_ireturn dX12_about_34 rfl (by omega) (by omega) (by first | exact hp _ (Or.inl ⟨by omega, by omega, rfl⟩) | exact hp _ (Or.inr (Or.inl ⟨by omega, rfl⟩)) | exact hp _ (Or.inr (Or.inr ⟨by omega, rfl⟩)))
    · refine x_aload_n dX12_about_25 rfl ?_
      refine x_getI dX12_about_26 gf_RX12_100 (k_ob_306 cs) (fun _ _ => rfl) ?_
      refine x_goto 34 dX12_about_29 (by decide) ?_
      exact x_ireturn dX12_about_34 rfl (by omega) (by omega) (by first | exact hp _ (Or.inl ⟨by omega, by omega, rfl⟩) | exact hp _ (Or.inr (Or.inl ⟨by omega, rfl⟩)) | exact hp _ (Or.inr (Or.inr ⟨by omega, rfl⟩)))
  · refine x_aload_n dX12_about_10 rfl ?_
    refine x_getR (b := 307) dX12_about_11 gf_RX12_7 (k_ob_306 cs) (fun _ _ => rfl) (k_r_306_0 cs) ?_
    refine x_iload_n dX12_about_14 rfl ?_
    refine x_ald7 (kk := q.toNat) (v := A (q.toNat)) dX12_about_15 cs (by omega) (by omega) (by rw [hA]; repeat (first | rfl | rw [upA_s] | rw [upA_o (by omega)])) ?_
    refine x_goto 34 dX12_about_16 (by decide) ?_
    exact x_ireturn dX12_about_34 rfl (by omega) (by omega) (by first | exact hp _ (Or.inl ⟨by omega, by omega, rfl⟩) | exact hp _ (Or.inr (Or.inl ⟨by omega, rfl⟩)) | exact hp _ (Or.inr (Or.inr ⟨by omega, rfl⟩)))
theorem dX12_fault_0 : decode prog_14_method_61_code 0 = .ok (.iload_n 1, 1) := by decide +kernel
theorem dX12_fault_1 : decode prog_14_method_61_code 1 = .ok (.ifCond .ne 10, 3) := by decide +kernel
theorem dX12_fault_4 : decode prog_14_method_61_code 4 = .ok (.aload_n 0, 1) := by decide +kernel
theorem dX12_fault_5 : decode prog_14_method_61_code 5 = .ok (.getfield 22, 3) := by decide +kernel
theorem dX12_fault_8 : decode prog_14_method_61_code 8 = .ok (.goto 16, 3) := by decide +kernel
theorem dX12_fault_11 : decode prog_14_method_61_code 11 = .ok (.iload_n 1, 1) := by decide +kernel
theorem dX12_fault_12 : decode prog_14_method_61_code 12 = .ok (.iconst 1, 1) := by decide +kernel
theorem dX12_fault_13 : decode prog_14_method_61_code 13 = .ok (.if_icmp .ne 10, 3) := by decide +kernel
theorem dX12_fault_16 : decode prog_14_method_61_code 16 = .ok (.aload_n 0, 1) := by decide +kernel
theorem dX12_fault_17 : decode prog_14_method_61_code 17 = .ok (.getfield 26, 3) := by decide +kernel
theorem dX12_fault_20 : decode prog_14_method_61_code 20 = .ok (.goto 4, 3) := by decide +kernel
theorem dX12_fault_23 : decode prog_14_method_61_code 23 = .ok (.iconst (-1), 1) := by decide +kernel
theorem dX12_fault_24 : decode prog_14_method_61_code 24 = .ok (.ireturn, 1) := by decide +kernel
theorem sp_X12_fault {q : Int} (cs : CS S R) (hq : Rg q) (hp : ∀ r, (q = 0 ∧ r = I 306 5 ∨ q = 1 ∧ r = I 306 6 ∨ ¬ (q = 0 ∨ q = 1) ∧ r = -1) → Post (some (.int (iI r))) S I R) : Call n 0 0 mX12_fault [.ref (S.2.1 306), .int (iI q)] S I R Post := by
  refine Call.of (by decide +kernel) (Nat.le_of_ble_eq_true rfl) ?_
  show WP _ _ _ _ _ 0 [(0, _), (1, _)] [] 0 0 _ _ _
  refine x_iload_n dX12_fault_0 rfl ?_
  refine x_if_ne 11 dX12_fault_1 (by decide) (by omega) (fun w1 => ?_) (fun w1 => ?_)
  · refine x_iload_n dX12_fault_11 rfl ?_
    refine x_iconst dX12_fault_12 ?_
    refine x_icmp_ne 23 dX12_fault_13 (by decide) ⟨(by omega), (by omega)⟩ (fun w13 => ?_) (fun w13 => ?_)
    · refine x_iconst dX12_fault_23 ?_
      exact x_ireturn dX12_fault_24 rfl (by omega) (by omega) (by first | exact hp _ (Or.inl ⟨by omega, rfl⟩) | exact hp _ (Or.inr (Or.inl ⟨by omega, rfl⟩)) | exact hp _ (Or.inr (Or.inr ⟨by omega, rfl⟩)))
    · refine x_aload_n dX12_fault_16 rfl ?_
      refine x_getI dX12_fault_17 gf_RX12_26 (k_ob_306 cs) (fun _ _ => rfl) ?_
      refine x_goto 24 dX12_fault_20 (by decide) ?_
      exact x_ireturn dX12_fault_24 rfl (by omega) (by omega) (by first | exact hp _ (Or.inl ⟨by omega, rfl⟩) | exact hp _ (Or.inr (Or.inl ⟨by omega, rfl⟩)) | exact hp _ (Or.inr (Or.inr ⟨by omega, rfl⟩)))
  · refine x_aload_n dX12_fault_4 rfl ?_
    refine x_getI dX12_fault_5 gf_RX12_22 (k_ob_306 cs) (fun _ _ => rfl) ?_
    refine x_goto 24 dX12_fault_8 (by decide) ?_
    exact x_ireturn dX12_fault_24 rfl (by omega) (by omega) (by first | exact hp _ (Or.inl ⟨by omega, rfl⟩) | exact hp _ (Or.inr (Or.inl ⟨by omega, rfl⟩)) | exact hp _ (Or.inr (Or.inr ⟨by omega, rfl⟩)))
theorem dX12_end_0 : decode prog_14_method_22_code 0 = .ok (.iload_n 1, 1) := by decide +kernel
theorem dX12_end_1 : decode prog_14_method_22_code 1 = .ok (.iconst 0, 1) := by decide +kernel
theorem dX12_end_2 : decode prog_14_method_22_code 2 = .ok (.aload_n 0, 1) := by decide +kernel
theorem dX12_end_3 : decode prog_14_method_22_code 3 = .ok (.getfield 100, 3) := by decide +kernel
theorem dX12_end_6 : decode prog_14_method_22_code 6 = .ok (.invokestatic 81, 3) := by decide +kernel
theorem dX12_end_9 : decode prog_14_method_22_code 9 = .ok (.ifCond .ne 5, 3) := by decide +kernel
theorem dX12_end_12 : decode prog_14_method_22_code 12 = .ok (.iconst (-1), 1) := by decide +kernel
theorem dX12_end_13 : decode prog_14_method_22_code 13 = .ok (.ireturn, 1) := by decide +kernel
theorem dX12_end_14 : decode prog_14_method_22_code 14 = .ok (.aload_n 0, 1) := by decide +kernel
theorem dX12_end_15 : decode prog_14_method_22_code 15 = .ok (.iload_n 1, 1) := by decide +kernel
theorem dX12_end_16 : decode prog_14_method_22_code 16 = .ok (.putfield 100, 3) := by decide +kernel
theorem dX12_end_19 : decode prog_14_method_22_code 19 = .ok (.iload_n 1, 1) := by decide +kernel
theorem dX12_end_20 : decode prog_14_method_22_code 20 = .ok (.ireturn, 1) := by decide +kernel
theorem sp_X12_end {q : Int} (cs : CS S R) (hq : Rg q) (hl : 0 ≤ I 306 4 ∧ I 306 4 ≤ 300) (hn : 1 ≤ n) (hp : ∀ r x, (0 ≤ q ∧ q ≤ I 306 4 ∧ r = q ∧ x = q ∨ ¬ (0 ≤ q ∧ q ≤ I 306 4) ∧ r = -1 ∧ x = I 306 4) → Post (some (.int (iI r))) S (uI I 306 4 x) R) : Call n 0 0 mX12_end [.ref (S.2.1 306), .int (iI q)] S I R Post := by
  refine Call.of (by decide +kernel) (Nat.le_of_ble_eq_true rfl) ?_
  show WP _ _ _ _ _ 0 [(0, _), (1, _)] [] 0 0 _ _ _
  refine x_iload_n dX12_end_0 rfl ?_
  refine x_iconst dX12_end_1 ?_
  refine x_aload_n dX12_end_2 rfl ?_
  refine x_getI dX12_end_3 gf_RX12_100 (k_ob_306 cs) (fun _ _ => rfl) ?_
  refine x_callS3 (mc1 := 0) (ms1 := 0) dX12_end_6 cv_RX12_81 (Nat.le_of_ble_eq_true rfl) (n1 := n - 1) (by omega) (by omega) (by omega) ?_
  refine sp_X12_isIn (by omega) (by omega) (by omega) (fun r6 hr6 => ?_)
  refine x_if_ne 14 dX12_end_9 (by decide) (by omega) (fun w9 => ?_) (fun w9 => ?_)
  · refine x_aload_n dX12_end_14 rfl ?_
    refine x_iload_n dX12_end_15 rfl ?_
    refine x_putI dX12_end_16 gf_RX12_100 (k_ob_306 cs) rfl ?_
    refine x_iload_n dX12_end_19 rfl ?_
    exact x_ireturn dX12_end_20 rfl (by omega) (by omega) (by first | exact hp _ _ (Or.inl ⟨by omega, by omega, rfl, rfl⟩) | (have := hp (-1) (I 306 4) (Or.inr ⟨by omega, rfl, rfl⟩); rw [uI_id] at this; exact this))
  · refine x_iconst dX12_end_12 ?_
    exact x_ireturn dX12_end_13 rfl (by omega) (by omega) (by first | exact hp _ _ (Or.inl ⟨by omega, by omega, rfl, rfl⟩) | (have := hp (-1) (I 306 4) (Or.inr ⟨by omega, rfl, rfl⟩); rw [uI_id] at this; exact this))
/-- what stays when the reference's tape is written -/
def Fq (I I' : CI) : Prop := (∀ c, c ≠ 306 → c ≠ 310 → I' c = I c) ∧ ∀ k, k ≠ 4 → I' 306 k = I 306 k
theorem Fq.rf {I : CI} : Fq I I := ⟨fun _ _ _ => rfl, fun _ _ => rfl⟩
theorem Fq.tr {I I' I'' : CI} (h : Fq I I') (h2 : Fq I' I'') : Fq I I'' := ⟨fun c h1 h3 => (h2.1 c h1 h3).trans (h.1 c h1 h3), fun k h1 => (h2.2 k h1).trans (h.2 k h1)⟩
theorem uI_up {I : CI} {a i : Nat} {v : Int} : uI I a i v a = upA (I a) i v := by
  funext x; unfold uI upA
  by_cases h : x = i
  · rw [if_pos ⟨rfl, h⟩, if_pos h]
  · rw [if_neg (fun q => h q.2), if_neg h]
theorem dX12_four_0 : decode prog_14_method_20_code 0 = .ok (.bipush 24, 2) := by decide +kernel
theorem dX12_four_2 : decode prog_14_method_20_code 2 = .ok (.istore_n 2, 1) := by decide +kernel
theorem dX12_four_3 : decode prog_14_method_20_code 3 = .ok (.iload_n 2, 1) := by decide +kernel
theorem dX12_four_4 : decode prog_14_method_20_code 4 = .ok (.ifCond .lt 35, 3) := by decide +kernel
theorem dX12_four_7 : decode prog_14_method_20_code 7 = .ok (.aload_n 0, 1) := by decide +kernel
theorem dX12_four_8 : decode prog_14_method_20_code 8 = .ok (.getfield 19, 3) := by decide +kernel
theorem dX12_four_11 : decode prog_14_method_20_code 11 = .ok (.aload_n 0, 1) := by decide +kernel
theorem dX12_four_12 : decode prog_14_method_20_code 12 = .ok (.getfield 100, 3) := by decide +kernel
theorem dX12_four_15 : decode prog_14_method_20_code 15 = .ok (.iload_n 1, 1) := by decide +kernel
theorem dX12_four_16 : decode prog_14_method_20_code 16 = .ok (.iload_n 2, 1) := by decide +kernel
theorem dX12_four_17 : decode prog_14_method_20_code 17 = .ok (.ishr, 1) := by decide +kernel
theorem dX12_four_18 : decode prog_14_method_20_code 18 = .ok (.sipush 255, 3) := by decide +kernel
theorem dX12_four_21 : decode prog_14_method_20_code 21 = .ok (.iand, 1) := by decide +kernel
theorem dX12_four_22 : decode prog_14_method_20_code 22 = .ok (.iastore, 1) := by decide +kernel
theorem dX12_four_23 : decode prog_14_method_20_code 23 = .ok (.aload_n 0, 1) := by decide +kernel
theorem dX12_four_24 : decode prog_14_method_20_code 24 = .ok (.dup, 1) := by decide +kernel
theorem dX12_four_25 : decode prog_14_method_20_code 25 = .ok (.getfield 100, 3) := by decide +kernel
theorem dX12_four_28 : decode prog_14_method_20_code 28 = .ok (.iconst 1, 1) := by decide +kernel
theorem dX12_four_29 : decode prog_14_method_20_code 29 = .ok (.iadd, 1) := by decide +kernel
theorem dX12_four_30 : decode prog_14_method_20_code 30 = .ok (.putfield 100, 3) := by decide +kernel
theorem dX12_four_33 : decode prog_14_method_20_code 33 = .ok (.iinc 2 (-8), 3) := by decide +kernel
theorem dX12_four_36 : decode prog_14_method_20_code 36 = .ok (.goto (-33), 3) := by decide +kernel
theorem dX12_four_39 : decode prog_14_method_20_code 39 = .ok (.return_, 1) := by decide +kernel
theorem lp_X12_four {l : Nat} {v : Int} (cs : CS S R) (hl2 : l + 4 ≤ 300) (hv : Rg v) (hp : ∀ I', I' 310 = apN (I 310) l v 4 → I' 306 4 = (l : Int) + 4 → Fq I I' → Post none S I' R) : ∀ (d k : Nat) (J : CI), k ≤ 4 → 4 - k = d → J 310 = apN (I 310) l v k → J 306 4 = (l : Int) + k → Fq I J → WP n 0 0 mX12_four Post 3 [(0, .ref (S.2.1 306)), (1, .int (iI v)), (2, .int (iI (24 - 8 * (k : Int))))] [] 0 0 S J R := by
  intro d
  induction d using Nat.strongRecOn with
  | ind d ih =>
    intro k J k1 k2 hJ hJ4 hF
    refine x_iload_n dX12_four_3 rfl ?_
    refine x_if_lt 39 dX12_four_4 (by decide) (by omega) (fun w4 => ?_) (fun w4 => ?_)
    · exact x_return dX12_four_39 rfl (by omega) (by omega) (by obtain rfl : k = 4 := (by omega); exact hp _ hJ (by omega) hF)
    · refine x_aload_n dX12_four_7 rfl ?_
      refine x_getR (b := 310) dX12_four_8 gf_RX12_19 (k_ob_306 cs) (fun _ _ => rfl) (k_r_306_3 cs) ?_
      refine x_aload_n dX12_four_11 rfl ?_
      refine x_getI dX12_four_12 gf_RX12_100 (k_ob_306 cs) (fun _ _ => rfl) ?_
      refine x_iload_n dX12_four_15 rfl ?_
      refine x_iload_n dX12_four_16 rfl ?_
      refine x_ishr dX12_four_17 ?_
      refine x_sipush dX12_four_18 (by decide) ?_
      refine x_iand dX12_four_21 ?_
      refine x_iastore dX12_four_22 (k_ar_310 cs) (by omega) (by omega) ?_
      refine x_aload_n dX12_four_23 rfl ?_
      refine x_dup dX12_four_24 rfl ?_
      refine x_getIv (z := (l : Int) + k) dX12_four_25 gf_RX12_100 (k_ob_306 cs) (fun _ _ => rfl) (by rw [uI_row (by omega)]; exact hJ4) ?_
      refine x_iconst dX12_four_28 ?_
      refine x_iadd dX12_four_29 ?_
      refine x_putI dX12_four_30 gf_RX12_100 (k_ob_306 cs) rfl ?_
      refine x_iinc (lv2 := [(2, _), (0, _), (1, _)]) dX12_four_33 rfl (by decide) rfl ?_
      refine x_goto 3 dX12_four_36 (by decide) ?_
      refine x_sub [1, 2, 0] rfl ?_
      rw [show (24 : Int) - 8 * (k : Int) + -8 = 24 - 8 * ((k + 1 : Nat) : Int) by omega]
      refine ih _ (by omega) (k + 1) _ (by omega) rfl ?_ ?_ ?_
      · rw [uI_row (by omega), uI_up, hJ, hJ4]
        show _ = upA (apN (I 310) l v k) (l + k) _
        rw [show ((l : Int) + (k : Int)).toNat = l + k by omega, show (24 : Int) - 8 * (k : Int) = ((24 - 8 * k : Nat) : Int) by omega]
      · rw [uI_s]; omega
      · exact hF.tr ⟨fun c h1 h2 => by rw [uI_row h1, uI_row h2], fun i h1 => by rw [uI_o (Or.inr h1), uI_row (by omega)]⟩
theorem sp_X12_four {l : Nat} {v : Int} (cs : CS S R) (hl : I 306 4 = (l : Int)) (hl2 : l + 4 ≤ 300) (hv : Rg v) (hp : ∀ I', I' 310 = apN (I 310) l v 4 → I' 306 4 = (l : Int) + 4 → Fq I I' → Post none S I' R) : Call n 0 0 mX12_four [.ref (S.2.1 306), .int (iI v)] S I R Post := by
  refine Call.of (by decide +kernel) (Nat.le_of_ble_eq_true rfl) ?_
  show WP _ _ _ _ _ 0 [(0, _), (1, _)] [] 0 0 _ _ _
  refine x_bipush dX12_four_0 (by decide) ?_
  refine x_istore_n (lv2 := [(2, _), (0, _), (1, _)]) dX12_four_2 (by decide) rfl ?_
  refine x_sub [1, 2, 0] rfl ?_
  exact lp_X12_four cs hl2 hv hp _ 0 I (by omega) rfl rfl (by omega) Fq.rf
theorem dX12_feed_0 : decode prog_14_method_21_code 0 = .ok (.aload_n 0, 1) := by decide +kernel
theorem dX12_feed_1 : decode prog_14_method_21_code 1 = .ok (.getfield 100, 3) := by decide +kernel
theorem dX12_feed_4 : decode prog_14_method_21_code 4 = .ok (.bipush 20, 2) := by decide +kernel
theorem dX12_feed_6 : decode prog_14_method_21_code 6 = .ok (.iadd, 1) := by decide +kernel
theorem dX12_feed_7 : decode prog_14_method_21_code 7 = .ok (.sipush 300, 3) := by decide +kernel
theorem dX12_feed_10 : decode prog_14_method_21_code 10 = .ok (.if_icmp .le 5, 3) := by decide +kernel
theorem dX12_feed_13 : decode prog_14_method_21_code 13 = .ok (.iconst (-1), 1) := by decide +kernel
theorem dX12_feed_14 : decode prog_14_method_21_code 14 = .ok (.ireturn, 1) := by decide +kernel
theorem dX12_feed_15 : decode prog_14_method_21_code 15 = .ok (.aload_n 0, 1) := by decide +kernel
theorem dX12_feed_16 : decode prog_14_method_21_code 16 = .ok (.iload_n 1, 1) := by decide +kernel
theorem dX12_feed_17 : decode prog_14_method_21_code 17 = .ok (.invokevirtual 103, 3) := by decide +kernel
theorem dX12_feed_20 : decode prog_14_method_21_code 20 = .ok (.aload_n 0, 1) := by decide +kernel
theorem dX12_feed_21 : decode prog_14_method_21_code 21 = .ok (.iload_n 2, 1) := by decide +kernel
theorem dX12_feed_22 : decode prog_14_method_21_code 22 = .ok (.invokevirtual 103, 3) := by decide +kernel
theorem dX12_feed_25 : decode prog_14_method_21_code 25 = .ok (.aload_n 0, 1) := by decide +kernel
theorem dX12_feed_26 : decode prog_14_method_21_code 26 = .ok (.iload_n 3, 1) := by decide +kernel
theorem dX12_feed_27 : decode prog_14_method_21_code 27 = .ok (.invokevirtual 103, 3) := by decide +kernel
theorem dX12_feed_30 : decode prog_14_method_21_code 30 = .ok (.aload_n 0, 1) := by decide +kernel
theorem dX12_feed_31 : decode prog_14_method_21_code 31 = .ok (.iload 4, 2) := by decide +kernel
theorem dX12_feed_33 : decode prog_14_method_21_code 33 = .ok (.invokevirtual 103, 3) := by decide +kernel
theorem dX12_feed_36 : decode prog_14_method_21_code 36 = .ok (.aload_n 0, 1) := by decide +kernel
theorem dX12_feed_37 : decode prog_14_method_21_code 37 = .ok (.iload 5, 2) := by decide +kernel
theorem dX12_feed_39 : decode prog_14_method_21_code 39 = .ok (.invokevirtual 103, 3) := by decide +kernel
theorem dX12_feed_42 : decode prog_14_method_21_code 42 = .ok (.aload_n 0, 1) := by decide +kernel
theorem dX12_feed_43 : decode prog_14_method_21_code 43 = .ok (.getfield 100, 3) := by decide +kernel
theorem dX12_feed_46 : decode prog_14_method_21_code 46 = .ok (.ireturn, 1) := by decide +kernel
theorem sp_X12_feed {l : Nat} {a b c d e : Int} (cs : CS S R) (hl : I 306 4 = (l : Int)) (hl2 : l ≤ 300) (ha : Rg a ∧ Rg b ∧ Rg c ∧ Rg d ∧ Rg e) (hn : 1 ≤ n) (hp : ∀ I', I' 310 = (f_feed (I 310) l a b c d e).2 → I' 306 4 = (if 280 < l then (l : Int) else (l : Int) + 20) → Fq I I' → Post (some (.int (iI (f_feed (I 310) l a b c d e).1))) S I' R) : Call n 0 0 mX12_feed [.ref (S.2.1 306), .int (iI a), .int (iI b), .int (iI c), .int (iI d), .int (iI e)] S I R Post := by
  unfold f_feed at hp
  obtain ⟨ha1, ha2, ha3, ha4, ha5⟩ := ha
  refine Call.of (by decide +kernel) (Nat.le_of_ble_eq_true rfl) ?_
  show WP _ _ _ _ _ 0 [(0, _), (1, _), (2, _), (3, _), (4, _), (5, _)] [] 0 0 _ _ _
  refine x_aload_n dX12_feed_0 rfl ?_
  refine x_getI dX12_feed_1 gf_RX12_100 (k_ob_306 cs) (fun _ _ => rfl) ?_
  refine x_bipush dX12_feed_4 (by decide) ?_
  refine x_iadd dX12_feed_6 ?_
  refine x_sipush dX12_feed_7 (by decide) ?_
  refine x_icmp_le 15 dX12_feed_10 (by decide) ⟨(by omega), (by omega)⟩ (fun w10 => ?_) (fun w10 => ?_)
  · refine x_aload_n dX12_feed_15 rfl ?_
    refine x_iload_n dX12_feed_16 rfl ?_
    refine x_callV1 (mc1 := 0) (ms1 := 0) dX12_feed_17 cv_RX12_103 (ci := 12) (k_ob_306 cs) rfl (Nat.le_of_ble_eq_true rfl) (n1 := n - 1) (by omega) (by omega) (by omega) ?_
    refine sp_X12_four (l := l + 0) cs (by rw [hl]; omega) (by omega) (by omega) (fun I0 t0 l0 f0 => ?_)
    refine x_aload_n dX12_feed_20 rfl ?_
    refine x_iload_n dX12_feed_21 rfl ?_
    refine x_callV1 (mc1 := 0) (ms1 := 0) dX12_feed_22 cv_RX12_103 (ci := 12) (k_ob_306 cs) rfl (Nat.le_of_ble_eq_true rfl) (n1 := n - 1) (by omega) (by omega) (by omega) ?_
    refine sp_X12_four (l := l + 4) cs (by rw [l0]; omega) (by omega) (by omega) (fun I1 t1 l1 f1 => ?_)
    refine x_aload_n dX12_feed_25 rfl ?_
    refine x_iload_n dX12_feed_26 rfl ?_
    refine x_callV1 (mc1 := 0) (ms1 := 0) dX12_feed_27 cv_RX12_103 (ci := 12) (k_ob_306 cs) rfl (Nat.le_of_ble_eq_true rfl) (n1 := n - 1) (by omega) (by omega) (by omega) ?_
    refine sp_X12_four (l := l + 8) cs (by rw [l1]; omega) (by omega) (by omega) (fun I2 t2 l2 f2 => ?_)
    refine x_aload_n dX12_feed_30 rfl ?_
    refine x_iload dX12_feed_31 rfl ?_
    refine x_callV1 (mc1 := 0) (ms1 := 0) dX12_feed_33 cv_RX12_103 (ci := 12) (k_ob_306 cs) rfl (Nat.le_of_ble_eq_true rfl) (n1 := n - 1) (by omega) (by omega) (by omega) ?_
    refine sp_X12_four (l := l + 12) cs (by rw [l2]; omega) (by omega) (by omega) (fun I3 t3 l3 f3 => ?_)
    refine x_aload_n dX12_feed_36 rfl ?_
    refine x_iload dX12_feed_37 rfl ?_
    refine x_callV1 (mc1 := 0) (ms1 := 0) dX12_feed_39 cv_RX12_103 (ci := 12) (k_ob_306 cs) rfl (Nat.le_of_ble_eq_true rfl) (n1 := n - 1) (by omega) (by omega) (by omega) ?_
    refine sp_X12_four (l := l + 16) cs (by rw [l3]; omega) (by omega) (by omega) (fun I4 t4 l4 f4 => ?_)
    refine x_aload_n dX12_feed_42 rfl ?_
    refine x_getIv (z := (l : Int) + 20) dX12_feed_43 gf_RX12_100 (k_ob_306 cs) (fun _ _ => rfl) (by rw [l4]; omega) ?_
    exact x_ireturn dX12_feed_46 rfl (by omega) (by omega) (by first | (rw [if_pos (by omega), if_pos (by omega)] at hp; exact hp _ rfl hl Fq.rf) | (rw [if_neg (by omega), if_neg (by omega)] at hp; refine hp _ ?_ (by rw [l4]; omega) ((((f0.tr f1).tr f2).tr f3).tr f4); rw [t4, t3, t2, t1, t0]; rfl))
  · refine x_iconst dX12_feed_13 ?_
    exact x_ireturn dX12_feed_14 rfl (by omega) (by omega) (by first | (rw [if_pos (by omega), if_pos (by omega)] at hp; exact hp _ rfl hl Fq.rf) | (rw [if_neg (by omega), if_neg (by omega)] at hp; refine hp _ ?_ (by rw [l4]; omega) ((((f0.tr f1).tr f2).tr f3).tr f4); rw [t4, t3, t2, t1, t0]; rfl))
theorem dX12_copy_0 : decode prog_14_method_2_code 0 = .ok (.iconst 0, 1) := by decide +kernel
theorem dX12_copy_1 : decode prog_14_method_2_code 1 = .ok (.istore_n 2, 1) := by decide +kernel
theorem dX12_copy_2 : decode prog_14_method_2_code 2 = .ok (.iload_n 2, 1) := by decide +kernel
theorem dX12_copy_3 : decode prog_14_method_2_code 3 = .ok (.sipush 2875, 3) := by decide +kernel
theorem dX12_copy_6 : decode prog_14_method_2_code 6 = .ok (.if_icmp .ge 15, 3) := by decide +kernel
theorem dX12_copy_9 : decode prog_14_method_2_code 9 = .ok (.aload_n 1, 1) := by decide +kernel
theorem dX12_copy_10 : decode prog_14_method_2_code 10 = .ok (.iload_n 2, 1) := by decide +kernel
theorem dX12_copy_11 : decode prog_14_method_2_code 11 = .ok (.aload_n 0, 1) := by decide +kernel
theorem dX12_copy_12 : decode prog_14_method_2_code 12 = .ok (.iload_n 2, 1) := by decide +kernel
theorem dX12_copy_13 : decode prog_14_method_2_code 13 = .ok (.iaload, 1) := by decide +kernel
theorem dX12_copy_14 : decode prog_14_method_2_code 14 = .ok (.iastore, 1) := by decide +kernel
theorem dX12_copy_15 : decode prog_14_method_2_code 15 = .ok (.iinc 2 1, 3) := by decide +kernel
theorem dX12_copy_18 : decode prog_14_method_2_code 18 = .ok (.goto (-16), 3) := by decide +kernel
theorem dX12_copy_21 : decode prog_14_method_2_code 21 = .ok (.return_, 1) := by decide +kernel
def cpA (A B : Nat → Int) : Nat → Int := fun i => if i < 2875 then A i else B i
theorem lp_X12_copy {a b : Nat} (ha : AR S a 13 2875) (hb : AR S b 13 2875) (hab : b ≠ a) (hp : ∀ I', I' b = cpA (I a) (I b) → (∀ c, c ≠ b → I' c = I c) → Post none S I' R) : ∀ (d k : Nat) (J : CI), k ≤ 2875 → 2875 - k = d → (∀ i, J b i = if i < k then I a i else I b i) → (∀ c, c ≠ b → J c = I c) → WP n 0 0 mX12_copy Post 2 [(0, .ref (S.2.1 a)), (1, .ref (S.2.1 b)), (2, .int (iI (k : Int)))] [] 0 0 S J R := by
  intro d
  induction d using Nat.strongRecOn with
  | ind d ih =>
    intro k J k1 k2 hJ hF
    refine x_iload_n dX12_copy_2 rfl ?_
    refine x_sipush dX12_copy_3 (by decide) ?_
    refine x_icmp_ge 21 dX12_copy_6 (by decide) ⟨(by omega), (by omega)⟩ (fun w6 => ?_) (fun w6 => ?_)
    · exact x_return dX12_copy_21 rfl (by omega) (by omega) (by obtain rfl : k = 2875 := (by omega); exact hp _ (funext hJ) hF)
    · refine x_aload_n dX12_copy_9 rfl ?_
      refine x_iload_n dX12_copy_10 rfl ?_
      refine x_aload_n dX12_copy_11 rfl ?_
      refine x_iload_n dX12_copy_12 rfl ?_
      refine x_iaload dX12_copy_13 (by assumption) (by omega) (by omega) ?_
      refine x_iastore dX12_copy_14 (by assumption) (by omega) (by omega) ?_
      refine x_iinc (lv2 := [(2, _), (0, _), (1, _)]) dX12_copy_15 rfl (by decide) rfl ?_
      refine x_goto 2 dX12_copy_18 (by decide) ?_
      refine x_sub [1, 2, 0] rfl ?_
      rw [tN]
      refine ih _ (by omega) (k + 1) _ (by omega) rfl ?_ ?_
      · intro i
        by_cases e : i = k
        · rw [e, uI_s, if_pos (by omega), hF a (Ne.symm hab)]
        · rw [uI_o (Or.inr e), hJ i]
          by_cases e2 : i < k
          · rw [if_pos e2, if_pos (by omega)]
          · rw [if_neg e2, if_neg (by omega)]
      · intro c hc
        rw [uI_row hc]; exact hF c hc
theorem sp_X12_copy {a b : Nat} (ha : AR S a 13 2875) (hb : AR S b 13 2875) (hab : b ≠ a) (hp : ∀ I', I' b = cpA (I a) (I b) → (∀ c, c ≠ b → I' c = I c) → Post none S I' R) : Call n 0 0 mX12_copy [.ref (S.2.1 a), .ref (S.2.1 b)] S I R Post := by
  refine Call.of (by decide +kernel) (Nat.le_of_ble_eq_true rfl) ?_
  show WP _ _ _ _ _ 0 [(0, _), (1, _)] [] 0 0 _ _ _
  refine x_iconst dX12_copy_0 ?_
  refine x_istore_n (lv2 := [(2, _), (0, _), (1, _)]) dX12_copy_1 (by decide) rfl ?_
  refine x_sub [1, 2, 0] rfl ?_
  refine lp_X12_copy ha hb hab hp _ 0 I (by omega) rfl (fun i => ?_) (fun c _ => rfl)
  rw [if_neg (by omega)]
theorem dX12_image_0 : decode prog_14_method_144_code 0 = .ok (.aload_n 0, 1) := by decide +kernel
theorem dX12_image_1 : decode prog_14_method_144_code 1 = .ok (.getfield 7, 3) := by decide +kernel
theorem dX12_image_4 : decode prog_14_method_144_code 4 = .ok (.aload_n 0, 1) := by decide +kernel
theorem dX12_image_5 : decode prog_14_method_144_code 5 = .ok (.getfield 13, 3) := by decide +kernel
theorem dX12_image_8 : decode prog_14_method_144_code 8 = .ok (.invokestatic 77, 3) := by decide +kernel
theorem dX12_image_11 : decode prog_14_method_144_code 11 = .ok (.aload_n 0, 1) := by decide +kernel
theorem dX12_image_12 : decode prog_14_method_144_code 12 = .ok (.getfield 7, 3) := by decide +kernel
theorem dX12_image_15 : decode prog_14_method_144_code 15 = .ok (.bipush 7, 2) := by decide +kernel
theorem dX12_image_17 : decode prog_14_method_144_code 17 = .ok (.iaload, 1) := by decide +kernel
theorem dX12_image_18 : decode prog_14_method_144_code 18 = .ok (.ireturn, 1) := by decide +kernel
theorem sp_X12_image  (cs : CS S R) (hA : I 307 = A) (hn : 1 ≤ n) (hp : ∀ I', I' 308 = cpA A (I 308) → (∀ c, c ≠ 308 → I' c = I c) → Post (some (.int (iI (A 7)))) S I' R) : Call n 0 0 mX12_image [.ref (S.2.1 306)] S I R Post := by
  refine Call.of (by decide +kernel) (Nat.le_of_ble_eq_true rfl) ?_
  show WP _ _ _ _ _ 0 [(0, _)] [] 0 0 _ _ _
  refine x_aload_n dX12_image_0 rfl ?_
  refine x_getR (b := 307) dX12_image_1 gf_RX12_7 (k_ob_306 cs) (fun _ _ => rfl) (k_r_306_0 cs) ?_
  refine x_aload_n dX12_image_4 rfl ?_
  refine x_getR (b := 308) dX12_image_5 gf_RX12_13 (k_ob_306 cs) (fun _ _ => rfl) (k_r_306_1 cs) ?_
  refine x_callS2 (mc1 := 0) (ms1 := 0) dX12_image_8 cv_RX12_77 (Nat.le_of_ble_eq_true rfl) (n1 := n - 1) (by omega) (by omega) (by omega) ?_
  refine sp_X12_copy (k_ar_307 cs) (k_ar_308 cs) (by omega) (fun I8 h8 f8 => ?_)
  have a8 : I8 307 = A := by rw [f8 307 (by omega)]; exact hA
  rw [hA] at h8
  refine x_aload_n dX12_image_11 rfl ?_
  refine x_getR (b := 307) dX12_image_12 gf_RX12_7 (k_ob_306 cs) (fun _ _ => rfl) (k_r_306_0 cs) ?_
  refine x_bipush dX12_image_15 (by decide) ?_
  refine x_ald7 (kk := 7) (v := A 7) dX12_image_17 cs (by omega) (by omega) (by rw [a8]; repeat (first | rfl | rw [upA_s] | rw [upA_o (by omega)])) ?_
  exact x_ireturn dX12_image_18 rfl (by omega) (by omega) (hp _ h8 f8)
theorem dX12_back_0 : decode prog_14_method_145_code 0 = .ok (.aload_n 0, 1) := by decide +kernel
theorem dX12_back_1 : decode prog_14_method_145_code 1 = .ok (.getfield 13, 3) := by decide +kernel
theorem dX12_back_4 : decode prog_14_method_145_code 4 = .ok (.aload_n 0, 1) := by decide +kernel
theorem dX12_back_5 : decode prog_14_method_145_code 5 = .ok (.getfield 7, 3) := by decide +kernel
theorem dX12_back_8 : decode prog_14_method_145_code 8 = .ok (.invokestatic 77, 3) := by decide +kernel
theorem dX12_back_11 : decode prog_14_method_145_code 11 = .ok (.aload_n 0, 1) := by decide +kernel
theorem dX12_back_12 : decode prog_14_method_145_code 12 = .ok (.getfield 7, 3) := by decide +kernel
theorem dX12_back_15 : decode prog_14_method_145_code 15 = .ok (.bipush 7, 2) := by decide +kernel
theorem dX12_back_17 : decode prog_14_method_145_code 17 = .ok (.iaload, 1) := by decide +kernel
theorem dX12_back_18 : decode prog_14_method_145_code 18 = .ok (.ireturn, 1) := by decide +kernel
theorem sp_X12_back  (cs : CS S R) (hn : 1 ≤ n) (hp : ∀ I', I' 307 = cpA (I 308) (I 307) → F7 I I' → Post (some (.int (iI (I 308 7)))) S I' R) : Call n 0 0 mX12_back [.ref (S.2.1 306)] S I R Post := by
  refine Call.of (by decide +kernel) (Nat.le_of_ble_eq_true rfl) ?_
  show WP _ _ _ _ _ 0 [(0, _)] [] 0 0 _ _ _
  refine x_aload_n dX12_back_0 rfl ?_
  refine x_getR (b := 308) dX12_back_1 gf_RX12_13 (k_ob_306 cs) (fun _ _ => rfl) (k_r_306_1 cs) ?_
  refine x_aload_n dX12_back_4 rfl ?_
  refine x_getR (b := 307) dX12_back_5 gf_RX12_7 (k_ob_306 cs) (fun _ _ => rfl) (k_r_306_0 cs) ?_
  refine x_callS2 (mc1 := 0) (ms1 := 0) dX12_back_8 cv_RX12_77 (Nat.le_of_ble_eq_true rfl) (n1 := n - 1) (by omega) (by omega) (by omega) ?_
  refine sp_X12_copy (k_ar_308 cs) (k_ar_307 cs) (by omega) (fun I8 h8 f8 => ?_)
  refine x_aload_n dX12_back_11 rfl ?_
  refine x_getR (b := 307) dX12_back_12 gf_RX12_7 (k_ob_306 cs) (fun _ _ => rfl) (k_r_306_0 cs) ?_
  refine x_bipush dX12_back_15 (by decide) ?_
  refine x_ald7 (kk := 7) (v := I 308 7) dX12_back_17 cs (by omega) (by omega) (by rw [h8]; rfl) ?_
  exact x_ireturn dX12_back_18 rfl (by omega) (by omega) (hp _ h8 f8)
end Ref3
