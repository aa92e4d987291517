section Ref25
variable {n mc ms : Nat} {M : Md} {pc : Nat} {lv : List (Nat × Value)} {st : List Value} {k j : Nat} {Post : PT} {S : Sh} {I : CI} {R : CR} {A : Nat → Int} {tx : Nat → Nat → Int}
theorem dX12_word_0 : decode prog_14_method_116_code 0 = .ok (.iload_n 1, 1) := by decide +kernel
theorem dX12_word_1 : decode prog_14_method_116_code 1 = .ok (.invokestatic 93, 3) := by decide +kernel
theorem dX12_word_4 : decode prog_14_method_116_code 4 = .ok (.ifCond .eq 10, 3) := by decide +kernel
theorem dX12_word_7 : decode prog_14_method_116_code 7 = .ok (.iload_n 2, 1) := by decide +kernel
theorem dX12_word_8 : decode prog_14_method_116_code 8 = .ok (.invokestatic 93, 3) := by decide +kernel
theorem dX12_word_11 : decode prog_14_method_116_code 11 = .ok (.ifCond .ne 5, 3) := by decide +kernel
theorem dX12_word_14 : decode prog_14_method_116_code 14 = .ok (.iconst (-1), 1) := by decide +kernel
theorem dX12_word_15 : decode prog_14_method_116_code 15 = .ok (.ireturn, 1) := by decide +kernel
theorem dX12_word_16 : decode prog_14_method_116_code 16 = .ok (.aload_n 0, 1) := by decide +kernel
theorem dX12_word_17 : decode prog_14_method_116_code 17 = .ok (.iload_n 2, 1) := by decide +kernel
theorem dX12_word_18 : decode prog_14_method_116_code 18 = .ok (.invokevirtual 427, 3) := by decide +kernel
theorem dX12_word_21 : decode prog_14_method_116_code 21 = .ok (.aload_n 0, 1) := by decide +kernel
theorem dX12_word_22 : decode prog_14_method_116_code 22 = .ok (.getfield 50, 3) := by decide +kernel
theorem dX12_word_25 : decode prog_14_method_116_code 25 = .ok (.iload_n 1, 1) := by decide +kernel
theorem dX12_word_26 : decode prog_14_method_116_code 26 = .ok (.iaload, 1) := by decide +kernel
theorem dX12_word_27 : decode prog_14_method_116_code 27 = .ok (.ldc_w 423, 3) := by decide +kernel
theorem dX12_word_30 : decode prog_14_method_116_code 30 = .ok (.if_icmp .ne 7, 3) := by decide +kernel
theorem dX12_word_33 : decode prog_14_method_116_code 33 = .ok (.iconst (-1), 1) := by decide +kernel
theorem dX12_word_34 : decode prog_14_method_116_code 34 = .ok (.goto 9, 3) := by decide +kernel
theorem dX12_word_37 : decode prog_14_method_116_code 37 = .ok (.aload_n 0, 1) := by decide +kernel
theorem dX12_word_38 : decode prog_14_method_116_code 38 = .ok (.getfield 50, 3) := by decide +kernel
theorem dX12_word_41 : decode prog_14_method_116_code 41 = .ok (.iload_n 1, 1) := by decide +kernel
theorem dX12_word_42 : decode prog_14_method_116_code 42 = .ok (.iaload, 1) := by decide +kernel
theorem dX12_word_43 : decode prog_14_method_116_code 43 = .ok (.ireturn, 1) := by decide +kernel
theorem sp_X12_word {a b : Int} (cs : CS S R) (hA : I 307 = A) (hN : BN A) (hT : RTx (I 309) A tx) (ha : Rg a) (hb6 : Rg b) (hn : 8 ≤ n) (hp : ∀ J, Fy I J → ((0 ≤ a ∧ a < 6) ∧ (0 ≤ b ∧ b < 6) → RF J (msr (cstA A tx) b.toNat)) → Post (some (.int (iI (f_word A tx a b)))) S J R) : Call n 0 0 mX12_word [.ref (S.2.1 306), .int (iI a), .int (iI b)] S I R Post := by
  unfold f_word wdP at hp
  have hc := cst_r (tx := tx) hN
  have hmb := msr_b hc b.toNat a.toNat
  refine Call.of (by decide +kernel) (Nat.le_of_ble_eq_true rfl) ?_
  show WP _ _ _ _ _ 0 [(0, _), (1, _), (2, _)] [] 0 0 _ _ _
  refine x_iload_n dX12_word_0 rfl ?_
  refine x_callS1 (mc1 := 0) (ms1 := 0) dX12_word_1 cv_RX12_93 (Nat.le_of_ble_eq_true rfl) (n1 := n - 1) (by omega) (by omega) (by omega) ?_
  refine sp_X12_isPerson (by omega) (by omega) (fun r1 hr1 => ?_)
  refine x_if_eq 14 dX12_word_4 (by decide) (by omega) (fun w4 => ?_) (fun w4 => ?_)
  · refine x_iconst dX12_word_14 ?_
    exact x_ireturn dX12_word_15 rfl (by omega) (by omega) (by
    first
      | (rw [if_neg (by omega)] at hp; exact hp _ Fy.rf (fun h => by omega))
      | (rw [if_pos (show (0 ≤ a ∧ a < 6) ∧ (0 ≤ b ∧ b < 6) by omega), if_pos (by omega)] at hp; exact hp _ y18 (fun _ => h18))
      | (rw [if_pos (show (0 ≤ a ∧ a < 6) ∧ (0 ≤ b ∧ b < 6) by omega), if_neg (by omega)] at hp
         have e : J18 316 a.toNat = msr (cstA A tx) b.toNat a.toNat / 8 := (by omega)
         rw [e]
         exact hp _ y18 (fun _ => h18)))
  · refine x_iload_n dX12_word_7 rfl ?_
    refine x_callS1 (mc1 := 0) (ms1 := 0) dX12_word_8 cv_RX12_93 (Nat.le_of_ble_eq_true rfl) (n1 := n - 1) (by omega) (by omega) (by omega) ?_
    refine sp_X12_isPerson (by omega) (by omega) (fun r8 hr8 => ?_)
    refine x_if_ne 16 dX12_word_11 (by decide) (by omega) (fun w11 => ?_) (fun w11 => ?_)
    · refine x_aload_n dX12_word_16 rfl ?_
      refine x_iload_n dX12_word_17 rfl ?_
      refine x_callV1 (mc1 := 0) (ms1 := 0) dX12_word_18 cv_RX12_427 (ci := 12) (k_ob_306 cs) rfl (Nat.le_of_ble_eq_true rfl) (n1 := n - 1) (by omega) (by omega) (by omega) ?_
      rw [asN (a := b) (by omega)]
      refine sp_X12_layFar cs hA hN hT (by omega) (by omega) (fun J18 h18 y18 => ?_)
      have ga := h18 a.toNat (by omega)
      have gd : msr (cstA A tx) b.toNat a.toNat < 10000000 → _ := fun h => gk_d hc (GK_R (q := b.toNat) hc 5) (show a.toNat < 6 by omega) h
      refine x_aload_n dX12_word_21 rfl ?_
      refine x_getR (b := 316) dX12_word_22 gf_RX12_50 (k_ob_306 cs) (fun _ _ => rfl) (k_r_306_26 cs) ?_
      refine x_iload_n dX12_word_25 rfl ?_
      refine x_iaload dX12_word_26 (k_ar_316 cs) (by omega) (by omega) ?_
      refine x_ldcw (z := 1000000) dX12_word_27 (bw_in (lwt_9 (List.mem_of_getElem? (i := 2) (by decide +kernel))) (by decide +kernel)) ?_
      have gd2 : 10000000 ≤ msr (cstA A tx) b.toNat a.toNat ∨ msr (cstA A tx) b.toNat a.toNat / 8 ≤ 399960 := by
        by_cases h : msr (cstA A tx) b.toNat a.toNat < 10000000
        · exact Or.inr (gd h).2.2
        · exact Or.inl (by omega)
      refine x_icmp_ne 37 dX12_word_30 (by decide) ⟨(by omega), (by omega)⟩ (fun w30 => ?_) (fun w30 => ?_)
      · refine x_aload_n dX12_word_37 rfl ?_
        refine x_getR (b := 316) dX12_word_38 gf_RX12_50 (k_ob_306 cs) (fun _ _ => rfl) (k_r_306_26 cs) ?_
        refine x_iload_n dX12_word_41 rfl ?_
        refine x_iaload dX12_word_42 (k_ar_316 cs) (by omega) (by omega) ?_
        exact x_ireturn dX12_word_43 rfl (by omega) (by omega) (by
    first
      | (rw [if_neg (by omega)] at hp; exact hp _ Fy.rf (fun h => by omega))
      | (rw [if_pos (show (0 ≤ a ∧ a < 6) ∧ (0 ≤ b ∧ b < 6) by omega), if_pos (by omega)] at hp; exact hp _ y18 (fun _ => h18))
      | (rw [if_pos (show (0 ≤ a ∧ a < 6) ∧ (0 ≤ b ∧ b < 6) by omega), if_neg (by omega)] at hp
         have e : J18 316 a.toNat = msr (cstA A tx) b.toNat a.toNat / 8 := (by omega)
         rw [e]
         exact hp _ y18 (fun _ => h18)))
      · refine x_iconst dX12_word_33 ?_
        refine x_goto 43 dX12_word_34 (by decide) ?_
        exact x_ireturn dX12_word_43 rfl (by omega) (by omega) (by
    first
      | (rw [if_neg (by omega)] at hp; exact hp _ Fy.rf (fun h => by omega))
      | (rw [if_pos (show (0 ≤ a ∧ a < 6) ∧ (0 ≤ b ∧ b < 6) by omega), if_pos (by omega)] at hp; exact hp _ y18 (fun _ => h18))
      | (rw [if_pos (show (0 ≤ a ∧ a < 6) ∧ (0 ≤ b ∧ b < 6) by omega), if_neg (by omega)] at hp
         have e : J18 316 a.toNat = msr (cstA A tx) b.toNat a.toNat / 8 := (by omega)
         rw [e]
         exact hp _ y18 (fun _ => h18)))
    · refine x_iconst dX12_word_14 ?_
      exact x_ireturn dX12_word_15 rfl (by omega) (by omega) (by
    first
      | (rw [if_neg (by omega)] at hp; exact hp _ Fy.rf (fun h => by omega))
      | (rw [if_pos (show (0 ≤ a ∧ a < 6) ∧ (0 ≤ b ∧ b < 6) by omega), if_pos (by omega)] at hp; exact hp _ y18 (fun _ => h18))
      | (rw [if_pos (show (0 ≤ a ∧ a < 6) ∧ (0 ≤ b ∧ b < 6) by omega), if_neg (by omega)] at hp
         have e : J18 316 a.toNat = msr (cstA A tx) b.toNat a.toNat / 8 := (by omega)
         rw [e]
         exact hp _ y18 (fun _ => h18)))
theorem dX12_nextOf_0 : decode prog_14_method_117_code 0 = .ok (.iconst 0, 1) := by decide +kernel
theorem dX12_nextOf_1 : decode prog_14_method_117_code 1 = .ok (.istore_n 2, 1) := by decide +kernel
theorem dX12_nextOf_2 : decode prog_14_method_117_code 2 = .ok (.iload_n 2, 1) := by decide +kernel
theorem dX12_nextOf_3 : decode prog_14_method_117_code 3 = .ok (.iload_n 1, 1) := by decide +kernel
theorem dX12_nextOf_4 : decode prog_14_method_117_code 4 = .ok (.if_icmp .eq 64, 3) := by decide +kernel
theorem dX12_nextOf_7 : decode prog_14_method_117_code 7 = .ok (.aload_n 0, 1) := by decide +kernel
theorem dX12_nextOf_8 : decode prog_14_method_117_code 8 = .ok (.getfield 50, 3) := by decide +kernel
theorem dX12_nextOf_11 : decode prog_14_method_117_code 11 = .ok (.iload_n 2, 1) := by decide +kernel
theorem dX12_nextOf_12 : decode prog_14_method_117_code 12 = .ok (.iaload, 1) := by decide +kernel
theorem dX12_nextOf_13 : decode prog_14_method_117_code 13 = .ok (.ldc_w 423, 3) := by decide +kernel
theorem dX12_nextOf_16 : decode prog_14_method_117_code 16 = .ok (.if_icmp .eq 52, 3) := by decide +kernel
theorem dX12_nextOf_19 : decode prog_14_method_117_code 19 = .ok (.aload_n 0, 1) := by decide +kernel
theorem dX12_nextOf_20 : decode prog_14_method_117_code 20 = .ok (.iload_n 1, 1) := by decide +kernel
theorem dX12_nextOf_21 : decode prog_14_method_117_code 21 = .ok (.iload_n 2, 1) := by decide +kernel
theorem dX12_nextOf_22 : decode prog_14_method_117_code 22 = .ok (.invokevirtual 420, 3) := by decide +kernel
theorem dX12_nextOf_25 : decode prog_14_method_117_code 25 = .ok (.iconst (-1), 1) := by decide +kernel
theorem dX12_nextOf_26 : decode prog_14_method_117_code 26 = .ok (.if_icmp .eq 42, 3) := by decide +kernel
theorem dX12_nextOf_29 : decode prog_14_method_117_code 29 = .ok (.aload_n 0, 1) := by decide +kernel
theorem dX12_nextOf_30 : decode prog_14_method_117_code 30 = .ok (.getfield 50, 3) := by decide +kernel
theorem dX12_nextOf_33 : decode prog_14_method_117_code 33 = .ok (.iload_n 2, 1) := by decide +kernel
theorem dX12_nextOf_34 : decode prog_14_method_117_code 34 = .ok (.iaload, 1) := by decide +kernel
theorem dX12_nextOf_35 : decode prog_14_method_117_code 35 = .ok (.aload_n 0, 1) := by decide +kernel
theorem dX12_nextOf_36 : decode prog_14_method_117_code 36 = .ok (.iload_n 1, 1) := by decide +kernel
theorem dX12_nextOf_37 : decode prog_14_method_117_code 37 = .ok (.iload_n 2, 1) := by decide +kernel
theorem dX12_nextOf_38 : decode prog_14_method_117_code 38 = .ok (.invokevirtual 420, 3) := by decide +kernel
theorem dX12_nextOf_41 : decode prog_14_method_117_code 41 = .ok (.iadd, 1) := by decide +kernel
theorem dX12_nextOf_42 : decode prog_14_method_117_code 42 = .ok (.aload_n 0, 1) := by decide +kernel
theorem dX12_nextOf_43 : decode prog_14_method_117_code 43 = .ok (.getfield 50, 3) := by decide +kernel
theorem dX12_nextOf_46 : decode prog_14_method_117_code 46 = .ok (.iload_n 1, 1) := by decide +kernel
theorem dX12_nextOf_47 : decode prog_14_method_117_code 47 = .ok (.iaload, 1) := by decide +kernel
theorem dX12_nextOf_48 : decode prog_14_method_117_code 48 = .ok (.if_icmp .ne 20, 3) := by decide +kernel
theorem dX12_nextOf_51 : decode prog_14_method_117_code 51 = .ok (.aload_n 0, 1) := by decide +kernel
theorem dX12_nextOf_52 : decode prog_14_method_117_code 52 = .ok (.getfield 53, 3) := by decide +kernel
theorem dX12_nextOf_55 : decode prog_14_method_117_code 55 = .ok (.iload_n 2, 1) := by decide +kernel
theorem dX12_nextOf_56 : decode prog_14_method_117_code 56 = .ok (.iaload, 1) := by decide +kernel
theorem dX12_nextOf_57 : decode prog_14_method_117_code 57 = .ok (.iconst 1, 1) := by decide +kernel
theorem dX12_nextOf_58 : decode prog_14_method_117_code 58 = .ok (.iadd, 1) := by decide +kernel
theorem dX12_nextOf_59 : decode prog_14_method_117_code 59 = .ok (.aload_n 0, 1) := by decide +kernel
theorem dX12_nextOf_60 : decode prog_14_method_117_code 60 = .ok (.getfield 53, 3) := by decide +kernel
theorem dX12_nextOf_63 : decode prog_14_method_117_code 63 = .ok (.iload_n 1, 1) := by decide +kernel
theorem dX12_nextOf_64 : decode prog_14_method_117_code 64 = .ok (.iaload, 1) := by decide +kernel
theorem dX12_nextOf_65 : decode prog_14_method_117_code 65 = .ok (.if_icmp .eq 9, 3) := by decide +kernel
theorem dX12_nextOf_68 : decode prog_14_method_117_code 68 = .ok (.iinc 2 1, 3) := by decide +kernel
theorem dX12_nextOf_71 : decode prog_14_method_117_code 71 = .ok (.goto (-69), 3) := by decide +kernel
theorem dX12_nextOf_74 : decode prog_14_method_117_code 74 = .ok (.iload_n 2, 1) := by decide +kernel
theorem dX12_nextOf_75 : decode prog_14_method_117_code 75 = .ok (.ireturn, 1) := by decide +kernel
theorem lp_X12_nextOf {q p : Nat} {f : Nat → Int} (cs : CS S R) (hA : I 307 = A) (hN : BN A) (hT : RTx (I 309) A tx) (hn : 7 ≤ n) (hp6 : p < 6) (hG : GK (cstA A tx) q f) (hFB : FB f) (hfp : f p < 10000000) (hp : ∀ J, Fy I J → J 316 = I 316 → J 317 = I 317 → Post (some (.int (iI (nxP (cstA A tx) f p : Int)))) S J R) : ∀ (d r : Nat) (J : CI), (∃ r0, r ≤ r0 ∧ r0 < 6 ∧ fbE (cstA A tx) f p r0 = f p) → 6 - r = d → nxL (cstA A tx) f p d r = nxP (cstA A tx) f p → RF J f → FD I J → WP n 0 0 mX12_nextOf Post 2 [(0, .ref (S.2.1 306)), (1, .int (iI (p : Int))), (2, .int (iI (r : Int)))] [] 0 0 S J R := by
  have hc := cst_r (tx := tx) hN
  intro d
  induction d with
  | zero => intro r J hex h6; obtain ⟨r0, h1, h2, -⟩ := hex; exfalso; omega
  | succ d ih =>
    intro r J hex hd hnx hR hY
    obtain ⟨r0, hr1, hr2, hr3⟩ := hex
    have aJ : J 307 = A := by rw [hY 307 (by omega) (by omega) (by omega)]; exact hA
    have tJ : RTx (J 309) A tx := by rw [hY 309 (by omega) (by omega) (by omega)]; exact hT
    have r6 : r < 6 := by omega
    have gp := hR p hp6
    have gr := hR r r6
    have gp2 := gk_d hc hG hp6 hfp
    have gr2 : f r < 10000000 → _ := fun h => gk_d hc hG r6 h
    have gr3 := hFB r
    have hcr := hc p r
    have hcd : p = r → cstA A tx p r = -1 := fun e => by rw [← e]; exact cst_d p
    have hfb : fbE (cstA A tx) f p r = if cstA A tx p r = -1 ∨ 10000000 ≤ f r then 10000000 else f r + cstA A tx p r * 8 + 1 := rfl
    have es : nxL (cstA A tx) f p (d + 1) r = if fbE (cstA A tx) f p r = f p then r else nxL (cstA A tx) f p d (r + 1) := rfl
    rw [es] at hnx
    refine x_iload_n dX12_nextOf_2 rfl ?_
    refine x_iload_n dX12_nextOf_3 rfl ?_
    refine x_icmp_eq 68 dX12_nextOf_4 (by decide) ⟨(by omega), (by omega)⟩ (fun w4 => ?_) (fun w4 => ?_)
    · refine x_iinc (lv2 := [(2, _), (0, _), (1, _)]) dX12_nextOf_68 rfl (by decide) rfl ?_
      refine x_goto 2 dX12_nextOf_71 (by decide) ?_
      refine x_sub [1, 2, 0] rfl ?_
      first
        | (have hne : fbE (cstA A tx) f p r ≠ f p := (by
             rw [hfb]
             first
               | (rw [if_pos (Or.inl (by first | omega | exact hcd (by omega)))]; omega)
               | (rw [if_pos (Or.inr (by omega))]; omega)
               | (rw [if_neg (by omega)]; omega))
           rw [if_neg hne] at hnx
           exact ih (r + 1) J ⟨r0, by
             have : r0 ≠ r := fun e => hne (by rw [← e]; exact hr3)
             omega, hr2, hr3⟩ (by omega) hnx hR hY)
        | (have hne : fbE (cstA A tx) f p r ≠ f p := (by
             rw [hfb]
             first
               | (rw [if_pos (Or.inl (by first | omega | exact hcd (by omega)))]; omega)
               | (rw [if_pos (Or.inr (by omega))]; omega)
               | (rw [if_neg (by omega)]; omega))
           rw [if_neg hne] at hnx
           exact ih (r + 1) J22 ⟨r0, by
             have : r0 ≠ r := fun e => hne (by rw [← e]; exact hr3)
             omega, hr2, hr3⟩ (by omega) hnx (RF_fd f22 hR) (FD.tr hY f22))
        | (have hne : fbE (cstA A tx) f p r ≠ f p := (by
             rw [hfb]
             first
               | (rw [if_pos (Or.inl (by first | omega | exact hcd (by omega)))]; omega)
               | (rw [if_pos (Or.inr (by omega))]; omega)
               | (rw [if_neg (by omega)]; omega))
           rw [if_neg hne] at hnx
           exact ih (r + 1) J38 ⟨r0, by
             have : r0 ≠ r := fun e => hne (by rw [← e]; exact hr3)
             omega, hr2, hr3⟩ (by omega) hnx (RF_fd f38 (RF_fd f22 hR)) (FD.tr (FD.tr hY f22) f38))
    · refine x_aload_n dX12_nextOf_7 rfl ?_
      refine x_getR (b := 316) dX12_nextOf_8 gf_RX12_50 (k_ob_306 cs) (fun _ _ => rfl) (k_r_306_26 cs) ?_
      refine x_iload_n dX12_nextOf_11 rfl ?_
      refine x_iaload dX12_nextOf_12 (k_ar_316 cs) (by omega) (by omega) ?_
      rw [tN]
      refine x_ldcw (z := 1000000) dX12_nextOf_13 (bw_in (lwt_9 (List.mem_of_getElem? (i := 2) (by decide +kernel))) (by decide +kernel)) ?_
      refine x_icmp_eq 68 dX12_nextOf_16 (by decide) ⟨(by omega), (by omega)⟩ (fun w16 => ?_) (fun w16 => ?_)
      · refine x_iinc (lv2 := [(2, _), (0, _), (1, _)]) dX12_nextOf_68 rfl (by decide) rfl ?_
        refine x_goto 2 dX12_nextOf_71 (by decide) ?_
        refine x_sub [1, 2, 0] rfl ?_
        first
          | (have hne : fbE (cstA A tx) f p r ≠ f p := (by
               rw [hfb]
               first
                 | (rw [if_pos (Or.inl (by first | omega | exact hcd (by omega)))]; omega)
                 | (rw [if_pos (Or.inr (by omega))]; omega)
                 | (rw [if_neg (by omega)]; omega))
             rw [if_neg hne] at hnx
             exact ih (r + 1) J ⟨r0, by
               have : r0 ≠ r := fun e => hne (by rw [← e]; exact hr3)
               omega, hr2, hr3⟩ (by omega) hnx hR hY)
          | (have hne : fbE (cstA A tx) f p r ≠ f p := (by
               rw [hfb]
               first
                 | (rw [if_pos (Or.inl (by first | omega | exact hcd (by omega)))]; omega)
                 | (rw [if_pos (Or.inr (by omega))]; omega)
                 | (rw [if_neg (by omega)]; omega))
             rw [if_neg hne] at hnx
             exact ih (r + 1) J22 ⟨r0, by
               have : r0 ≠ r := fun e => hne (by rw [← e]; exact hr3)
               omega, hr2, hr3⟩ (by omega) hnx (RF_fd f22 hR) (FD.tr hY f22))
          | (have hne : fbE (cstA A tx) f p r ≠ f p := (by
               rw [hfb]
               first
                 | (rw [if_pos (Or.inl (by first | omega | exact hcd (by omega)))]; omega)
                 | (rw [if_pos (Or.inr (by omega))]; omega)
                 | (rw [if_neg (by omega)]; omega))
             rw [if_neg hne] at hnx
             exact ih (r + 1) J38 ⟨r0, by
               have : r0 ≠ r := fun e => hne (by rw [← e]; exact hr3)
               omega, hr2, hr3⟩ (by omega) hnx (RF_fd f38 (RF_fd f22 hR)) (FD.tr (FD.tr hY f22) f38))
      · have gr4 := gr2 (by omega)
        refine x_aload_n dX12_nextOf_19 rfl ?_
        refine x_iload_n dX12_nextOf_20 rfl ?_
        refine x_iload_n dX12_nextOf_21 rfl ?_
        refine x_callV2 (mc1 := 0) (ms1 := 0) dX12_nextOf_22 cv_RX12_420 (ci := 12) (k_ob_306 cs) rfl (Nat.le_of_ble_eq_true rfl) (n1 := n - 1) (by omega) (by omega) (by omega) ?_
        refine sp_X12_costOf cs aJ hN tJ ⟨by omega, by omega⟩ (by omega) (by omega) (fun J22 f22 => ?_)
        refine x_iconst dX12_nextOf_25 ?_
        refine x_icmp_eq 68 dX12_nextOf_26 (by decide) ⟨(by omega), (by omega)⟩ (fun w26 => ?_) (fun w26 => ?_)
        · refine x_iinc (lv2 := [(2, _), (0, _), (1, _)]) dX12_nextOf_68 rfl (by decide) rfl ?_
          refine x_goto 2 dX12_nextOf_71 (by decide) ?_
          refine x_sub [1, 2, 0] rfl ?_
          first
            | (have hne : fbE (cstA A tx) f p r ≠ f p := (by
                 rw [hfb]
                 first
                   | (rw [if_pos (Or.inl (by first | omega | exact hcd (by omega)))]; omega)
                   | (rw [if_pos (Or.inr (by omega))]; omega)
                   | (rw [if_neg (by omega)]; omega))
               rw [if_neg hne] at hnx
               exact ih (r + 1) J ⟨r0, by
                 have : r0 ≠ r := fun e => hne (by rw [← e]; exact hr3)
                 omega, hr2, hr3⟩ (by omega) hnx hR hY)
            | (have hne : fbE (cstA A tx) f p r ≠ f p := (by
                 rw [hfb]
                 first
                   | (rw [if_pos (Or.inl (by first | omega | exact hcd (by omega)))]; omega)
                   | (rw [if_pos (Or.inr (by omega))]; omega)
                   | (rw [if_neg (by omega)]; omega))
               rw [if_neg hne] at hnx
               exact ih (r + 1) J22 ⟨r0, by
                 have : r0 ≠ r := fun e => hne (by rw [← e]; exact hr3)
                 omega, hr2, hr3⟩ (by omega) hnx (RF_fd f22 hR) (FD.tr hY f22))
            | (have hne : fbE (cstA A tx) f p r ≠ f p := (by
                 rw [hfb]
                 first
                   | (rw [if_pos (Or.inl (by first | omega | exact hcd (by omega)))]; omega)
                   | (rw [if_pos (Or.inr (by omega))]; omega)
                   | (rw [if_neg (by omega)]; omega))
               rw [if_neg hne] at hnx
               exact ih (r + 1) J38 ⟨r0, by
                 have : r0 ≠ r := fun e => hne (by rw [← e]; exact hr3)
                 omega, hr2, hr3⟩ (by omega) hnx (RF_fd f38 (RF_fd f22 hR)) (FD.tr (FD.tr hY f22) f38))
        · refine x_aload_n dX12_nextOf_29 rfl ?_
          refine x_getR (b := 316) dX12_nextOf_30 gf_RX12_50 (k_ob_306 cs) (fun _ _ => rfl) (k_r_306_26 cs) ?_
          refine x_iload_n dX12_nextOf_33 rfl ?_
          refine x_iaload dX12_nextOf_34 (k_ar_316 cs) (by omega) (by omega) ?_
          rw [tN, f22 316 (by omega) (by omega) (by omega)]
          refine x_aload_n dX12_nextOf_35 rfl ?_
          refine x_iload_n dX12_nextOf_36 rfl ?_
          refine x_iload_n dX12_nextOf_37 rfl ?_
          refine x_callV2 (mc1 := 0) (ms1 := 0) dX12_nextOf_38 cv_RX12_420 (ci := 12) (k_ob_306 cs) rfl (Nat.le_of_ble_eq_true rfl) (n1 := n - 1) (by omega) (by omega) (by omega) ?_
          refine sp_X12_costOf cs (by rw [f22 307 (by omega) (by omega) (by omega)]; exact aJ) hN (by rw [f22 309 (by omega) (by omega) (by omega)]; exact tJ) ⟨by omega, by omega⟩ (by omega) (by omega) (fun J38 f38 => ?_)
          refine x_iadd dX12_nextOf_41 ?_
          refine x_aload_n dX12_nextOf_42 rfl ?_
          refine x_getR (b := 316) dX12_nextOf_43 gf_RX12_50 (k_ob_306 cs) (fun _ _ => rfl) (k_r_306_26 cs) ?_
          refine x_iload_n dX12_nextOf_46 rfl ?_
          refine x_iaload dX12_nextOf_47 (k_ar_316 cs) (by omega) (by omega) ?_
          rw [tN p, f38 316 (by omega) (by omega) (by omega), f22 316 (by omega) (by omega) (by omega)]
          refine x_icmp_ne 68 dX12_nextOf_48 (by decide) ⟨(by omega), (by omega)⟩ (fun w48 => ?_) (fun w48 => ?_)
          · refine x_iinc (lv2 := [(2, _), (0, _), (1, _)]) dX12_nextOf_68 rfl (by decide) rfl ?_
            refine x_goto 2 dX12_nextOf_71 (by decide) ?_
            refine x_sub [1, 2, 0] rfl ?_
            first
              | (have hne : fbE (cstA A tx) f p r ≠ f p := (by
                   rw [hfb]
                   first
                     | (rw [if_pos (Or.inl (by first | omega | exact hcd (by omega)))]; omega)
                     | (rw [if_pos (Or.inr (by omega))]; omega)
                     | (rw [if_neg (by omega)]; omega))
                 rw [if_neg hne] at hnx
                 exact ih (r + 1) J ⟨r0, by
                   have : r0 ≠ r := fun e => hne (by rw [← e]; exact hr3)
                   omega, hr2, hr3⟩ (by omega) hnx hR hY)
              | (have hne : fbE (cstA A tx) f p r ≠ f p := (by
                   rw [hfb]
                   first
                     | (rw [if_pos (Or.inl (by first | omega | exact hcd (by omega)))]; omega)
                     | (rw [if_pos (Or.inr (by omega))]; omega)
                     | (rw [if_neg (by omega)]; omega))
                 rw [if_neg hne] at hnx
                 exact ih (r + 1) J22 ⟨r0, by
                   have : r0 ≠ r := fun e => hne (by rw [← e]; exact hr3)
                   omega, hr2, hr3⟩ (by omega) hnx (RF_fd f22 hR) (FD.tr hY f22))
              | (have hne : fbE (cstA A tx) f p r ≠ f p := (by
                   rw [hfb]
                   first
                     | (rw [if_pos (Or.inl (by first | omega | exact hcd (by omega)))]; omega)
                     | (rw [if_pos (Or.inr (by omega))]; omega)
                     | (rw [if_neg (by omega)]; omega))
                 rw [if_neg hne] at hnx
                 exact ih (r + 1) J38 ⟨r0, by
                   have : r0 ≠ r := fun e => hne (by rw [← e]; exact hr3)
                   omega, hr2, hr3⟩ (by omega) hnx (RF_fd f38 (RF_fd f22 hR)) (FD.tr (FD.tr hY f22) f38))
          · refine x_aload_n dX12_nextOf_51 rfl ?_
            refine x_getR (b := 317) dX12_nextOf_52 gf_RX12_53 (k_ob_306 cs) (fun _ _ => rfl) (k_r_306_27 cs) ?_
            refine x_iload_n dX12_nextOf_55 rfl ?_
            refine x_iaload dX12_nextOf_56 (k_ar_317 cs) (by omega) (by omega) ?_
            rw [tN r, f38 317 (by omega) (by omega) (by omega), f22 317 (by omega) (by omega) (by omega)]
            refine x_iconst dX12_nextOf_57 ?_
            refine x_iadd dX12_nextOf_58 ?_
            refine x_aload_n dX12_nextOf_59 rfl ?_
            refine x_getR (b := 317) dX12_nextOf_60 gf_RX12_53 (k_ob_306 cs) (fun _ _ => rfl) (k_r_306_27 cs) ?_
            refine x_iload_n dX12_nextOf_63 rfl ?_
            refine x_iaload dX12_nextOf_64 (k_ar_317 cs) (by omega) (by omega) ?_
            rw [tN p, f38 317 (by omega) (by omega) (by omega), f22 317 (by omega) (by omega) (by omega)]
            refine x_icmp_eq 74 dX12_nextOf_65 (by decide) ⟨(by omega), (by omega)⟩ (fun w65 => ?_) (fun w65 => ?_)
            · refine x_iload_n dX12_nextOf_74 rfl ?_
              exact x_ireturn dX12_nextOf_75 rfl (by omega) (by omega) (by
    have heq : fbE (cstA A tx) f p r = f p := by rw [hfb, if_neg (by omega)]; omega
    rw [if_pos heq] at hnx
    rw [← hnx] at hp
    exact hp _ (FD.y (FD.tr (FD.tr hY f22) f38)) (by rw [f38 316 (by omega) (by omega) (by omega), f22 316 (by omega) (by omega) (by omega), hY 316 (by omega) (by omega) (by omega)]) (by rw [f38 317 (by omega) (by omega) (by omega), f22 317 (by omega) (by omega) (by omega), hY 317 (by omega) (by omega) (by omega)]))
            · refine x_iinc (lv2 := [(2, _), (0, _), (1, _)]) dX12_nextOf_68 rfl (by decide) rfl ?_
              refine x_goto 2 dX12_nextOf_71 (by decide) ?_
              refine x_sub [1, 2, 0] rfl ?_
              first
                | (have hne : fbE (cstA A tx) f p r ≠ f p := (by
                     rw [hfb]
                     first
                       | (rw [if_pos (Or.inl (by first | omega | exact hcd (by omega)))]; omega)
                       | (rw [if_pos (Or.inr (by omega))]; omega)
                       | (rw [if_neg (by omega)]; omega))
                   rw [if_neg hne] at hnx
                   exact ih (r + 1) J ⟨r0, by
                     have : r0 ≠ r := fun e => hne (by rw [← e]; exact hr3)
                     omega, hr2, hr3⟩ (by omega) hnx hR hY)
                | (have hne : fbE (cstA A tx) f p r ≠ f p := (by
                     rw [hfb]
                     first
                       | (rw [if_pos (Or.inl (by first | omega | exact hcd (by omega)))]; omega)
                       | (rw [if_pos (Or.inr (by omega))]; omega)
                       | (rw [if_neg (by omega)]; omega))
                   rw [if_neg hne] at hnx
                   exact ih (r + 1) J22 ⟨r0, by
                     have : r0 ≠ r := fun e => hne (by rw [← e]; exact hr3)
                     omega, hr2, hr3⟩ (by omega) hnx (RF_fd f22 hR) (FD.tr hY f22))
                | (have hne : fbE (cstA A tx) f p r ≠ f p := (by
                     rw [hfb]
                     first
                       | (rw [if_pos (Or.inl (by first | omega | exact hcd (by omega)))]; omega)
                       | (rw [if_pos (Or.inr (by omega))]; omega)
                       | (rw [if_neg (by omega)]; omega))
                   rw [if_neg hne] at hnx
                   exact ih (r + 1) J38 ⟨r0, by
                     have : r0 ≠ r := fun e => hne (by rw [← e]; exact hr3)
                     omega, hr2, hr3⟩ (by omega) hnx (RF_fd f38 (RF_fd f22 hR)) (FD.tr (FD.tr hY f22) f38))
theorem sp_X12_nextOf {q p : Nat} {f : Nat → Int} (cs : CS S R) (hA : I 307 = A) (hN : BN A) (hT : RTx (I 309) A tx) (hn : 7 ≤ n) (hp6 : p < 6) (hG : GK (cstA A tx) q f) (hFB : FB f) (hfp : f p < 10000000) (hR : RF I f) (hex : ∃ r0, r0 < 6 ∧ fbE (cstA A tx) f p r0 = f p) (hp : ∀ J, Fy I J → J 316 = I 316 → J 317 = I 317 → Post (some (.int (iI (nxP (cstA A tx) f p : Int)))) S J R) : Call n 0 0 mX12_nextOf [.ref (S.2.1 306), .int (iI (p : Int))] S I R Post := by
  refine Call.of (by decide +kernel) (Nat.le_of_ble_eq_true rfl) ?_
  show WP _ _ _ _ _ 0 [(0, _), (1, _)] [] 0 0 _ _ _
  refine x_iconst dX12_nextOf_0 ?_
  refine x_istore_n (lv2 := [(2, _), (0, _), (1, _)]) dX12_nextOf_1 (by decide) rfl ?_
  refine x_sub [1, 2, 0] rfl ?_
  exact lp_X12_nextOf cs hA hN hT hn hp6 hG hFB hfp hp _ 0 I (by obtain ⟨r0, h1, h2⟩ := hex; exact ⟨r0, Nat.zero_le _, h1, h2⟩) rfl rfl hR FD.rf
theorem dX12_way_0 : decode prog_14_method_118_code 0 = .ok (.aload_n 0, 1) := by decide +kernel
theorem dX12_way_1 : decode prog_14_method_118_code 1 = .ok (.iload_n 1, 1) := by decide +kernel
theorem dX12_way_2 : decode prog_14_method_118_code 2 = .ok (.iload_n 2, 1) := by decide +kernel
theorem dX12_way_3 : decode prog_14_method_118_code 3 = .ok (.invokevirtual 430, 3) := by decide +kernel
theorem dX12_way_6 : decode prog_14_method_118_code 6 = .ok (.iconst (-1), 1) := by decide +kernel
theorem dX12_way_7 : decode prog_14_method_118_code 7 = .ok (.if_icmp .ne 6, 3) := by decide +kernel
theorem dX12_way_10 : decode prog_14_method_118_code 10 = .ok (.bipush (-2), 2) := by decide +kernel
theorem dX12_way_12 : decode prog_14_method_118_code 12 = .ok (.ireturn, 1) := by decide +kernel
theorem dX12_way_13 : decode prog_14_method_118_code 13 = .ok (.iload_n 3, 1) := by decide +kernel
theorem dX12_way_14 : decode prog_14_method_118_code 14 = .ok (.iconst (-1), 1) := by decide +kernel
theorem dX12_way_15 : decode prog_14_method_118_code 15 = .ok (.if_icmp .ne 10, 3) := by decide +kernel
theorem dX12_way_18 : decode prog_14_method_118_code 18 = .ok (.aload_n 0, 1) := by decide +kernel
theorem dX12_way_19 : decode prog_14_method_118_code 19 = .ok (.getfield 53, 3) := by decide +kernel
theorem dX12_way_22 : decode prog_14_method_118_code 22 = .ok (.iload_n 1, 1) := by decide +kernel
theorem dX12_way_23 : decode prog_14_method_118_code 23 = .ok (.iaload, 1) := by decide +kernel
theorem dX12_way_24 : decode prog_14_method_118_code 24 = .ok (.ireturn, 1) := by decide +kernel
theorem dX12_way_25 : decode prog_14_method_118_code 25 = .ok (.iload_n 3, 1) := by decide +kernel
theorem dX12_way_26 : decode prog_14_method_118_code 26 = .ok (.iconst 0, 1) := by decide +kernel
theorem dX12_way_27 : decode prog_14_method_118_code 27 = .ok (.aload_n 0, 1) := by decide +kernel
theorem dX12_way_28 : decode prog_14_method_118_code 28 = .ok (.getfield 53, 3) := by decide +kernel
theorem dX12_way_31 : decode prog_14_method_118_code 31 = .ok (.iload_n 1, 1) := by decide +kernel
theorem dX12_way_32 : decode prog_14_method_118_code 32 = .ok (.iaload, 1) := by decide +kernel
theorem dX12_way_33 : decode prog_14_method_118_code 33 = .ok (.iconst 1, 1) := by decide +kernel
theorem dX12_way_34 : decode prog_14_method_118_code 34 = .ok (.isub, 1) := by decide +kernel
theorem dX12_way_35 : decode prog_14_method_118_code 35 = .ok (.invokestatic 81, 3) := by decide +kernel
theorem dX12_way_38 : decode prog_14_method_118_code 38 = .ok (.ifCond .ne 6, 3) := by decide +kernel
theorem dX12_way_41 : decode prog_14_method_118_code 41 = .ok (.bipush (-2), 2) := by decide +kernel
theorem dX12_way_43 : decode prog_14_method_118_code 43 = .ok (.ireturn, 1) := by decide +kernel
theorem dX12_way_44 : decode prog_14_method_118_code 44 = .ok (.iload_n 1, 1) := by decide +kernel
theorem dX12_way_45 : decode prog_14_method_118_code 45 = .ok (.istore 4, 2) := by decide +kernel
theorem dX12_way_47 : decode prog_14_method_118_code 47 = .ok (.iconst 0, 1) := by decide +kernel
theorem dX12_way_48 : decode prog_14_method_118_code 48 = .ok (.istore 5, 2) := by decide +kernel
theorem dX12_way_50 : decode prog_14_method_118_code 50 = .ok (.iload 5, 2) := by decide +kernel
theorem dX12_way_52 : decode prog_14_method_118_code 52 = .ok (.iload_n 3, 1) := by decide +kernel
theorem dX12_way_53 : decode prog_14_method_118_code 53 = .ok (.if_icmp .ge 17, 3) := by decide +kernel
theorem dX12_way_56 : decode prog_14_method_118_code 56 = .ok (.aload_n 0, 1) := by decide +kernel
theorem dX12_way_57 : decode prog_14_method_118_code 57 = .ok (.iload 4, 2) := by decide +kernel
theorem dX12_way_59 : decode prog_14_method_118_code 59 = .ok (.invokevirtual 433, 3) := by decide +kernel
theorem dX12_way_62 : decode prog_14_method_118_code 62 = .ok (.istore 4, 2) := by decide +kernel
theorem dX12_way_64 : decode prog_14_method_118_code 64 = .ok (.iinc 5 1, 3) := by decide +kernel
theorem dX12_way_67 : decode prog_14_method_118_code 67 = .ok (.goto (-17), 3) := by decide +kernel
theorem dX12_way_70 : decode prog_14_method_118_code 70 = .ok (.iload 4, 2) := by decide +kernel
theorem dX12_way_72 : decode prog_14_method_118_code 72 = .ok (.ireturn, 1) := by decide +kernel
theorem nx_dn {c : Nat → Nat → Int} {q p : Nat} (hc : ∀ p r, -1 ≤ c p r ∧ c p r ≤ 79992) (hp : p < 6) (hf : msr c q p < 10000000) (hpos : 0 < msr c q p) : nxP c (msr c q) p < 6 ∧ msr c q (nxP c (msr c q) p) < 10000000 ∧ msr c q (nxP c (msr c q) p) % 8 = msr c q p % 8 - 1 := by
  obtain ⟨r0, hr0, he0⟩ := nx_ex hc hp hf hpos
  have hN : ∀ d r, r + d = 6 → r ≤ r0 → fbE c (msr c q) p (nxL c (msr c q) p d r) = msr c q p ∧ nxL c (msr c q) p d r < 6 := by
    intro d
    induction d with
    | zero => intro r h1 h2; omega
    | succ d ih =>
      intro r h1 h2
      simp only [nxL]
      split
      · rename_i h; exact ⟨h, by omega⟩
      · rename_i h
        refine ih (r + 1) (by omega) ?_
        have : r0 ≠ r := fun e => h (by rw [← e]; exact he0)
        omega
  obtain ⟨h1, h2⟩ := hN 6 0 (by omega) (by omega)
  obtain ⟨r, hr⟩ : ∃ r, r = nxP c (msr c q) p := ⟨_, rfl⟩
  have e : nxL c (msr c q) p 6 0 = r := hr.symm
  rw [e] at h1 h2
  rw [← hr]
  unfold fbE at h1
  by_cases hh : c p r = -1 ∨ 10000000 ≤ msr c q r
  · rw [if_pos hh] at h1; omega
  · rw [if_neg hh] at h1
    have g1 := gk_d hc (GK_R (q := q) hc 5) hp hf
    have g2 := gk_d hc (GK_R (q := q) hc 5) h2 (show msr c q r < 10000000 by omega)
    have e1 : rlR c (fr0 q) 5 = msr c q := rfl
    rw [e1] at g1 g2
    refine ⟨h2, by omega, by omega⟩
theorem lp_X12_way {a b : Nat} {i : Int} {x y2 y3 : Int} (cs : CS S R) (hA : I 307 = A) (hN : BN A) (hT : RTx (I 309) A tx) (hn : 8 ≤ n) (ha : a < 6) (hfa : msr (cstA A tx) b a < 10000000) (hi : 0 ≤ i ∧ i ≤ msr (cstA A tx) b a % 8) (hp : ∀ J, Fy I J → Post (some (.int (iI (wyL (cstA A tx) (msr (cstA A tx) b) a i.toNat : Int)))) S J R) : ∀ (d k : Nat) (J : CI), (k : Int) ≤ i → i.toNat - k = d → RF J (msr (cstA A tx) b) → Fy I J → (msr (cstA A tx) b (wyL (cstA A tx) (msr (cstA A tx) b) a k) < 10000000 ∧ msr (cstA A tx) b (wyL (cstA A tx) (msr (cstA A tx) b) a k) % 8 = msr (cstA A tx) b a % 8 - k) → WP n 0 0 mX12_way Post 50 [(0, .ref (S.2.1 306)), (1, .int (iI x)), (2, .int (iI y2)), (3, .int (iI i)), (4, .int (iI (wyL (cstA A tx) (msr (cstA A tx) b) a k : Int))), (5, .int (iI (k : Int)))] [] 0 0 S J R := by
  have hc := cst_r (tx := tx) hN
  intro d
  induction d using Nat.strongRecOn with
  | ind d ih =>
    intro k J k1 k2 hR hY hw
    have aJ : J 307 = A := by rw [hY 307 (by omega) (by omega) (by omega) (by omega) (by omega)]; exact hA
    have tJ : RTx (J 309) A tx := by rw [hY 309 (by omega) (by omega) (by omega) (by omega) (by omega)]; exact hT
    have hw6 := wyL_b (c := cstA A tx) (f := msr (cstA A tx) b) ha k
    have hmw := msr_b hc b (wyL (cstA A tx) (msr (cstA A tx) b) a k)
    refine x_iload dX12_way_50 rfl ?_
    refine x_iload_n dX12_way_52 rfl ?_
    refine x_icmp_ge 70 dX12_way_53 (by decide) ⟨(by omega), (by omega)⟩ (fun w53 => ?_) (fun w53 => ?_)
    · refine x_iload dX12_way_70 rfl ?_
      exact x_ireturn dX12_way_72 rfl (by omega) (by omega) (by obtain rfl : k = i.toNat := (by omega); exact hp _ hY)
    · refine x_aload_n dX12_way_56 rfl ?_
      refine x_iload dX12_way_57 rfl ?_
      refine x_callV1 (mc1 := 0) (ms1 := 0) dX12_way_59 cv_RX12_433 (ci := 12) (k_ob_306 cs) rfl (Nat.le_of_ble_eq_true rfl) (n1 := n - 1) (by omega) (by omega) (by omega) ?_
      have hpos : 0 < msr (cstA A tx) b (wyL (cstA A tx) (msr (cstA A tx) b) a k) := by omega
      have hd59 := nx_dn (q := b) hc hw6 hw.1 hpos
      refine sp_X12_nextOf cs aJ hN tJ (by omega) hw6 (GK_R hc 5) (msr_b hc b) hw.1 hR (nx_ex hc hw6 hw.1 hpos) (fun J59 y59 e59 g59 => ?_)
      refine x_istore (lv2 := [(4, _), (0, _), (1, _), (2, _), (3, _), (5, _)]) dX12_way_62 (by decide) rfl ?_
      refine x_iinc (lv2 := [(5, _), (4, _), (0, _), (1, _), (2, _), (3, _)]) dX12_way_64 rfl (by decide) rfl ?_
      refine x_goto 50 dX12_way_67 (by decide) ?_
      refine x_sub [2, 3, 4, 5, 1, 0] rfl ?_
      exact ih _ (by omega) (k + 1) J59 (by omega) rfl (fun i hi => by rw [e59, g59]; exact hR i hi) (Fy.tr hY y59) ⟨hd59.2.1, by show msr (cstA A tx) b (nxP (cstA A tx) (msr (cstA A tx) b) (wyL (cstA A tx) (msr (cstA A tx) b) a k)) % 8 = _; rw [hd59.2.2]; omega⟩
theorem sp_X12_way {a b i : Int} (cs : CS S R) (hA : I 307 = A) (hN : BN A) (hT : RTx (I 309) A tx) (ha : Rg a) (hb6 : Rg b) (hi : Rg i) (hn : 9 ≤ n) (hp : ∀ J, Fy I J → Post (some (.int (iI (f_way A tx a b i)))) S J R) : Call n 0 0 mX12_way [.ref (S.2.1 306), .int (iI a), .int (iI b), .int (iI i)] S I R Post := by
  unfold f_way wyP at hp
  have hc := cst_r (tx := tx) hN
  have hmb := msr_b hc b.toNat a.toNat
  have hfw : f_word A tx a b = if (0 ≤ a ∧ a < 6) ∧ (0 ≤ b ∧ b < 6) then (if 10000000 ≤ msr (cstA A tx) b.toNat a.toNat then -1 else msr (cstA A tx) b.toNat a.toNat / 8) else -1 := rfl
  have hfc : (¬ ((0 ≤ a ∧ a < 6) ∧ (0 ≤ b ∧ b < 6)) ∧ f_word A tx a b = -1) ∨ (((0 ≤ a ∧ a < 6) ∧ (0 ≤ b ∧ b < 6)) ∧ 10000000 ≤ msr (cstA A tx) b.toNat a.toNat ∧ f_word A tx a b = -1) ∨ (((0 ≤ a ∧ a < 6) ∧ (0 ≤ b ∧ b < 6)) ∧ msr (cstA A tx) b.toNat a.toNat < 10000000 ∧ f_word A tx a b = msr (cstA A tx) b.toNat a.toNat / 8) := by
    rw [hfw]
    by_cases h : (0 ≤ a ∧ a < 6) ∧ (0 ≤ b ∧ b < 6)
    · rw [if_pos h]
      by_cases h2 : 10000000 ≤ msr (cstA A tx) b.toNat a.toNat
      · rw [if_pos h2]; exact Or.inr (Or.inl ⟨h, h2, rfl⟩)
      · rw [if_neg h2]; exact Or.inr (Or.inr ⟨h, by omega, rfl⟩)
    · rw [if_neg h]; exact Or.inl ⟨h, rfl⟩
  refine Call.of (by decide +kernel) (Nat.le_of_ble_eq_true rfl) ?_
  show WP _ _ _ _ _ 0 [(0, _), (1, _), (2, _), (3, _)] [] 0 0 _ _ _
  refine x_aload_n dX12_way_0 rfl ?_
  refine x_iload_n dX12_way_1 rfl ?_
  refine x_iload_n dX12_way_2 rfl ?_
  refine x_callV2 (mc1 := 0) (ms1 := 0) dX12_way_3 cv_RX12_430 (ci := 12) (k_ob_306 cs) rfl (Nat.le_of_ble_eq_true rfl) (n1 := n - 1) (by omega) (by omega) (by omega) ?_
  refine sp_X12_word cs hA hN hT ha hb6 (by omega) (fun J3 y3 r3 => ?_)
  refine x_iconst dX12_way_6 ?_
  refine x_icmp_ne 13 dX12_way_7 (by decide) ⟨(by omega), (by omega)⟩ (fun w7 => ?_) (fun w7 => ?_)
  · have hR3 := r3 (by omega)
    have ga := hR3 a.toNat (by omega)
    have gd := gk_d hc (GK_R (q := b.toNat) hc 5) (show a.toNat < 6 by omega) (show msr (cstA A tx) b.toNat a.toNat < 10000000 by omega)
    have e5 : rlR (cstA A tx) (fr0 b.toNat) 5 = msr (cstA A tx) b.toNat := rfl
    rw [e5] at gd
    have ga2 : J3 317 a.toNat = msr (cstA A tx) b.toNat a.toNat % 8 + 1 := by omega
    rw [if_pos (show (0 ≤ a ∧ a < 6) ∧ (0 ≤ b ∧ b < 6) by omega), if_neg (by omega)] at hp
    refine x_iload_n dX12_way_13 rfl ?_
    refine x_iconst dX12_way_14 ?_
    refine x_icmp_ne 25 dX12_way_15 (by decide) ⟨(by omega), (by omega)⟩ (fun w15 => ?_) (fun w15 => ?_)
    · refine x_iload_n dX12_way_25 rfl ?_
      refine x_iconst dX12_way_26 ?_
      refine x_aload_n dX12_way_27 rfl ?_
      refine x_getR (b := 317) dX12_way_28 gf_RX12_53 (k_ob_306 cs) (fun _ _ => rfl) (k_r_306_27 cs) ?_
      refine x_iload_n dX12_way_31 rfl ?_
      refine x_iaload dX12_way_32 (k_ar_317 cs) (by omega) (by omega) ?_
      rw [ga2]
      refine x_iconst dX12_way_33 ?_
      refine x_isub dX12_way_34 ?_
      refine x_callS3 (mc1 := 0) (ms1 := 0) dX12_way_35 cv_RX12_81 (Nat.le_of_ble_eq_true rfl) (n1 := n - 1) (by omega) (by omega) (by omega) ?_
      refine sp_X12_isIn (by omega) (by omega) (by omega) (fun r35 hr35 => ?_)
      refine x_if_ne 44 dX12_way_38 (by decide) (by omega) (fun w38 => ?_) (fun w38 => ?_)
      · refine x_iload_n dX12_way_44 rfl ?_
        refine x_istore (lv2 := [(4, _), (0, _), (1, _), (2, _), (3, _)]) dX12_way_45 (by decide) rfl ?_
        refine x_iconst dX12_way_47 ?_
        refine x_istore (lv2 := [(5, _), (4, _), (0, _), (1, _), (2, _), (3, _)]) dX12_way_48 (by decide) rfl ?_
        refine x_sub [2, 3, 4, 5, 1, 0] rfl ?_
        rw [if_neg (by omega), if_pos (by omega)] at hp
        rw [asN (a := a) (by omega)]
        exact lp_X12_way (I := J3) (a := a.toNat) (b := b.toNat) (y3 := 0) cs (by rw [y3 307 (by omega) (by omega) (by omega) (by omega) (by omega)]; exact hA) hN (by rw [y3 309 (by omega) (by omega) (by omega) (by omega) (by omega)]; exact hT) (by omega) (by omega) (by omega) (by omega) (fun J4 y4 => hp J4 (Fy.tr y3 y4)) _ 0 J3 (by omega) rfl hR3 Fy.rf ⟨by show msr (cstA A tx) b.toNat a.toNat < 10000000; omega, by show msr (cstA A tx) b.toNat a.toNat % 8 = _; omega⟩
      · refine x_bipush dX12_way_41 (by decide) ?_
        exact x_ireturn dX12_way_43 rfl (by omega) (by omega) (by
    first
      | (rw [if_pos (by omega)] at hp; exact hp _ y3)
      | (rw [if_neg (by omega), if_neg (by omega)] at hp; exact hp _ y3)
      | (rcases hfc with h | h | h
         · rw [if_neg h.1] at hp; exact hp _ y3
         · rw [if_pos h.1, if_pos h.2.1] at hp; exact hp _ y3
         · exfalso; omega))
    · refine x_aload_n dX12_way_18 rfl ?_
      refine x_getR (b := 317) dX12_way_19 gf_RX12_53 (k_ob_306 cs) (fun _ _ => rfl) (k_r_306_27 cs) ?_
      refine x_iload_n dX12_way_22 rfl ?_
      refine x_iaload dX12_way_23 (k_ar_317 cs) (by omega) (by omega) ?_
      rw [ga2]
      exact x_ireturn dX12_way_24 rfl (by omega) (by omega) (by
    first
      | (rw [if_pos (by omega)] at hp; exact hp _ y3)
      | (rw [if_neg (by omega), if_neg (by omega)] at hp; exact hp _ y3)
      | (rcases hfc with h | h | h
         · rw [if_neg h.1] at hp; exact hp _ y3
         · rw [if_pos h.1, if_pos h.2.1] at hp; exact hp _ y3
         · exfalso; omega))
  · refine x_bipush dX12_way_10 (by decide) ?_
    exact x_ireturn dX12_way_12 rfl (by omega) (by omega) (by
    first
      | (rw [if_pos (by omega)] at hp; exact hp _ y3)
      | (rw [if_neg (by omega), if_neg (by omega)] at hp; exact hp _ y3)
      | (rcases hfc with h | h | h
         · rw [if_neg h.1] at hp; exact hp _ y3
         · rw [if_pos h.1, if_pos h.2.1] at hp; exact hp _ y3
         · exfalso; omega))
end Ref25
