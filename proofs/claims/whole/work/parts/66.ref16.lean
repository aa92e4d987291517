section Ref16
variable {n mc ms : Nat} {M : Md} {pc : Nat} {lv : List (Nat × Value)} {st : List Value} {k j : Nat} {Post : PT} {S : Sh} {I : CI} {R : CR} {A : Nat → Int} {tx : Nat → Nat → Int}
theorem cst_neg {p r k : Nat} (h : cstK A tx p r k = -1) : ∀ j : Nat, cstK A tx p r (k + j) = -1 := by
  intro j
  induction j with
  | zero => exact h
  | succ j ih =>
    show cstK A tx p r (k + j + 1) = -1
    simp only [cstK]
    split
    · rw [if_pos (Or.inl ih)]
    · exact ih
/-- a quarrel parts two -/
abbrev prtQ (A : Nat → Int) (q p r : Nat) : Prop := A (12 + 3 * q) ≠ 2 ∧ ofTwo A q p r
theorem sp_tb {p r : Nat} (hN : BN A) (hd : ∀ q : Nat, (q : Int) < A 0 → A (36 + 2 * q) ≠ A (37 + 2 * q)) (hp : p < 6) (hr : r < 6) : ∀ k : Nat, (k : Int) ≤ A 0 → ((spK A p k).testBit r = true ↔ (r ≠ p ∧ ∀ q, q < k → ¬ prtQ A q p r)) := by
  obtain ⟨b0, b1, b2, b7, b8, b9, b10, bq⟩ := id hN
  have h63 : ∀ x : Fin 6, (63 : Nat).testBit x.val = true := by decide
  intro k
  induction k with
  | zero =>
    intro _
    simp only [spK]
    rw [sdN_tb (by decide), h63 ⟨r, hr⟩, Nat.testBit_two_pow]
    constructor
    · intro h
      refine ⟨fun e => ?_, fun q hq => by omega⟩
      subst e
      simp at h
    · intro h
      have : ¬ p = r := fun e => h.1 e.symm
      simp [this]
  | succ k ih =>
    intro hk
    have hi := ih (by omega)
    have hdk := hd k (by omega)
    have hbk := bq k (by omega)
    have hlt := spK_lt (A := A) (p := p) k
    have hstep : ((spK A p (k + 1)).testBit r = true ↔ ((spK A p k).testBit r = true ∧ ¬ prtQ A k p r)) := by
      simp only [spK]
      by_cases c1 : A (12 + 3 * k) ≠ 2 ∧ A (36 + 2 * k) = p
      · rw [if_pos c1, sdN_tb (by omega), Nat.testBit_two_pow]
        by_cases e : A (37 + 2 * k) = r
        · have e2 : (A (37 + 2 * k)).toNat = r := by omega
          simp only [e2, decide_true, Bool.not_true, Bool.and_false]
          constructor
          · intro h; exact absurd h (by decide)
          · intro h; exact absurd ⟨c1.1, Or.inl ⟨c1.2, e⟩⟩ h.2
        · have e2 : ¬ (A (37 + 2 * k)).toNat = r := by omega
          simp only [e2, decide_false, Bool.not_false, Bool.and_true]
          constructor
          · intro h; refine ⟨h, fun hh => ?_⟩; have := hh.2; omega
          · intro h; exact h.1
      · rw [if_neg c1]
        by_cases c2 : A (12 + 3 * k) ≠ 2 ∧ A (37 + 2 * k) = p
        · rw [if_pos c2, sdN_tb (by omega), Nat.testBit_two_pow]
          by_cases e : A (36 + 2 * k) = r
          · have e2 : (A (36 + 2 * k)).toNat = r := by omega
            simp only [e2, decide_true, Bool.not_true, Bool.and_false]
            constructor
            · intro h; exact absurd h (by decide)
            · intro h; exact absurd ⟨c2.1, Or.inr ⟨e, c2.2⟩⟩ h.2
          · have e2 : ¬ (A (36 + 2 * k)).toNat = r := by omega
            simp only [e2, decide_false, Bool.not_false, Bool.and_true]
            constructor
            · intro h; refine ⟨h, fun hh => ?_⟩; have h1 := hh.1; have h2 := hh.2; omega
            · intro h; exact h.1
        · rw [if_neg c2]
          constructor
          · intro h; refine ⟨h, fun hh => ?_⟩; have h1 := hh.1; have h2 := hh.2; omega
          · intro h; exact h.1
    rw [hstep, hi]
    constructor
    · intro h
      refine ⟨h.1.1, fun q hq => ?_⟩
      by_cases e : q = k
      · rw [e]; exact h.2
      · exact h.1.2 q (by omega)
    · intro h
      exact ⟨⟨h.1, fun q hq => h.2 q (by omega)⟩, h.2 k (by omega)⟩
theorem dX12_costOf_0 : decode prog_14_method_104_code 0 = .ok (.iconst 0, 1) := by decide +kernel
theorem dX12_costOf_1 : decode prog_14_method_104_code 1 = .ok (.istore_n 3, 1) := by decide +kernel
theorem dX12_costOf_2 : decode prog_14_method_104_code 2 = .ok (.iconst 0, 1) := by decide +kernel
theorem dX12_costOf_3 : decode prog_14_method_104_code 3 = .ok (.istore 4, 2) := by decide +kernel
theorem dX12_costOf_5 : decode prog_14_method_104_code 5 = .ok (.iload 4, 2) := by decide +kernel
theorem dX12_costOf_7 : decode prog_14_method_104_code 7 = .ok (.aload_n 0, 1) := by decide +kernel
theorem dX12_costOf_8 : decode prog_14_method_104_code 8 = .ok (.getfield 7, 3) := by decide +kernel
theorem dX12_costOf_11 : decode prog_14_method_104_code 11 = .ok (.iconst 0, 1) := by decide +kernel
theorem dX12_costOf_12 : decode prog_14_method_104_code 12 = .ok (.iaload, 1) := by decide +kernel
theorem dX12_costOf_13 : decode prog_14_method_104_code 13 = .ok (.if_icmp .ge 53, 3) := by decide +kernel
theorem dX12_costOf_16 : decode prog_14_method_104_code 16 = .ok (.aload_n 0, 1) := by decide +kernel
theorem dX12_costOf_17 : decode prog_14_method_104_code 17 = .ok (.iload 4, 2) := by decide +kernel
theorem dX12_costOf_19 : decode prog_14_method_104_code 19 = .ok (.iload_n 1, 1) := by decide +kernel
theorem dX12_costOf_20 : decode prog_14_method_104_code 20 = .ok (.iload_n 2, 1) := by decide +kernel
theorem dX12_costOf_21 : decode prog_14_method_104_code 21 = .ok (.invokevirtual 408, 3) := by decide +kernel
theorem dX12_costOf_24 : decode prog_14_method_104_code 24 = .ok (.ifCond .eq 36, 3) := by decide +kernel
theorem dX12_costOf_27 : decode prog_14_method_104_code 27 = .ok (.aload_n 0, 1) := by decide +kernel
theorem dX12_costOf_28 : decode prog_14_method_104_code 28 = .ok (.iload 4, 2) := by decide +kernel
theorem dX12_costOf_30 : decode prog_14_method_104_code 30 = .ok (.invokevirtual 85, 3) := by decide +kernel
theorem dX12_costOf_33 : decode prog_14_method_104_code 33 = .ok (.iconst 2, 1) := by decide +kernel
theorem dX12_costOf_34 : decode prog_14_method_104_code 34 = .ok (.if_icmp .ne 6, 3) := by decide +kernel
theorem dX12_costOf_37 : decode prog_14_method_104_code 37 = .ok (.goto 23, 3) := by decide +kernel
theorem dX12_costOf_40 : decode prog_14_method_104_code 40 = .ok (.aload_n 0, 1) := by decide +kernel
theorem dX12_costOf_41 : decode prog_14_method_104_code 41 = .ok (.iload 4, 2) := by decide +kernel
theorem dX12_costOf_43 : decode prog_14_method_104_code 43 = .ok (.invokevirtual 89, 3) := by decide +kernel
theorem dX12_costOf_46 : decode prog_14_method_104_code 46 = .ok (.ifCond .ne 5, 3) := by decide +kernel
theorem dX12_costOf_49 : decode prog_14_method_104_code 49 = .ok (.iconst (-1), 1) := by decide +kernel
theorem dX12_costOf_50 : decode prog_14_method_104_code 50 = .ok (.ireturn, 1) := by decide +kernel
theorem dX12_costOf_51 : decode prog_14_method_104_code 51 = .ok (.iload_n 3, 1) := by decide +kernel
theorem dX12_costOf_52 : decode prog_14_method_104_code 52 = .ok (.aload_n 0, 1) := by decide +kernel
theorem dX12_costOf_53 : decode prog_14_method_104_code 53 = .ok (.iload 4, 2) := by decide +kernel
theorem dX12_costOf_55 : decode prog_14_method_104_code 55 = .ok (.invokevirtual 330, 3) := by decide +kernel
theorem dX12_costOf_58 : decode prog_14_method_104_code 58 = .ok (.iadd, 1) := by decide +kernel
theorem dX12_costOf_59 : decode prog_14_method_104_code 59 = .ok (.istore_n 3, 1) := by decide +kernel
theorem dX12_costOf_60 : decode prog_14_method_104_code 60 = .ok (.iinc 4 1, 3) := by decide +kernel
theorem dX12_costOf_63 : decode prog_14_method_104_code 63 = .ok (.goto (-58), 3) := by decide +kernel
theorem dX12_costOf_66 : decode prog_14_method_104_code 66 = .ok (.iload_n 3, 1) := by decide +kernel
theorem dX12_costOf_67 : decode prog_14_method_104_code 67 = .ok (.ireturn, 1) := by decide +kernel
theorem lp_X12_costOf {p s : Nat} (cs : CS S R) (hps : p < 6 ∧ s < 6) (hA : I 307 = A) (hN : BN A) (hT : RTx (I 309) A tx) (hn : 6 ≤ n) (hp : ∀ I', FD I I' → Post (some (.int (iI (cstA A tx p s)))) S I' R) : ∀ (d k : Nat) (J : CI), (k : Int) ≤ A 0 → (A 0).toNat - k = d → cstK A tx p s k ≠ -1 → FD I J → WP n 0 0 mX12_costOf Post 5 [(0, .ref (S.2.1 306)), (1, .int (iI (p : Int))), (2, .int (iI (s : Int))), (3, .int (iI (cstK A tx p s k))), (4, .int (iI (k : Int)))] [] 0 0 S J R := by
  obtain ⟨b0, b1, b2, b7, b8, b9, b10, bq⟩ := id hN
  intro d
  induction d using Nat.strongRecOn with
  | ind d ih =>
    intro k J k1 k2 hne hF
    have aJ : J 307 = A := by rw [hF 307 (by omega) (by omega) (by omega)]; exact hA
    have tJ : RTx (J 309) A tx := by rw [hF 309 (by omega) (by omega) (by omega)]; exact hT
    have hcb := cstK_b (A := A) (tx := tx) (p := p) (r := s) k
    have hdb := duesP_b A tx (A 2) k 0 (A 9)
    have bqk : k < 8 → _ := fun h => bq k h
    have hdu : duR A tx k = duesP A tx (A 2) k 0 (A 9) := rfl
    have es : cstK A tx p s (k + 1) = if A (12 + 3 * k) ≠ 2 ∧ ofTwo A k p s then (if cstK A tx p s k = -1 ∨ A (12 + 3 * k) ≠ 1 then -1 else cstK A tx p s k + duR A tx k) else cstK A tx p s k := rfl
    refine x_iload dX12_costOf_5 rfl ?_
    refine x_aload_n dX12_costOf_7 rfl ?_
    refine x_getR (b := 307) dX12_costOf_8 gf_RX12_7 (k_ob_306 cs) (fun _ _ => rfl) (k_r_306_0 cs) ?_
    refine x_iconst dX12_costOf_11 ?_
    refine x_ald7 (kk := 0) (v := A 0) dX12_costOf_12 cs (by omega) (by omega) (by rw [aJ]; repeat (first | rfl | rw [upA_s] | rw [upA_o (by omega)])) ?_
    refine x_icmp_ge 66 dX12_costOf_13 (by decide) ⟨(by omega), (by omega)⟩ (fun w13 => ?_) (fun w13 => ?_)
    · refine x_iload_n dX12_costOf_66 rfl ?_
      exact x_ireturn dX12_costOf_67 rfl (by omega) (by omega) (by
    first
      | (obtain rfl : k = (A 0).toNat := (by omega)
         exact hp _ hF)
      | (have ek : cstK A tx p s (k + 1) = -1 := (by rw [es, if_pos (by omega), if_pos (by omega)])
         have ej := cst_neg ek ((A 0).toNat - (k + 1))
         rw [show k + 1 + ((A 0).toNat - (k + 1)) = (A 0).toNat by omega] at ej
         rw [show cstA A tx p s = -1 from ej] at hp
         exact hp _ hF))
    · have bk := bqk (by omega)
      refine x_aload_n dX12_costOf_16 rfl ?_
      refine x_iload dX12_costOf_17 rfl ?_
      refine x_iload_n dX12_costOf_19 rfl ?_
      refine x_iload_n dX12_costOf_20 rfl ?_
      refine x_callV3 (mc1 := 0) (ms1 := 0) dX12_costOf_21 cv_RX12_408 (ci := 12) (k_ob_306 cs) rfl (Nat.le_of_ble_eq_true rfl) (n1 := n - 1) (by omega) (by omega) (by omega) ?_
      refine sp_X12_isOfTwo cs aJ (by omega) (by omega) (by omega) hps.1 hps.2 (fun r21 hr21 => ?_)
      refine x_if_eq 60 dX12_costOf_24 (by decide) (by omega) (fun w24 => ?_) (fun w24 => ?_)
      · refine x_iinc (lv2 := [(4, _), (0, _), (1, _), (2, _), (3, _)]) dX12_costOf_60 rfl (by decide) rfl ?_
        refine x_goto 5 dX12_costOf_63 (by decide) ?_
        refine x_sub [1, 2, 3, 4, 0] rfl ?_
        first
          | (have ek : cstK A tx p s (k + 1) = cstK A tx p s k := (by rw [es]; exact if_neg (by omega))
             have hg := ih _ (by omega) (k + 1) J (by omega) rfl (by rw [ek]; exact hne) hF
             rw [ek] at hg
             exact hg)
          | (have ek : cstK A tx p s (k + 1) = cstK A tx p s k + duesP A tx (A 2) k 0 (A 9) := (by rw [es, if_pos (by omega), if_neg (by omega), hdu])
             have hg := ih _ (by omega) (k + 1) J55 (by omega) rfl (by rw [ek]; omega) (FD.tr hF f55)
             rw [ek] at hg
             exact hg)
      · refine x_aload_n dX12_costOf_27 rfl ?_
        refine x_iload dX12_costOf_28 rfl ?_
        refine x_callV1 (mc1 := 0) (ms1 := 0) dX12_costOf_30 cv_RX12_85 (ci := 12) (k_ob_306 cs) rfl (Nat.le_of_ble_eq_true rfl) (n1 := n - 1) (by omega) (by omega) (by omega) ?_
        refine sp_X12_howOf cs aJ (by omega) ?_
        refine x_iconst dX12_costOf_33 ?_
        refine x_icmp_ne 40 dX12_costOf_34 (by decide) ⟨(by omega), (by omega)⟩ (fun w34 => ?_) (fun w34 => ?_)
        · refine x_aload_n dX12_costOf_40 rfl ?_
          refine x_iload dX12_costOf_41 rfl ?_
          refine x_callV1 (mc1 := 0) (ms1 := 0) dX12_costOf_43 cv_RX12_89 (ci := 12) (k_ob_306 cs) rfl (Nat.le_of_ble_eq_true rfl) (n1 := n - 1) (by omega) (by omega) (by omega) ?_
          refine sp_X12_isPawned cs aJ (by omega) (by omega) (by omega) (fun r43 hr43 => ?_)
          refine x_if_ne 51 dX12_costOf_46 (by decide) (by omega) (fun w46 => ?_) (fun w46 => ?_)
          · refine x_iload_n dX12_costOf_51 rfl ?_
            refine x_aload_n dX12_costOf_52 rfl ?_
            refine x_iload dX12_costOf_53 rfl ?_
            refine x_callV1 (mc1 := 0) (ms1 := 0) dX12_costOf_55 cv_RX12_330 (ci := 12) (k_ob_306 cs) rfl (Nat.le_of_ble_eq_true rfl) (n1 := n - 1) (by omega) (by omega) (by omega) ?_
            refine sp_X12_duesOf cs aJ hN tJ (by omega) (by omega) (fun J55 f55 => ?_)
            refine x_iadd dX12_costOf_58 ?_
            refine x_istore_n (lv2 := [(3, _), (0, _), (1, _), (2, _), (4, _)]) dX12_costOf_59 (by decide) rfl ?_
            refine x_iinc (lv2 := [(4, _), (3, _), (0, _), (1, _), (2, _)]) dX12_costOf_60 rfl (by decide) rfl ?_
            refine x_goto 5 dX12_costOf_63 (by decide) ?_
            refine x_sub [2, 3, 4, 1, 0] rfl ?_
            first
              | (have ek : cstK A tx p s (k + 1) = cstK A tx p s k := (by rw [es]; exact if_neg (by omega))
                 have hg := ih _ (by omega) (k + 1) J (by omega) rfl (by rw [ek]; exact hne) hF
                 rw [ek] at hg
                 exact hg)
              | (have ek : cstK A tx p s (k + 1) = cstK A tx p s k + duesP A tx (A 2) k 0 (A 9) := (by rw [es, if_pos (by omega), if_neg (by omega), hdu])
                 have hg := ih _ (by omega) (k + 1) J55 (by omega) rfl (by rw [ek]; omega) (FD.tr hF f55)
                 rw [ek] at hg
                 exact hg)
          · refine x_iconst dX12_costOf_49 ?_
            exact x_ireturn dX12_costOf_50 rfl (by omega) (by omega) (by
    first
      | (obtain rfl : k = (A 0).toNat := (by omega)
         exact hp _ hF)
      | (have ek : cstK A tx p s (k + 1) = -1 := (by rw [es, if_pos (by omega), if_pos (by omega)])
         have ej := cst_neg ek ((A 0).toNat - (k + 1))
         rw [show k + 1 + ((A 0).toNat - (k + 1)) = (A 0).toNat by omega] at ej
         rw [show cstA A tx p s = -1 from ej] at hp
         exact hp _ hF))
        · refine x_goto 60 dX12_costOf_37 (by decide) ?_
          refine x_iinc (lv2 := [(4, _), (0, _), (1, _), (2, _), (3, _)]) dX12_costOf_60 rfl (by decide) rfl ?_
          refine x_goto 5 dX12_costOf_63 (by decide) ?_
          refine x_sub [1, 2, 3, 4, 0] rfl ?_
          first
            | (have ek : cstK A tx p s (k + 1) = cstK A tx p s k := (by rw [es]; exact if_neg (by omega))
               have hg := ih _ (by omega) (k + 1) J (by omega) rfl (by rw [ek]; exact hne) hF
               rw [ek] at hg
               exact hg)
            | (have ek : cstK A tx p s (k + 1) = cstK A tx p s k + duesP A tx (A 2) k 0 (A 9) := (by rw [es, if_pos (by omega), if_neg (by omega), hdu])
               have hg := ih _ (by omega) (k + 1) J55 (by omega) rfl (by rw [ek]; omega) (FD.tr hF f55)
               rw [ek] at hg
               exact hg)
theorem sp_X12_costOf {p s : Nat} (cs : CS S R) (hA : I 307 = A) (hN : BN A) (hT : RTx (I 309) A tx) (hps : p < 6 ∧ s < 6) (hne : p ≠ s) (hn : 6 ≤ n) (hp : ∀ I', FD I I' → Post (some (.int (iI (cstA A tx p s)))) S I' R) : Call n 0 0 mX12_costOf [.ref (S.2.1 306), .int (iI (p : Int)), .int (iI (s : Int))] S I R Post := by
  have b0 := hN.1
  have e0 : cstK A tx p s 0 = 0 := if_neg hne
  refine Call.of (by decide +kernel) (Nat.le_of_ble_eq_true rfl) ?_
  show WP _ _ _ _ _ 0 [(0, _), (1, _), (2, _)] [] 0 0 _ _ _
  refine x_iconst dX12_costOf_0 ?_
  refine x_istore_n (lv2 := [(3, _), (0, _), (1, _), (2, _)]) dX12_costOf_1 (by decide) rfl ?_
  refine x_iconst dX12_costOf_2 ?_
  refine x_istore (lv2 := [(4, _), (3, _), (0, _), (1, _), (2, _)]) dX12_costOf_3 (by decide) rfl ?_
  refine x_sub [2, 3, 4, 1, 0] rfl ?_
  have hg := lp_X12_costOf cs hps hA hN hT hn hp _ 0 I (by omega) rfl (by rw [e0]; decide) FD.rf
  rw [e0] at hg
  exact hg
theorem dX12_doSpeak_0 : decode prog_14_method_105_code 0 = .ok (.iconst 0, 1) := by decide +kernel
theorem dX12_doSpeak_1 : decode prog_14_method_105_code 1 = .ok (.istore_n 3, 1) := by decide +kernel
theorem dX12_doSpeak_2 : decode prog_14_method_105_code 2 = .ok (.iload_n 3, 1) := by decide +kernel
theorem dX12_doSpeak_3 : decode prog_14_method_105_code 3 = .ok (.aload_n 0, 1) := by decide +kernel
theorem dX12_doSpeak_4 : decode prog_14_method_105_code 4 = .ok (.getfield 7, 3) := by decide +kernel
theorem dX12_doSpeak_7 : decode prog_14_method_105_code 7 = .ok (.iconst 0, 1) := by decide +kernel
theorem dX12_doSpeak_8 : decode prog_14_method_105_code 8 = .ok (.iaload, 1) := by decide +kernel
theorem dX12_doSpeak_9 : decode prog_14_method_105_code 9 = .ok (.if_icmp .ge 30, 3) := by decide +kernel
theorem dX12_doSpeak_12 : decode prog_14_method_105_code 12 = .ok (.aload_n 0, 1) := by decide +kernel
theorem dX12_doSpeak_13 : decode prog_14_method_105_code 13 = .ok (.iload_n 3, 1) := by decide +kernel
theorem dX12_doSpeak_14 : decode prog_14_method_105_code 14 = .ok (.iload_n 1, 1) := by decide +kernel
theorem dX12_doSpeak_15 : decode prog_14_method_105_code 15 = .ok (.iload_n 2, 1) := by decide +kernel
theorem dX12_doSpeak_16 : decode prog_14_method_105_code 16 = .ok (.invokevirtual 408, 3) := by decide +kernel
theorem dX12_doSpeak_19 : decode prog_14_method_105_code 19 = .ok (.ifCond .eq 14, 3) := by decide +kernel
theorem dX12_doSpeak_22 : decode prog_14_method_105_code 22 = .ok (.aload_n 0, 1) := by decide +kernel
theorem dX12_doSpeak_23 : decode prog_14_method_105_code 23 = .ok (.iload_n 3, 1) := by decide +kernel
theorem dX12_doSpeak_24 : decode prog_14_method_105_code 24 = .ok (.invokevirtual 85, 3) := by decide +kernel
theorem dX12_doSpeak_27 : decode prog_14_method_105_code 27 = .ok (.iconst 2, 1) := by decide +kernel
theorem dX12_doSpeak_28 : decode prog_14_method_105_code 28 = .ok (.if_icmp .eq 5, 3) := by decide +kernel
theorem dX12_doSpeak_31 : decode prog_14_method_105_code 31 = .ok (.iconst 0, 1) := by decide +kernel
theorem dX12_doSpeak_32 : decode prog_14_method_105_code 32 = .ok (.ireturn, 1) := by decide +kernel
theorem dX12_doSpeak_33 : decode prog_14_method_105_code 33 = .ok (.iinc 3 1, 3) := by decide +kernel
theorem dX12_doSpeak_36 : decode prog_14_method_105_code 36 = .ok (.goto (-34), 3) := by decide +kernel
theorem dX12_doSpeak_39 : decode prog_14_method_105_code 39 = .ok (.iload_n 1, 1) := by decide +kernel
theorem dX12_doSpeak_40 : decode prog_14_method_105_code 40 = .ok (.iload_n 2, 1) := by decide +kernel
theorem dX12_doSpeak_41 : decode prog_14_method_105_code 41 = .ok (.if_icmp .eq 7, 3) := by decide +kernel
theorem dX12_doSpeak_44 : decode prog_14_method_105_code 44 = .ok (.iconst 1, 1) := by decide +kernel
theorem dX12_doSpeak_45 : decode prog_14_method_105_code 45 = .ok (.goto 4, 3) := by decide +kernel
theorem dX12_doSpeak_48 : decode prog_14_method_105_code 48 = .ok (.iconst 0, 1) := by decide +kernel
theorem dX12_doSpeak_49 : decode prog_14_method_105_code 49 = .ok (.ireturn, 1) := by decide +kernel
theorem lp_X12_doSpeak {p s : Nat} (cs : CS S R) (hps : p < 6 ∧ s < 6) (hA : I 307 = A) (hN : BN A) (hd : ∀ q : Nat, (q : Int) < A 0 → A (36 + 2 * q) ≠ A (37 + 2 * q)) (hn : 2 ≤ n) (hp : ∀ r : Int, (r = 1 ∧ (spA A p).testBit s = true ∨ r = 0 ∧ (spA A p).testBit s = false) → Post (some (.int (iI r))) S I R) : ∀ (d k : Nat), (k : Int) ≤ A 0 → (A 0).toNat - k = d → (∀ q, q < k → ¬ prtQ A q p s) → WP n 0 0 mX12_doSpeak Post 2 [(0, .ref (S.2.1 306)), (1, .int (iI (p : Int))), (2, .int (iI (s : Int))), (3, .int (iI (k : Int)))] [] 0 0 S I R := by
  obtain ⟨b0, b1, b2, b7, b8, b9, b10, bq⟩ := id hN
  have htb := sp_tb hN hd hps.1 hps.2 (A 0).toNat (by omega)
  intro d
  induction d using Nat.strongRecOn with
  | ind d ih =>
    intro k k1 k2 hno
    have bqk : k < 8 → _ := fun h => bq k h
    refine x_iload_n dX12_doSpeak_2 rfl ?_
    refine x_aload_n dX12_doSpeak_3 rfl ?_
    refine x_getR (b := 307) dX12_doSpeak_4 gf_RX12_7 (k_ob_306 cs) (fun _ _ => rfl) (k_r_306_0 cs) ?_
    refine x_iconst dX12_doSpeak_7 ?_
    refine x_ald7 (kk := 0) (v := A 0) dX12_doSpeak_8 cs (by omega) (by omega) (by rw [hA]; repeat (first | rfl | rw [upA_s] | rw [upA_o (by omega)])) ?_
    refine x_icmp_ge 39 dX12_doSpeak_9 (by decide) ⟨(by omega), (by omega)⟩ (fun w9 => ?_) (fun w9 => ?_)
    · refine x_iload_n dX12_doSpeak_39 rfl ?_
      refine x_iload_n dX12_doSpeak_40 rfl ?_
      refine x_icmp_eq 48 dX12_doSpeak_41 (by decide) ⟨(by omega), (by omega)⟩ (fun w41 => ?_) (fun w41 => ?_)
      · refine x_iconst dX12_doSpeak_48 ?_
        exact x_zreturn (by omega) dX12_doSpeak_49 rfl (by omega) (by omega) (by
    first
      | (obtain rfl : k = (A 0).toNat := (by omega)
         exact hp 1 (Or.inl ⟨rfl, htb.mpr ⟨by omega, hno⟩⟩))
      | (obtain rfl : k = (A 0).toNat := (by omega)
         exact hp 0 (Or.inr ⟨rfl, by
           cases hc : (spA A p).testBit s
           · rfl
           · exact absurd (htb.mp hc).1 (by omega)⟩)))
      · refine x_iconst dX12_doSpeak_44 ?_
        refine x_goto 49 dX12_doSpeak_45 (by decide) ?_
        exact x_zreturn (by omega) dX12_doSpeak_49 rfl (by omega) (by omega) (by
    first
      | (obtain rfl : k = (A 0).toNat := (by omega)
         exact hp 1 (Or.inl ⟨rfl, htb.mpr ⟨by omega, hno⟩⟩))
      | (obtain rfl : k = (A 0).toNat := (by omega)
         exact hp 0 (Or.inr ⟨rfl, by
           cases hc : (spA A p).testBit s
           · rfl
           · exact absurd (htb.mp hc).1 (by omega)⟩)))
    · have bk := bqk (by omega)
      refine x_aload_n dX12_doSpeak_12 rfl ?_
      refine x_iload_n dX12_doSpeak_13 rfl ?_
      refine x_iload_n dX12_doSpeak_14 rfl ?_
      refine x_iload_n dX12_doSpeak_15 rfl ?_
      refine x_callV3 (mc1 := 0) (ms1 := 0) dX12_doSpeak_16 cv_RX12_408 (ci := 12) (k_ob_306 cs) rfl (Nat.le_of_ble_eq_true rfl) (n1 := n - 1) (by omega) (by omega) (by omega) ?_
      refine sp_X12_isOfTwo cs hA (by omega) (by omega) (by omega) hps.1 hps.2 (fun r16 hr16 => ?_)
      refine x_if_eq 33 dX12_doSpeak_19 (by decide) (by omega) (fun w19 => ?_) (fun w19 => ?_)
      · refine x_iinc (lv2 := [(3, _), (0, _), (1, _), (2, _)]) dX12_doSpeak_33 rfl (by decide) rfl ?_
        refine x_goto 2 dX12_doSpeak_36 (by decide) ?_
        refine x_sub [1, 2, 3, 0] rfl ?_
        refine ih _ (by omega) (k + 1) (by omega) rfl (fun q hq => ?_)
        by_cases e : q = k
        · rw [e]; intro hh; have h1 := hh.1; have h2 := hh.2; omega
        · exact hno q (by omega)
      · refine x_aload_n dX12_doSpeak_22 rfl ?_
        refine x_iload_n dX12_doSpeak_23 rfl ?_
        refine x_callV1 (mc1 := 0) (ms1 := 0) dX12_doSpeak_24 cv_RX12_85 (ci := 12) (k_ob_306 cs) rfl (Nat.le_of_ble_eq_true rfl) (n1 := n - 1) (by omega) (by omega) (by omega) ?_
        refine sp_X12_howOf cs hA (by omega) ?_
        refine x_iconst dX12_doSpeak_27 ?_
        refine x_icmp_eq 33 dX12_doSpeak_28 (by decide) ⟨(by omega), (by omega)⟩ (fun w28 => ?_) (fun w28 => ?_)
        · refine x_iinc (lv2 := [(3, _), (0, _), (1, _), (2, _)]) dX12_doSpeak_33 rfl (by decide) rfl ?_
          refine x_goto 2 dX12_doSpeak_36 (by decide) ?_
          refine x_sub [1, 2, 3, 0] rfl ?_
          refine ih _ (by omega) (k + 1) (by omega) rfl (fun q hq => ?_)
          by_cases e : q = k
          · rw [e]; intro hh; have h1 := hh.1; have h2 := hh.2; omega
          · exact hno q (by omega)
        · have hprt : prtQ A k p s := ⟨by omega, (show (A (36 + 2 * k) = p ∧ A (37 + 2 * k) = s) ∨ (A (36 + 2 * k) = s ∧ A (37 + 2 * k) = p) by omega)⟩
          have hfl : (spA A p).testBit s = false := by
            cases hc : (spA A p).testBit s
            · rfl
            · exact False.elim ((htb.mp hc).2 k (by omega) hprt)
          refine x_iconst dX12_doSpeak_31 ?_
          exact x_zreturn (by omega) dX12_doSpeak_32 rfl (by omega) (by omega) (hp 0 (Or.inr ⟨rfl, hfl⟩))
theorem sp_X12_doSpeak {p s : Nat} (cs : CS S R) (hA : I 307 = A) (hN : BN A) (hd : ∀ q : Nat, (q : Int) < A 0 → A (36 + 2 * q) ≠ A (37 + 2 * q)) (hps : p < 6 ∧ s < 6) (hn : 2 ≤ n) (hp : ∀ r : Int, (r = 1 ∧ (spA A p).testBit s = true ∨ r = 0 ∧ (spA A p).testBit s = false) → Post (some (.int (iI r))) S I R) : Call n 0 0 mX12_doSpeak [.ref (S.2.1 306), .int (iI (p : Int)), .int (iI (s : Int))] S I R Post := by
  have b0 := hN.1
  refine Call.of (by decide +kernel) (Nat.le_of_ble_eq_true rfl) ?_
  show WP _ _ _ _ _ 0 [(0, _), (1, _), (2, _)] [] 0 0 _ _ _
  refine x_iconst dX12_doSpeak_0 ?_
  refine x_istore_n (lv2 := [(3, _), (0, _), (1, _), (2, _)]) dX12_doSpeak_1 (by decide) rfl ?_
  refine x_sub [1, 2, 3, 0] rfl ?_
  exact lp_X12_doSpeak cs hps hA hN hd hn hp _ 0 (by omega) rfl (fun q hq => by omega)
theorem dX12_areTwo_0 : decode prog_14_method_106_code 0 = .ok (.iload_n 0, 1) := by decide +kernel
theorem dX12_areTwo_1 : decode prog_14_method_106_code 1 = .ok (.invokestatic 93, 3) := by decide +kernel
theorem dX12_areTwo_4 : decode prog_14_method_106_code 4 = .ok (.ifCond .eq 19, 3) := by decide +kernel
theorem dX12_areTwo_7 : decode prog_14_method_106_code 7 = .ok (.iload_n 1, 1) := by decide +kernel
theorem dX12_areTwo_8 : decode prog_14_method_106_code 8 = .ok (.invokestatic 93, 3) := by decide +kernel
theorem dX12_areTwo_11 : decode prog_14_method_106_code 11 = .ok (.ifCond .eq 12, 3) := by decide +kernel
theorem dX12_areTwo_14 : decode prog_14_method_106_code 14 = .ok (.iload_n 0, 1) := by decide +kernel
theorem dX12_areTwo_15 : decode prog_14_method_106_code 15 = .ok (.iload_n 1, 1) := by decide +kernel
theorem dX12_areTwo_16 : decode prog_14_method_106_code 16 = .ok (.if_icmp .eq 7, 3) := by decide +kernel
theorem dX12_areTwo_19 : decode prog_14_method_106_code 19 = .ok (.iconst 1, 1) := by decide +kernel
theorem dX12_areTwo_20 : decode prog_14_method_106_code 20 = .ok (.goto 4, 3) := by decide +kernel
theorem dX12_areTwo_23 : decode prog_14_method_106_code 23 = .ok (.iconst 0, 1) := by decide +kernel
theorem dX12_areTwo_24 : decode prog_14_method_106_code 24 = .ok (.ireturn, 1) := by decide +kernel
theorem sp_X12_areTwo {p w : Int} (ha : Rg p) (hw : Rg w) (hn : 2 ≤ n) (hp : ∀ r, (r = 1 ∧ (0 ≤ p ∧ p < 6 ∧ 0 ≤ w ∧ w < 6 ∧ p ≠ w) ∨ r = 0 ∧ ¬ (0 ≤ p ∧ p < 6 ∧ 0 ≤ w ∧ w < 6 ∧ p ≠ w)) → Post (some (.int (iI r))) S I R) : Call n 0 0 mX12_areTwo [.int (iI p), .int (iI w)] S I R Post := by
  refine Call.of (by decide +kernel) (Nat.le_of_ble_eq_true rfl) ?_
  show WP _ _ _ _ _ 0 [(0, _), (1, _)] [] 0 0 _ _ _
  refine x_iload_n dX12_areTwo_0 rfl ?_
  refine x_callS1 (mc1 := 0) (ms1 := 0) dX12_areTwo_1 cv_RX12_93 (Nat.le_of_ble_eq_true rfl) (n1 := n - 1) (by omega) (by omega) (by omega) ?_
  refine sp_X12_isPerson (by omega) (by omega) (fun r1 hr1 => ?_)
  refine x_if_eq 23 dX12_areTwo_4 (by decide) (by omega) (fun w4 => ?_) (fun w4 => ?_)
  · refine x_iconst dX12_areTwo_23 ?_
    exact x_zreturn (by omega) dX12_areTwo_24 rfl (by omega) (by omega) (by first | exact hp 1 (Or.inl ⟨rfl, by omega⟩) | exact hp 0 (Or.inr ⟨rfl, by omega⟩))
  · refine x_iload_n dX12_areTwo_7 rfl ?_
    refine x_callS1 (mc1 := 0) (ms1 := 0) dX12_areTwo_8 cv_RX12_93 (Nat.le_of_ble_eq_true rfl) (n1 := n - 1) (by omega) (by omega) (by omega) ?_
    refine sp_X12_isPerson (by omega) (by omega) (fun r8 hr8 => ?_)
    refine x_if_eq 23 dX12_areTwo_11 (by decide) (by omega) (fun w11 => ?_) (fun w11 => ?_)
    · refine x_iconst dX12_areTwo_23 ?_
      exact x_zreturn (by omega) dX12_areTwo_24 rfl (by omega) (by omega) (by first | exact hp 1 (Or.inl ⟨rfl, by omega⟩) | exact hp 0 (Or.inr ⟨rfl, by omega⟩))
    · refine x_iload_n dX12_areTwo_14 rfl ?_
      refine x_iload_n dX12_areTwo_15 rfl ?_
      refine x_icmp_eq 23 dX12_areTwo_16 (by decide) ⟨(by omega), (by omega)⟩ (fun w16 => ?_) (fun w16 => ?_)
      · refine x_iconst dX12_areTwo_23 ?_
        exact x_zreturn (by omega) dX12_areTwo_24 rfl (by omega) (by omega) (by first | exact hp 1 (Or.inl ⟨rfl, by omega⟩) | exact hp 0 (Or.inr ⟨rfl, by omega⟩))
      · refine x_iconst dX12_areTwo_19 ?_
        refine x_goto 24 dX12_areTwo_20 (by decide) ?_
        exact x_zreturn (by omega) dX12_areTwo_24 rfl (by omega) (by omega) (by first | exact hp 1 (Or.inl ⟨rfl, by omega⟩) | exact hp 0 (Or.inr ⟨rfl, by omega⟩))
theorem BA_dif (hb : BA A) : ∀ q : Nat, (q : Int) < A 0 → A (36 + 2 * q) ≠ A (37 + 2 * q) := fun q hq => (hb.2.2.1 q (by have := hb.1.1; omega)).2.2.2.2 hq
theorem dX12_speak_0 : decode prog_14_method_107_code 0 = .ok (.iload_n 1, 1) := by decide +kernel
theorem dX12_speak_1 : decode prog_14_method_107_code 1 = .ok (.iload_n 2, 1) := by decide +kernel
theorem dX12_speak_2 : decode prog_14_method_107_code 2 = .ok (.invokestatic 411, 3) := by decide +kernel
theorem dX12_speak_5 : decode prog_14_method_107_code 5 = .ok (.ifCond .eq 16, 3) := by decide +kernel
theorem dX12_speak_8 : decode prog_14_method_107_code 8 = .ok (.aload_n 0, 1) := by decide +kernel
theorem dX12_speak_9 : decode prog_14_method_107_code 9 = .ok (.iload_n 1, 1) := by decide +kernel
theorem dX12_speak_10 : decode prog_14_method_107_code 10 = .ok (.iload_n 2, 1) := by decide +kernel
theorem dX12_speak_11 : decode prog_14_method_107_code 11 = .ok (.invokevirtual 414, 3) := by decide +kernel
theorem dX12_speak_14 : decode prog_14_method_107_code 14 = .ok (.ifCond .eq 7, 3) := by decide +kernel
theorem dX12_speak_17 : decode prog_14_method_107_code 17 = .ok (.iconst 1, 1) := by decide +kernel
theorem dX12_speak_18 : decode prog_14_method_107_code 18 = .ok (.goto 4, 3) := by decide +kernel
theorem dX12_speak_21 : decode prog_14_method_107_code 21 = .ok (.iconst 0, 1) := by decide +kernel
theorem dX12_speak_22 : decode prog_14_method_107_code 22 = .ok (.ireturn, 1) := by decide +kernel
theorem sp_X12_speak {a b : Int} (cs : CS S R) (hA : I 307 = A) (hb : BA A) (ha : Rg a) (hb6 : Rg b) (hn : 4 ≤ n) (hp : Post (some (.int (iI (f_speak A a b)))) S I R) : Call n 0 0 mX12_speak [.ref (S.2.1 306), .int (iI a), .int (iI b)] S I R Post := by
  unfold f_speak at hp
  refine Call.of (by decide +kernel) (Nat.le_of_ble_eq_true rfl) ?_
  show WP _ _ _ _ _ 0 [(0, _), (1, _), (2, _)] [] 0 0 _ _ _
  refine x_iload_n dX12_speak_0 rfl ?_
  refine x_iload_n dX12_speak_1 rfl ?_
  refine x_callS2 (mc1 := 0) (ms1 := 0) dX12_speak_2 cv_RX12_411 (Nat.le_of_ble_eq_true rfl) (n1 := n - 1) (by omega) (by omega) (by omega) ?_
  refine sp_X12_areTwo (by omega) (by omega) (by omega) (fun r2 hr2 => ?_)
  refine x_if_eq 21 dX12_speak_5 (by decide) (by omega) (fun w5 => ?_) (fun w5 => ?_)
  · refine x_iconst dX12_speak_21 ?_
    exact x_zreturn (by omega) dX12_speak_22 rfl (by omega) (by omega) (by
    first
      | (rw [if_neg (fun h => by have := h.1; omega)] at hp; exact hp)
      | (rcases hr11 with hh | hh
         · first | (rw [if_pos ⟨by omega, hh.2⟩] at hp; exact hp) | (exfalso; omega)
         · first | (rw [if_neg (fun h => by have := h.2; rw [hh.2] at this; exact absurd this (by decide))] at hp; exact hp) | (exfalso; omega)))
  · refine x_aload_n dX12_speak_8 rfl ?_
    refine x_iload_n dX12_speak_9 rfl ?_
    refine x_iload_n dX12_speak_10 rfl ?_
    refine x_callV2 (mc1 := 0) (ms1 := 0) dX12_speak_11 cv_RX12_414 (ci := 12) (k_ob_306 cs) rfl (Nat.le_of_ble_eq_true rfl) (n1 := n - 1) (by omega) (by omega) (by omega) ?_
    rw [asN (a := a) (by omega), asN (a := b) (by omega)]
    refine sp_X12_doSpeak cs hA (BA_bn hb) (BA_dif hb) ⟨by omega, by omega⟩ (by omega) (fun r11 hr11 => ?_)
    refine x_if_eq 21 dX12_speak_14 (by decide) (by omega) (fun w14 => ?_) (fun w14 => ?_)
    · refine x_iconst dX12_speak_21 ?_
      exact x_zreturn (by omega) dX12_speak_22 rfl (by omega) (by omega) (by
    first
      | (rw [if_neg (fun h => by have := h.1; omega)] at hp; exact hp)
      | (rcases hr11 with hh | hh
         · first | (rw [if_pos ⟨by omega, hh.2⟩] at hp; exact hp) | (exfalso; omega)
         · first | (rw [if_neg (fun h => by have := h.2; rw [hh.2] at this; exact absurd this (by decide))] at hp; exact hp) | (exfalso; omega)))
    · refine x_iconst dX12_speak_17 ?_
      refine x_goto 22 dX12_speak_18 (by decide) ?_
      exact x_zreturn (by omega) dX12_speak_22 rfl (by omega) (by omega) (by
    first
      | (rw [if_neg (fun h => by have := h.1; omega)] at hp; exact hp)
      | (rcases hr11 with hh | hh
         · first | (rw [if_pos ⟨by omega, hh.2⟩] at hp; exact hp) | (exfalso; omega)
         · first | (rw [if_neg (fun h => by have := h.2; rw [hh.2] at this; exact absurd this (by decide))] at hp; exact hp) | (exfalso; omega)))
theorem dX12_cost_0 : decode prog_14_method_113_code 0 = .ok (.iload_n 1, 1) := by decide +kernel
theorem dX12_cost_1 : decode prog_14_method_113_code 1 = .ok (.iload_n 2, 1) := by decide +kernel
theorem dX12_cost_2 : decode prog_14_method_113_code 2 = .ok (.invokestatic 411, 3) := by decide +kernel
theorem dX12_cost_5 : decode prog_14_method_113_code 5 = .ok (.ifCond .eq 12, 3) := by decide +kernel
theorem dX12_cost_8 : decode prog_14_method_113_code 8 = .ok (.aload_n 0, 1) := by decide +kernel
theorem dX12_cost_9 : decode prog_14_method_113_code 9 = .ok (.iload_n 1, 1) := by decide +kernel
theorem dX12_cost_10 : decode prog_14_method_113_code 10 = .ok (.iload_n 2, 1) := by decide +kernel
theorem dX12_cost_11 : decode prog_14_method_113_code 11 = .ok (.invokevirtual 420, 3) := by decide +kernel
theorem dX12_cost_14 : decode prog_14_method_113_code 14 = .ok (.goto 4, 3) := by decide +kernel
theorem dX12_cost_17 : decode prog_14_method_113_code 17 = .ok (.iconst (-1), 1) := by decide +kernel
theorem dX12_cost_18 : decode prog_14_method_113_code 18 = .ok (.ireturn, 1) := by decide +kernel
theorem sp_X12_cost {a b : Int} (cs : CS S R) (hA : I 307 = A) (hN : BN A) (hT : RTx (I 309) A tx) (ha : Rg a) (hb6 : Rg b) (hn : 7 ≤ n) (hp : ∀ I', FD I I' → Post (some (.int (iI (f_cost A tx a b)))) S I' R) : Call n 0 0 mX12_cost [.ref (S.2.1 306), .int (iI a), .int (iI b)] S I R Post := by
  unfold f_cost at hp
  refine Call.of (by decide +kernel) (Nat.le_of_ble_eq_true rfl) ?_
  show WP _ _ _ _ _ 0 [(0, _), (1, _), (2, _)] [] 0 0 _ _ _
  refine x_iload_n dX12_cost_0 rfl ?_
  refine x_iload_n dX12_cost_1 rfl ?_
  refine x_callS2 (mc1 := 0) (ms1 := 0) dX12_cost_2 cv_RX12_411 (Nat.le_of_ble_eq_true rfl) (n1 := n - 1) (by omega) (by omega) (by omega) ?_
  refine sp_X12_areTwo (by omega) (by omega) (by omega) (fun r2 hr2 => ?_)
  refine x_if_eq 17 dX12_cost_5 (by decide) (by omega) (fun w5 => ?_) (fun w5 => ?_)
  · refine x_iconst dX12_cost_17 ?_
    exact x_ireturn dX12_cost_18 rfl (by omega) (by omega) (by first | (rw [if_neg (by omega)] at hp; exact hp _ FD.rf) | (rw [if_pos (by omega)] at hp; exact hp _ f11))
  · refine x_aload_n dX12_cost_8 rfl ?_
    refine x_iload_n dX12_cost_9 rfl ?_
    refine x_iload_n dX12_cost_10 rfl ?_
    refine x_callV2 (mc1 := 0) (ms1 := 0) dX12_cost_11 cv_RX12_420 (ci := 12) (k_ob_306 cs) rfl (Nat.le_of_ble_eq_true rfl) (n1 := n - 1) (by omega) (by omega) (by omega) ?_
    rw [asN (a := a) (by omega), asN (a := b) (by omega)]
    refine sp_X12_costOf cs hA hN hT ⟨by omega, by omega⟩ (by omega) (by omega) (fun J11 f11 => ?_)
    refine x_goto 18 dX12_cost_14 (by decide) ?_
    exact x_ireturn dX12_cost_18 rfl (by omega) (by omega) (by first | (rw [if_neg (by omega)] at hp; exact hp _ FD.rf) | (rw [if_pos (by omega)] at hp; exact hp _ f11))
end Ref16
