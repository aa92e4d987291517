section Ref10
variable {n mc ms : Nat} {M : Md} {pc : Nat} {lv : List (Nat × Value)} {st : List Value} {k j : Nat} {Post : PT} {S : Sh} {I : CI} {R : CR} {A : Nat → Int} {tx : Nat → Nat → Int}
/-- rows alike in what the laws look at -/
def AgN (A B : Nat → Int) : Prop := ∀ i : Nat, i < 60 → i ≠ 3 → i ≠ 11 → B i = A i
theorem wo_ag {A B : Nat → Int} (h : AgN A B) (h0 : A 0 ≤ 8) (op a b c : Int) : woF B op a b c = woF A op a b c := by
  have e : (if 0 ≤ a ∧ a < B 0 then B (14 + 3 * a.toNat) else 0) = (if 0 ≤ a ∧ a < A 0 then A (14 + 3 * a.toNat) else 0) := by
    rw [h 0 (by omega) (by omega) (by omega)]
    by_cases hc : 0 ≤ a ∧ a < A 0
    · rw [if_pos hc, if_pos hc, h _ (by omega) (by omega) (by omega)]
    · rw [if_neg hc, if_neg hc]
  unfold woF
  rw [e]
theorem rn_ag {A B : Nat → Int} (h : AgN A B) (h0 : A 0 ≤ 8) (nm cd s0 : Nat → Int) (f : Nat) : ∀ k, rnF nm B cd f s0 k = rnF nm A cd f s0 k := by
  intro k
  induction k with
  | zero => rfl
  | succ k ih => simp only [rnF]; rw [ih]; simp only [wo_ag h h0]
theorem ev_ag {A B : Nat → Int} (h : AgN A B) (h0 : A 0 ≤ 8) (nm cd : Nat → Int) (f K : Nat) : evP nm B cd f K = evP nm A cd f K := by unfold evP; rw [rn_ag h h0]
theorem nm_ag {A B : Nat → Int} (h : AgN A B) (h0 : A 0 ≤ 8) {q : Nat} (hq : q < 8) (l p : Int) : nmA B q l p = nmA A q l p := by
  funext k
  unfold nmA
  rw [h 7 (by omega) (by omega) (by omega), h 10 (by omega) (by omega) (by omega), h (52 + q) (by omega) (by omega) (by omega), h (14 + 3 * q) (by omega) (by omega) (by omega), h (12 + 3 * q) (by omega) (by omega) (by omega), h (13 + 3 * q) (by omega) (by omega) (by omega), h 0 (by omega) (by omega) (by omega), cnt1_congr (f := fun i => B (12 + 3 * i)) (g := fun i => A (12 + 3 * i)) (fun i hi => h _ (by omega) (by omega) (by omega))]
theorem du_ag {A B : Nat → Int} (h : AgN A B) (h0 : A 0 ≤ 8) {q : Nat} (hq : q < 8) (t l p : Int) : duesP B tx t q l p = duesP A tx t q l p := by
  unfold duesP
  rw [nm_ag h h0 hq, ev_ag h h0, h 1 (by omega) (by omega) (by omega), h (52 + q) (by omega) (by omega) (by omega)]
theorem se_ag {A B : Nat → Int} (h : AgN A B) (h0 : A 0 ≤ 8) {q : Nat} (hq : q < 8) : sellsP B tx q = sellsP A tx q := by
  unfold sellsP
  rw [nm_ag h h0 hq, ev_ag h h0, h 1 (by omega) (by omega) (by omega), h 2 (by omega) (by omega) (by omega)]
theorem keep_ag (A : Nat → Int) : AgN A (keepA A) := fun i h1 h2 _ => kp_lo h2 (Or.inl (by omega))
theorem lp_X12_pawnedNow_n (cs : CS S R) (hA : I 307 = A) (hN : BN A) (hn : 2 ≤ n) (hp : Post (some (.int (iI (pwN A (A 0).toNat : Int)))) S I R) : ∀ (d k : Nat), (k : Int) ≤ A 0 → (A 0).toNat - k = d → WP n 0 0 mX12_pawnedNow Post 4 [(0, .ref (S.2.1 306)), (1, .int (iI (pwN A k : Int))), (2, .int (iI (k : Int)))] [] 0 0 S I R := by
  obtain ⟨b0, b1, b2, b7, b8, b9, b10, bq⟩ := id hN
  intro d
  induction d using Nat.strongRecOn with
  | ind d ih =>
    intro k k1 k2
    have hlt := pwN_lt (A := A) k
    have h256 : 2 ^ k ≤ 2 ^ 8 := Nat.pow_le_pow_right (by decide) (by omega)
    refine x_iload_n dX12_pawnedNow_4 rfl ?_
    refine x_aload_n dX12_pawnedNow_5 rfl ?_
    refine x_getR (b := 307) dX12_pawnedNow_6 gf_RX12_7 (k_ob_306 cs) (fun _ _ => rfl) (k_r_306_0 cs) ?_
    refine x_iconst dX12_pawnedNow_9 ?_
    refine x_ald7 (kk := 0) (v := A 0) dX12_pawnedNow_10 cs (by omega) (by omega) (by rw [hA]; repeat (first | rfl | rw [upA_s] | rw [upA_o (by omega)])) ?_
    refine x_icmp_ge 38 dX12_pawnedNow_11 (by decide) ⟨(by omega), (by omega)⟩ (fun w11 => ?_) (fun w11 => ?_)
    · refine x_iload_n dX12_pawnedNow_38 rfl ?_
      exact x_ireturn dX12_pawnedNow_39 rfl (by omega) (by omega) (by obtain rfl : k = (A 0).toNat := (by omega); exact hp)
    · refine x_iload_n dX12_pawnedNow_14 rfl ?_
      refine x_aload_n dX12_pawnedNow_15 rfl ?_
      refine x_iload_n dX12_pawnedNow_16 rfl ?_
      have g2 := bq k (by omega)
      refine x_callV1 (mc1 := 0) (ms1 := 0) dX12_pawnedNow_17 cv_RX12_89 (ci := 12) (k_ob_306 cs) rfl (Nat.le_of_ble_eq_true rfl) (n1 := n - 1) (by omega) (by omega) (by omega) ?_
      refine sp_X12_isPawned cs hA (by omega) (by omega) (by omega) (fun r17 hr17 => ?_)
      refine x_if_eq 29 dX12_pawnedNow_20 (by decide) (by omega) (fun w20 => ?_) (fun w20 => ?_)
      · refine x_iconst dX12_pawnedNow_29 ?_
        refine x_ior dX12_pawnedNow_30 ?_
        first | rw [show (0 : Int) = ((0 : Nat) : Int) from rfl, orI_n (by omega) (by omega), Nat.or_zero] | rw [orI_n (by omega) (by omega)]
        refine x_istore_n (lv2 := [(1, _), (0, _), (2, _)]) dX12_pawnedNow_31 (by decide) rfl ?_
        refine x_iinc (lv2 := [(2, _), (1, _), (0, _)]) dX12_pawnedNow_32 rfl (by decide) rfl ?_
        refine x_goto 4 dX12_pawnedNow_35 (by decide) ?_
        refine x_sub [2, 1, 0] rfl ?_
        have hg := ih _ (by omega) (k + 1) (by omega) rfl
        first
          | (rw [show pwN A (k + 1) = pwN A k ||| 2 ^ k from if_pos (by omega)] at hg; exact hg)
          | (rw [show pwN A (k + 1) = pwN A k from if_neg (by omega)] at hg; exact hg)
      · refine x_iconst dX12_pawnedNow_23 ?_
        refine x_iload_n dX12_pawnedNow_24 rfl ?_
        refine x_ishl dX12_pawnedNow_25 ?_
        rw [shl1_n (by omega)]
        refine x_goto 30 dX12_pawnedNow_26 (by decide) ?_
        refine x_ior dX12_pawnedNow_30 ?_
        first | rw [show (0 : Int) = ((0 : Nat) : Int) from rfl, orI_n (by omega) (by omega), Nat.or_zero] | rw [orI_n (by omega) (by omega)]
        refine x_istore_n (lv2 := [(1, _), (0, _), (2, _)]) dX12_pawnedNow_31 (by decide) rfl ?_
        refine x_iinc (lv2 := [(2, _), (1, _), (0, _)]) dX12_pawnedNow_32 rfl (by decide) rfl ?_
        refine x_goto 4 dX12_pawnedNow_35 (by decide) ?_
        refine x_sub [2, 1, 0] rfl ?_
        have hg := ih _ (by omega) (k + 1) (by omega) rfl
        first
          | (rw [show pwN A (k + 1) = pwN A k ||| 2 ^ k from if_pos (by omega)] at hg; exact hg)
          | (rw [show pwN A (k + 1) = pwN A k from if_neg (by omega)] at hg; exact hg)
theorem sp_X12_pawnedNow_n (cs : CS S R) (hA : I 307 = A) (hN : BN A) (hn : 2 ≤ n) (hp : Post (some (.int (iI ((pwN A (A 0).toNat : Int))))) S I R) : Call n 0 0 mX12_pawnedNow [.ref (S.2.1 306)] S I R Post := by
  have b0 := hN.1
  refine Call.of (by decide +kernel) (Nat.le_of_ble_eq_true rfl) ?_
  show WP _ _ _ _ _ 0 [(0, _)] [] 0 0 _ _ _
  refine x_iconst dX12_pawnedNow_0 ?_
  refine x_istore_n (lv2 := [(1, _), (0, _)]) dX12_pawnedNow_1 (by decide) rfl ?_
  refine x_iconst dX12_pawnedNow_2 ?_
  refine x_istore_n (lv2 := [(2, _), (1, _), (0, _)]) dX12_pawnedNow_3 (by decide) rfl ?_
  refine x_sub [2, 1, 0] rfl ?_
  exact lp_X12_pawnedNow_n cs hA hN hn hp _ 0 (by omega) rfl
theorem pwN_lt8 (h : 0 ≤ A 0 ∧ A 0 ≤ 8) : pwN A (A 0).toNat < 256 := Nat.lt_of_lt_of_le (pwN_lt (A := A) (A 0).toNat) (show 2 ^ (A 0).toNat ≤ 2 ^ 8 from Nat.pow_le_pow_right (by decide) (by omega))
theorem dX12_sellsOf_0 : decode prog_14_method_74_code 0 = .ok (.aload_n 0, 1) := by decide +kernel
theorem dX12_sellsOf_1 : decode prog_14_method_74_code 1 = .ok (.iload_n 1, 1) := by decide +kernel
theorem dX12_sellsOf_2 : decode prog_14_method_74_code 2 = .ok (.iconst 0, 1) := by decide +kernel
theorem dX12_sellsOf_3 : decode prog_14_method_74_code 3 = .ok (.invokevirtual 313, 3) := by decide +kernel
theorem dX12_sellsOf_6 : decode prog_14_method_74_code 6 = .ok (.aload_n 0, 1) := by decide +kernel
theorem dX12_sellsOf_7 : decode prog_14_method_74_code 7 = .ok (.getfield 32, 3) := by decide +kernel
theorem dX12_sellsOf_10 : decode prog_14_method_74_code 10 = .ok (.bipush 7, 2) := by decide +kernel
theorem dX12_sellsOf_12 : decode prog_14_method_74_code 12 = .ok (.aload_n 0, 1) := by decide +kernel
theorem dX12_sellsOf_13 : decode prog_14_method_74_code 13 = .ok (.invokevirtual 324, 3) := by decide +kernel
theorem dX12_sellsOf_16 : decode prog_14_method_74_code 16 = .ok (.invokestatic 327, 3) := by decide +kernel
theorem dX12_sellsOf_19 : decode prog_14_method_74_code 19 = .ok (.iastore, 1) := by decide +kernel
theorem dX12_sellsOf_20 : decode prog_14_method_74_code 20 = .ok (.aload_n 0, 1) := by decide +kernel
theorem dX12_sellsOf_21 : decode prog_14_method_74_code 21 = .ok (.aload_n 0, 1) := by decide +kernel
theorem dX12_sellsOf_22 : decode prog_14_method_74_code 22 = .ok (.getfield 7, 3) := by decide +kernel
theorem dX12_sellsOf_25 : decode prog_14_method_74_code 25 = .ok (.iconst 2, 1) := by decide +kernel
theorem dX12_sellsOf_26 : decode prog_14_method_74_code 26 = .ok (.iaload, 1) := by decide +kernel
theorem dX12_sellsOf_27 : decode prog_14_method_74_code 27 = .ok (.iconst 1, 1) := by decide +kernel
theorem dX12_sellsOf_28 : decode prog_14_method_74_code 28 = .ok (.aload_n 0, 1) := by decide +kernel
theorem dX12_sellsOf_29 : decode prog_14_method_74_code 29 = .ok (.getfield 32, 3) := by decide +kernel
theorem dX12_sellsOf_32 : decode prog_14_method_74_code 32 = .ok (.iconst 5, 1) := by decide +kernel
theorem dX12_sellsOf_33 : decode prog_14_method_74_code 33 = .ok (.iaload, 1) := by decide +kernel
theorem dX12_sellsOf_34 : decode prog_14_method_74_code 34 = .ok (.bipush 30, 2) := by decide +kernel
theorem dX12_sellsOf_36 : decode prog_14_method_74_code 36 = .ok (.isub, 1) := by decide +kernel
theorem dX12_sellsOf_37 : decode prog_14_method_74_code 37 = .ok (.i2l, 1) := by decide +kernel
theorem dX12_sellsOf_38 : decode prog_14_method_74_code 38 = .ok (.bipush (-99), 2) := by decide +kernel
theorem dX12_sellsOf_40 : decode prog_14_method_74_code 40 = .ok (.bipush 99, 2) := by decide +kernel
theorem dX12_sellsOf_42 : decode prog_14_method_74_code 42 = .ok (.invokevirtual 316, 3) := by decide +kernel
theorem dX12_sellsOf_45 : decode prog_14_method_74_code 45 = .ok (.ireturn, 1) := by decide +kernel
theorem sp_X12_sellsOf {q : Nat} (cs : CS S R) (hA : I 307 = A) (hN : BN A) (hT : RTx (I 309) A tx) (hq : q < 8) (hn : 4 ≤ n) (hp : ∀ I', FD I I' → Post (some (.int (iI (sellsP A tx q)))) S I' R) : Call n 0 0 mX12_sellsOf [.ref (S.2.1 306), .int (iI (q : Int))] S I R Post := by
  obtain ⟨b0, b1, b2, b7, b8, b9, b10, bq⟩ := id hN
  have hh := held_bn (l := 0) (p := 0) hN hq (by omega)
  have bqq := bq q hq
  have hpl := pwN_lt8 b0
  have hbb := bcN_b (pwN A (A 0).toNat)
  have hcn := bc_pwN (A := A) (A 0).toNat (by omega)
  refine Call.of (by decide +kernel) (Nat.le_of_ble_eq_true rfl) ?_
  show WP _ _ _ _ _ 0 [(0, _), (1, _)] [] 0 0 _ _ _
  refine x_aload_n dX12_sellsOf_0 rfl ?_
  refine x_iload_n dX12_sellsOf_1 rfl ?_
  refine x_iconst dX12_sellsOf_2 ?_
  refine x_callV2 (mc1 := 0) (ms1 := 0) dX12_sellsOf_3 cv_RX12_313 (ci := 12) (k_ob_306 cs) rfl (Nat.le_of_ble_eq_true rfl) (n1 := n - 1) (by omega) (by omega) (by omega) ?_
  refine sp_X12_name (p := 0) cs hA hN hq (by omega) (fun I3 h3 f3 => ?_)
  have a3 : I3 307 = A := by rw [f3 307 (by omega)]; exact hA
  refine x_aload_n dX12_sellsOf_6 rfl ?_
  refine x_getR (b := 312) dX12_sellsOf_7 gf_RX12_32 (k_ob_306 cs) (fun _ _ => rfl) (k_r_306_20 cs) ?_
  refine x_bipush dX12_sellsOf_10 (by decide) ?_
  refine x_aload_n dX12_sellsOf_12 rfl ?_
  refine x_callV0 (mc1 := 0) (ms1 := 0) dX12_sellsOf_13 cv_RX12_324 (ci := 12) (k_ob_306 cs) rfl (Nat.le_of_ble_eq_true rfl) (n1 := n - 1) (by omega) (by omega) (by omega) ?_
  refine sp_X12_pawnedNow_n cs a3 hN (by omega) ?_
  refine x_callS1 (mc1 := 0) (ms1 := 0) dX12_sellsOf_16 cv_RX12_327 (Nat.le_of_ble_eq_true rfl) (n1 := n - 1) (by omega) (by omega) (by omega) ?_
  refine sp_X12_bits hpl ?_
  refine x_iastore dX12_sellsOf_19 (k_ar_312 cs) (by omega) (by omega) ?_
  have hn6 : ∀ k, k < 8 → k ≠ 6 → uI I3 312 7 (bcN (pwN A (A 0).toNat) : Int) 312 k = nmA A q 0 0 k := by
    intro k h1 h2
    by_cases h6 : k = 7
    · rw [h6, uI_s, hcn]; rfl
    · rw [uI_o (Or.inr h6)]; exact h3 k (by omega)
  refine x_aload_n dX12_sellsOf_20 rfl ?_
  refine x_aload_n dX12_sellsOf_21 rfl ?_
  refine x_getR (b := 307) dX12_sellsOf_22 gf_RX12_7 (k_ob_306 cs) (fun _ _ => rfl) (k_r_306_0 cs) ?_
  refine x_iconst dX12_sellsOf_25 ?_
  refine x_ald7 (kk := 2) (v := A 2) dX12_sellsOf_26 cs (by omega) (by omega) (by rw [uI_row (by omega), a3]) ?_
  refine x_iconst dX12_sellsOf_27 ?_
  refine x_aload_n dX12_sellsOf_28 rfl ?_
  refine x_getR (b := 312) dX12_sellsOf_29 gf_RX12_32 (k_ob_306 cs) (fun _ _ => rfl) (k_r_306_20 cs) ?_
  refine x_iconst dX12_sellsOf_32 ?_
  refine x_iaload dX12_sellsOf_33 (k_ar_312 cs) (by omega) (by omega) ?_
  rw [show uI I3 312 (Int.toNat 7) (bcN (pwN A (A 0).toNat) : Int) 312 (Int.toNat 5) = nmA A q 0 0 5 from hn6 5 (by omega) (by omega)]
  refine x_bipush dX12_sellsOf_34 (by decide) ?_
  refine x_isub dX12_sellsOf_36 ?_
  refine x_i2l dX12_sellsOf_37 (by omega) ?_
  refine x_bipush dX12_sellsOf_38 (by decide) ?_
  refine x_bipush dX12_sellsOf_40 (by decide) ?_
  refine x_callV5 (mc1 := 0) (ms1 := 0) dX12_sellsOf_42 cv_RX12_316 (ci := 12) (k_ob_306 cs) rfl (Nat.le_of_ble_eq_true rfl) (n1 := n - 1) (by omega) (by omega) (by omega) ?_
  refine sp_X12_says (X := I 309) (nm := nmA A q 0 0) (x := tx (A 2).toNat) (fr := tx (A 2).toNat 3) (to := tx (A 2).toNat 4) (bad := 6) cs (A := A) (by rw [uI_row (by omega), f3 307 (by omega)]; exact hA) (by omega) (fun q hq => (bq q hq).2.2.1) (by rw [uI_row (by omega), f3 309 (by omega)]) (by omega) (by omega) (fun h => ⟨(hT (A 2).toNat (by omega)).1.1, fun k hk => by have h1 := ((hT (A 2).toNat (by omega)).1.2 k hk).1; have h2 := srt_b (tx (A 2).toNat (6 + 4 * k)); omega, (hT (A 2).toNat (by omega)).2.2⟩) (fun k h1 h2 => hn6 k h1 h2) (nmA_bn hN hq (by omega) (by omega)) (by omega) (by omega) (by omega) (by omega) (fun J42 hF42 => ?_)
  have hd : sayP (nmA A q 0 0) A (tx (A 2).toNat) (A 2) (tx (A 2).toNat 3) (tx (A 2).toNat 4) (nmA A q 0 0 5 - 30) (-99) 99 = sellsP A tx q := by
    unfold sayP sellsP
    by_cases h : 0 ≤ A 2 ∧ tx (A 2).toNat 3 < tx (A 2).toNat 4
    · rw [if_pos h, if_pos ⟨h.1, by omega, h.2⟩]
    · rw [if_neg h, if_neg (fun h2 => h ⟨h2.1, h2.2.2⟩)]
  rw [hd]
  exact x_ireturn dX12_sellsOf_45 rfl (by omega) (by omega) (hp _ (fun c h1 h2 h3 => by rw [hF42 c h2 h3, uI_row h1, f3 c h1]))
theorem dX12_duesOfAll_0 : decode prog_14_method_75_code 0 = .ok (.iconst 0, 1) := by decide +kernel
theorem dX12_duesOfAll_1 : decode prog_14_method_75_code 1 = .ok (.istore_n 2, 1) := by decide +kernel
theorem dX12_duesOfAll_2 : decode prog_14_method_75_code 2 = .ok (.iconst 0, 1) := by decide +kernel
theorem dX12_duesOfAll_3 : decode prog_14_method_75_code 3 = .ok (.istore_n 3, 1) := by decide +kernel
theorem dX12_duesOfAll_4 : decode prog_14_method_75_code 4 = .ok (.iload_n 3, 1) := by decide +kernel
theorem dX12_duesOfAll_5 : decode prog_14_method_75_code 5 = .ok (.aload_n 0, 1) := by decide +kernel
theorem dX12_duesOfAll_6 : decode prog_14_method_75_code 6 = .ok (.getfield 7, 3) := by decide +kernel
theorem dX12_duesOfAll_9 : decode prog_14_method_75_code 9 = .ok (.iconst 0, 1) := by decide +kernel
theorem dX12_duesOfAll_10 : decode prog_14_method_75_code 10 = .ok (.iaload, 1) := by decide +kernel
theorem dX12_duesOfAll_11 : decode prog_14_method_75_code 11 = .ok (.if_icmp .ge 29, 3) := by decide +kernel
theorem dX12_duesOfAll_14 : decode prog_14_method_75_code 14 = .ok (.iload_n 2, 1) := by decide +kernel
theorem dX12_duesOfAll_15 : decode prog_14_method_75_code 15 = .ok (.iload_n 1, 1) := by decide +kernel
theorem dX12_duesOfAll_16 : decode prog_14_method_75_code 16 = .ok (.iload_n 3, 1) := by decide +kernel
theorem dX12_duesOfAll_17 : decode prog_14_method_75_code 17 = .ok (.invokestatic 259, 3) := by decide +kernel
theorem dX12_duesOfAll_20 : decode prog_14_method_75_code 20 = .ok (.ifCond .eq 11, 3) := by decide +kernel
theorem dX12_duesOfAll_23 : decode prog_14_method_75_code 23 = .ok (.aload_n 0, 1) := by decide +kernel
theorem dX12_duesOfAll_24 : decode prog_14_method_75_code 24 = .ok (.iload_n 3, 1) := by decide +kernel
theorem dX12_duesOfAll_25 : decode prog_14_method_75_code 25 = .ok (.invokevirtual 330, 3) := by decide +kernel
theorem dX12_duesOfAll_28 : decode prog_14_method_75_code 28 = .ok (.goto 4, 3) := by decide +kernel
theorem dX12_duesOfAll_31 : decode prog_14_method_75_code 31 = .ok (.iconst 0, 1) := by decide +kernel
theorem dX12_duesOfAll_32 : decode prog_14_method_75_code 32 = .ok (.iadd, 1) := by decide +kernel
theorem dX12_duesOfAll_33 : decode prog_14_method_75_code 33 = .ok (.istore_n 2, 1) := by decide +kernel
theorem dX12_duesOfAll_34 : decode prog_14_method_75_code 34 = .ok (.iinc 3 1, 3) := by decide +kernel
theorem dX12_duesOfAll_37 : decode prog_14_method_75_code 37 = .ok (.goto (-33), 3) := by decide +kernel
theorem dX12_duesOfAll_40 : decode prog_14_method_75_code 40 = .ok (.iload_n 2, 1) := by decide +kernel
theorem dX12_duesOfAll_41 : decode prog_14_method_75_code 41 = .ok (.ireturn, 1) := by decide +kernel
theorem smR_b2 {r : Nat → Int} {s : Nat} {M : Int} (h : ∀ q, 0 ≤ r q ∧ r q ≤ M) : ∀ k : Nat, 0 ≤ smR r s k ∧ smR r s k ≤ M * k := by
  intro k
  have hM : 0 ≤ M := by have := h 0; omega
  induction k with
  | zero => simp [smR]
  | succ k ih =>
    have h1 := h k
    simp only [smR]
    rw [show M * ((k + 1 : Nat) : Int) = M * (k : Int) + M by rw [Int.natCast_add, Int.mul_add]; omega]
    split <;> omega
theorem lp_X12_duesOfAll {s : Nat} (cs : CS S R) (hs : s < 256) (hA : I 307 = A) (hN : BN A) (hT : RTx (I 309) A tx) (hn : 6 ≤ n) (hp : ∀ I', FD I I' → Post (some (.int (iI (smR (duR A tx) s (A 0).toNat)))) S I' R) : ∀ (d k : Nat) (J : CI), (k : Int) ≤ A 0 → (A 0).toNat - k = d → FD I J → WP n 0 0 mX12_duesOfAll Post 4 [(0, .ref (S.2.1 306)), (1, .int (iI (s : Int))), (2, .int (iI (smR (duR A tx) s k))), (3, .int (iI (k : Int)))] [] 0 0 S J R := by
  obtain ⟨b0, b1, b2, b7, b8, b9, b10, bq⟩ := id hN
  intro d
  induction d using Nat.strongRecOn with
  | ind d ih =>
    intro k J k1 k2 hF
    have aJ : J 307 = A := by rw [hF 307 (by omega) (by omega) (by omega)]; exact hA
    have tJ : RTx (J 309) A tx := by rw [hF 309 (by omega) (by omega) (by omega)]; exact hT
    have hsb := smR_b2 (r := duR A tx) (s := s) (M := 9999) (fun q => duesP_b _ _ _ _ _ _) k
    have hdb := duesP_b A tx (A 2) k 0 (A 9)
    refine x_iload_n dX12_duesOfAll_4 rfl ?_
    refine x_aload_n dX12_duesOfAll_5 rfl ?_
    refine x_getR (b := 307) dX12_duesOfAll_6 gf_RX12_7 (k_ob_306 cs) (fun _ _ => rfl) (k_r_306_0 cs) ?_
    refine x_iconst dX12_duesOfAll_9 ?_
    refine x_ald7 (kk := 0) (v := A 0) dX12_duesOfAll_10 cs (by omega) (by omega) (by rw [aJ]; repeat (first | rfl | rw [upA_s] | rw [upA_o (by omega)])) ?_
    refine x_icmp_ge 40 dX12_duesOfAll_11 (by decide) ⟨(by omega), (by omega)⟩ (fun w11 => ?_) (fun w11 => ?_)
    · refine x_iload_n dX12_duesOfAll_40 rfl ?_
      exact x_ireturn dX12_duesOfAll_41 rfl (by omega) (by omega) (by obtain rfl : k = (A 0).toNat := (by omega); exact hp _ hF)
    · refine x_iload_n dX12_duesOfAll_14 rfl ?_
      refine x_iload_n dX12_duesOfAll_15 rfl ?_
      refine x_iload_n dX12_duesOfAll_16 rfl ?_
      refine x_callS2 (mc1 := 0) (ms1 := 0) dX12_duesOfAll_17 cv_RX12_259 (Nat.le_of_ble_eq_true rfl) (n1 := n - 1) (by omega) (by omega) (by omega) ?_
      refine sp_X12_has (by omega) (by omega) (fun r17 hr17 => ?_)
      refine x_if_eq 31 dX12_duesOfAll_20 (by decide) (by omega) (fun w20 => ?_) (fun w20 => ?_)
      · refine x_iconst dX12_duesOfAll_31 ?_
        refine x_iadd dX12_duesOfAll_32 ?_
        refine x_istore_n (lv2 := [(2, _), (0, _), (1, _), (3, _)]) dX12_duesOfAll_33 (by decide) rfl ?_
        refine x_iinc (lv2 := [(3, _), (2, _), (0, _), (1, _)]) dX12_duesOfAll_34 rfl (by decide) rfl ?_
        refine x_goto 4 dX12_duesOfAll_37 (by decide) ?_
        refine x_sub [2, 3, 1, 0] rfl ?_
        first
          | (have hg := ih _ (by omega) (k + 1) J (by omega) rfl hF
             rw [show smR (duR A tx) s (k + 1) = smR (duR A tx) s k + 0 from congrArg _ (if_neg (by rcases hr17 with h | h <;> first | (exfalso; omega) | (rw [h.2]; decide)))] at hg
             exact hg)
          | (have hg := ih _ (by omega) (k + 1) J25 (by omega) rfl (hF.tr hF25)
             rw [show smR (duR A tx) s (k + 1) = smR (duR A tx) s k + duesP A tx (A 2) k 0 (A 9) from congrArg _ (if_pos (by rcases hr17 with h | h <;> first | exact h.2 | (exfalso; omega)))] at hg
             exact hg)
      · refine x_aload_n dX12_duesOfAll_23 rfl ?_
        refine x_iload_n dX12_duesOfAll_24 rfl ?_
        refine x_callV1 (mc1 := 0) (ms1 := 0) dX12_duesOfAll_25 cv_RX12_330 (ci := 12) (k_ob_306 cs) rfl (Nat.le_of_ble_eq_true rfl) (n1 := n - 1) (by omega) (by omega) (by omega) ?_
        refine sp_X12_duesOf cs aJ hN tJ (by omega) (by omega) (fun J25 hF25 => ?_)
        refine x_goto 32 dX12_duesOfAll_28 (by decide) ?_
        refine x_iadd dX12_duesOfAll_32 ?_
        refine x_istore_n (lv2 := [(2, _), (0, _), (1, _), (3, _)]) dX12_duesOfAll_33 (by decide) rfl ?_
        refine x_iinc (lv2 := [(3, _), (2, _), (0, _), (1, _)]) dX12_duesOfAll_34 rfl (by decide) rfl ?_
        refine x_goto 4 dX12_duesOfAll_37 (by decide) ?_
        refine x_sub [2, 3, 1, 0] rfl ?_
        first
          | (have hg := ih _ (by omega) (k + 1) J (by omega) rfl hF
             rw [show smR (duR A tx) s (k + 1) = smR (duR A tx) s k + 0 from congrArg _ (if_neg (by rcases hr17 with h | h <;> first | (exfalso; omega) | (rw [h.2]; decide)))] at hg
             exact hg)
          | (have hg := ih _ (by omega) (k + 1) J25 (by omega) rfl (hF.tr hF25)
             rw [show smR (duR A tx) s (k + 1) = smR (duR A tx) s k + duesP A tx (A 2) k 0 (A 9) from congrArg _ (if_pos (by rcases hr17 with h | h <;> first | exact h.2 | (exfalso; omega)))] at hg
             exact hg)
theorem sp_X12_duesOfAll {s : Nat} (cs : CS S R) (hs : s < 256) (hA : I 307 = A) (hN : BN A) (hT : RTx (I 309) A tx) (hn : 6 ≤ n) (hp : ∀ I', FD I I' → Post (some (.int (iI (smR (duR A tx) s (A 0).toNat)))) S I' R) : Call n 0 0 mX12_duesOfAll [.ref (S.2.1 306), .int (iI (s : Int))] S I R Post := by
  have b0 := hN.1
  refine Call.of (by decide +kernel) (Nat.le_of_ble_eq_true rfl) ?_
  show WP _ _ _ _ _ 0 [(0, _), (1, _)] [] 0 0 _ _ _
  refine x_iconst dX12_duesOfAll_0 ?_
  refine x_istore_n (lv2 := [(2, _), (0, _), (1, _)]) dX12_duesOfAll_1 (by decide) rfl ?_
  refine x_iconst dX12_duesOfAll_2 ?_
  refine x_istore_n (lv2 := [(3, _), (2, _), (0, _), (1, _)]) dX12_duesOfAll_3 (by decide) rfl ?_
  refine x_sub [2, 3, 1, 0] rfl ?_
  exact lp_X12_duesOfAll cs hs hA hN hT hn hp _ 0 I (by omega) rfl FD.rf
theorem dX12_heatOfAll_0 : decode prog_14_method_121_code 0 = .ok (.iconst 0, 1) := by decide +kernel
theorem dX12_heatOfAll_1 : decode prog_14_method_121_code 1 = .ok (.istore_n 2, 1) := by decide +kernel
theorem dX12_heatOfAll_2 : decode prog_14_method_121_code 2 = .ok (.iconst 0, 1) := by decide +kernel
theorem dX12_heatOfAll_3 : decode prog_14_method_121_code 3 = .ok (.istore_n 3, 1) := by decide +kernel
theorem dX12_heatOfAll_4 : decode prog_14_method_121_code 4 = .ok (.iload_n 3, 1) := by decide +kernel
theorem dX12_heatOfAll_5 : decode prog_14_method_121_code 5 = .ok (.aload_n 0, 1) := by decide +kernel
theorem dX12_heatOfAll_6 : decode prog_14_method_121_code 6 = .ok (.getfield 7, 3) := by decide +kernel
theorem dX12_heatOfAll_9 : decode prog_14_method_121_code 9 = .ok (.iconst 0, 1) := by decide +kernel
theorem dX12_heatOfAll_10 : decode prog_14_method_121_code 10 = .ok (.iaload, 1) := by decide +kernel
theorem dX12_heatOfAll_11 : decode prog_14_method_121_code 11 = .ok (.if_icmp .ge 29, 3) := by decide +kernel
theorem dX12_heatOfAll_14 : decode prog_14_method_121_code 14 = .ok (.iload_n 2, 1) := by decide +kernel
theorem dX12_heatOfAll_15 : decode prog_14_method_121_code 15 = .ok (.iload_n 1, 1) := by decide +kernel
theorem dX12_heatOfAll_16 : decode prog_14_method_121_code 16 = .ok (.iload_n 3, 1) := by decide +kernel
theorem dX12_heatOfAll_17 : decode prog_14_method_121_code 17 = .ok (.invokestatic 259, 3) := by decide +kernel
theorem dX12_heatOfAll_20 : decode prog_14_method_121_code 20 = .ok (.ifCond .eq 11, 3) := by decide +kernel
theorem dX12_heatOfAll_23 : decode prog_14_method_121_code 23 = .ok (.aload_n 0, 1) := by decide +kernel
theorem dX12_heatOfAll_24 : decode prog_14_method_121_code 24 = .ok (.iload_n 3, 1) := by decide +kernel
theorem dX12_heatOfAll_25 : decode prog_14_method_121_code 25 = .ok (.invokevirtual 281, 3) := by decide +kernel
theorem dX12_heatOfAll_28 : decode prog_14_method_121_code 28 = .ok (.goto 4, 3) := by decide +kernel
theorem dX12_heatOfAll_31 : decode prog_14_method_121_code 31 = .ok (.iconst 0, 1) := by decide +kernel
theorem dX12_heatOfAll_32 : decode prog_14_method_121_code 32 = .ok (.iadd, 1) := by decide +kernel
theorem dX12_heatOfAll_33 : decode prog_14_method_121_code 33 = .ok (.istore_n 2, 1) := by decide +kernel
theorem dX12_heatOfAll_34 : decode prog_14_method_121_code 34 = .ok (.iinc 3 1, 3) := by decide +kernel
theorem dX12_heatOfAll_37 : decode prog_14_method_121_code 37 = .ok (.goto (-33), 3) := by decide +kernel
theorem dX12_heatOfAll_40 : decode prog_14_method_121_code 40 = .ok (.iload_n 2, 1) := by decide +kernel
theorem dX12_heatOfAll_41 : decode prog_14_method_121_code 41 = .ok (.ireturn, 1) := by decide +kernel
theorem lp_X12_heatOfAll {s : Nat} (cs : CS S R) (hs : s < 256) (hA : I 307 = A) (hN : BN A) (hn : 1 ≤ n) (hp : Post (some (.int (iI (smR (heR A) s (A 0).toNat)))) S I R) : ∀ (d k : Nat), (k : Int) ≤ A 0 → (A 0).toNat - k = d → WP n 0 0 mX12_heatOfAll Post 4 [(0, .ref (S.2.1 306)), (1, .int (iI (s : Int))), (2, .int (iI (smR (heR A) s k))), (3, .int (iI (k : Int)))] [] 0 0 S I R := by
  obtain ⟨b0, b1, b2, b7, b8, b9, b10, bq⟩ := id hN
  intro d
  induction d using Nat.strongRecOn with
  | ind d ih =>
    intro k k1 k2
    refine x_iload_n dX12_heatOfAll_4 rfl ?_
    refine x_aload_n dX12_heatOfAll_5 rfl ?_
    refine x_getR (b := 307) dX12_heatOfAll_6 gf_RX12_7 (k_ob_306 cs) (fun _ _ => rfl) (k_r_306_0 cs) ?_
    refine x_iconst dX12_heatOfAll_9 ?_
    refine x_ald7 (kk := 0) (v := A 0) dX12_heatOfAll_10 cs (by omega) (by omega) (by rw [hA]; repeat (first | rfl | rw [upA_s] | rw [upA_o (by omega)])) ?_
    refine x_icmp_ge 40 dX12_heatOfAll_11 (by decide) ⟨(by omega), (by omega)⟩ (fun w11 => ?_) (fun w11 => ?_)
    · refine x_iload_n dX12_heatOfAll_40 rfl ?_
      exact x_ireturn dX12_heatOfAll_41 rfl (by omega) (by omega) (by obtain rfl : k = (A 0).toNat := (by omega); exact hp)
    · refine x_iload_n dX12_heatOfAll_14 rfl ?_
      refine x_iload_n dX12_heatOfAll_15 rfl ?_
      refine x_iload_n dX12_heatOfAll_16 rfl ?_
      refine x_callS2 (mc1 := 0) (ms1 := 0) dX12_heatOfAll_17 cv_RX12_259 (Nat.le_of_ble_eq_true rfl) (n1 := n - 1) (by omega) (by omega) (by omega) ?_
      refine sp_X12_has (by omega) (by omega) (fun r17 hr17 => ?_)
      refine x_if_eq 31 dX12_heatOfAll_20 (by decide) (by omega) (fun w20 => ?_) (fun w20 => ?_)
      · refine x_iconst dX12_heatOfAll_31 ?_
        refine x_iadd dX12_heatOfAll_32 ?_
        refine x_istore_n (lv2 := [(2, _), (0, _), (1, _), (3, _)]) dX12_heatOfAll_33 (by decide) rfl ?_
        refine x_iinc (lv2 := [(3, _), (2, _), (0, _), (1, _)]) dX12_heatOfAll_34 rfl (by decide) rfl ?_
        refine x_goto 4 dX12_heatOfAll_37 (by decide) ?_
        refine x_sub [2, 3, 1, 0] rfl ?_
        have hg := ih _ (by omega) (k + 1) (by omega) rfl
        first
          | (rw [show smR (heR A) s (k + 1) = smR (heR A) s k + 0 from congrArg _ (if_neg (by rcases hr17 with h | h <;> first | (exfalso; omega) | (rw [h.2]; decide)))] at hg
             exact hg)
          | (rw [show smR (heR A) s (k + 1) = smR (heR A) s k + A (14 + 3 * k) from congrArg _ (if_pos (by rcases hr17 with h | h <;> first | exact h.2 | (exfalso; omega)))] at hg
             exact hg)
      · refine x_aload_n dX12_heatOfAll_23 rfl ?_
        refine x_iload_n dX12_heatOfAll_24 rfl ?_
        refine x_callV1 (mc1 := 0) (ms1 := 0) dX12_heatOfAll_25 cv_RX12_281 (ci := 12) (k_ob_306 cs) rfl (Nat.le_of_ble_eq_true rfl) (n1 := n - 1) (by omega) (by omega) (by omega) ?_
        refine sp_X12_heatOf cs hA (by omega) ?_
        refine x_goto 32 dX12_heatOfAll_28 (by decide) ?_
        refine x_iadd dX12_heatOfAll_32 ?_
        refine x_istore_n (lv2 := [(2, _), (0, _), (1, _), (3, _)]) dX12_heatOfAll_33 (by decide) rfl ?_
        refine x_iinc (lv2 := [(3, _), (2, _), (0, _), (1, _)]) dX12_heatOfAll_34 rfl (by decide) rfl ?_
        refine x_goto 4 dX12_heatOfAll_37 (by decide) ?_
        refine x_sub [2, 3, 1, 0] rfl ?_
        have hg := ih _ (by omega) (k + 1) (by omega) rfl
        first
          | (rw [show smR (heR A) s (k + 1) = smR (heR A) s k + 0 from congrArg _ (if_neg (by rcases hr17 with h | h <;> first | (exfalso; omega) | (rw [h.2]; decide)))] at hg
             exact hg)
          | (rw [show smR (heR A) s (k + 1) = smR (heR A) s k + A (14 + 3 * k) from congrArg _ (if_pos (by rcases hr17 with h | h <;> first | exact h.2 | (exfalso; omega)))] at hg
             exact hg)
theorem sp_X12_heatOfAll {s : Nat} (cs : CS S R) (hs : s < 256) (hA : I 307 = A) (hN : BN A) (hn : 1 ≤ n) (hp : Post (some (.int (iI (smR (heR A) s (A 0).toNat)))) S I R) : Call n 0 0 mX12_heatOfAll [.ref (S.2.1 306), .int (iI (s : Int))] S I R Post := by
  have b0 := hN.1
  refine Call.of (by decide +kernel) (Nat.le_of_ble_eq_true rfl) ?_
  show WP _ _ _ _ _ 0 [(0, _), (1, _)] [] 0 0 _ _ _
  refine x_iconst dX12_heatOfAll_0 ?_
  refine x_istore_n (lv2 := [(2, _), (0, _), (1, _)]) dX12_heatOfAll_1 (by decide) rfl ?_
  refine x_iconst dX12_heatOfAll_2 ?_
  refine x_istore_n (lv2 := [(3, _), (2, _), (0, _), (1, _)]) dX12_heatOfAll_3 (by decide) rfl ?_
  refine x_sub [2, 3, 1, 0] rfl ?_
  exact lp_X12_heatOfAll cs hs hA hN hn hp _ 0 (by omega) rfl
end Ref10
