section Laws4
variable {n : Nat} {Post : PT} {S : Sh} {I : CI} {R : CR} {A : Nat → Int} {tx : Nat → Nat → Int}
theorem dX3_duesBy_0 : decode prog_5_method_3_code 0 = .ok (.aload_n 0, 1) := by decide +kernel
theorem dX3_duesBy_1 : decode prog_5_method_3_code 1 = .ok (.iload_n 2, 1) := by decide +kernel
theorem dX3_duesBy_2 : decode prog_5_method_3_code 2 = .ok (.iload_n 3, 1) := by decide +kernel
theorem dX3_duesBy_3 : decode prog_5_method_3_code 3 = .ok (.iload 4, 2) := by decide +kernel
theorem dX3_duesBy_5 : decode prog_5_method_3_code 5 = .ok (.invokevirtual 41, 3) := by decide +kernel
theorem dX3_duesBy_8 : decode prog_5_method_3_code 8 = .ok (.aload_n 0, 1) := by decide +kernel
theorem dX3_duesBy_9 : decode prog_5_method_3_code 9 = .ok (.getfield 9, 3) := by decide +kernel
theorem dX3_duesBy_12 : decode prog_5_method_3_code 12 = .ok (.iconst 3, 1) := by decide +kernel
theorem dX3_duesBy_13 : decode prog_5_method_3_code 13 = .ok (.iaload, 1) := by decide +kernel
theorem dX3_duesBy_14 : decode prog_5_method_3_code 14 = .ok (.istore 5, 2) := by decide +kernel
theorem dX3_duesBy_16 : decode prog_5_method_3_code 16 = .ok (.iload 5, 2) := by decide +kernel
theorem dX3_duesBy_18 : decode prog_5_method_3_code 18 = .ok (.aload_n 0, 1) := by decide +kernel
theorem dX3_duesBy_19 : decode prog_5_method_3_code 19 = .ok (.getfield 9, 3) := by decide +kernel
theorem dX3_duesBy_22 : decode prog_5_method_3_code 22 = .ok (.iconst 5, 1) := by decide +kernel
theorem dX3_duesBy_23 : decode prog_5_method_3_code 23 = .ok (.iaload, 1) := by decide +kernel
theorem dX3_duesBy_24 : decode prog_5_method_3_code 24 = .ok (.iload 5, 2) := by decide +kernel
theorem dX3_duesBy_26 : decode prog_5_method_3_code 26 = .ok (.imul, 1) := by decide +kernel
theorem dX3_duesBy_27 : decode prog_5_method_3_code 27 = .ok (.bipush 50, 2) := by decide +kernel
theorem dX3_duesBy_29 : decode prog_5_method_3_code 29 = .ok (.idiv, 1) := by decide +kernel
theorem dX3_duesBy_30 : decode prog_5_method_3_code 30 = .ok (.iadd, 1) := by decide +kernel
theorem dX3_duesBy_31 : decode prog_5_method_3_code 31 = .ok (.istore 6, 2) := by decide +kernel
theorem dX3_duesBy_33 : decode prog_5_method_3_code 33 = .ok (.aload_n 0, 1) := by decide +kernel
theorem dX3_duesBy_34 : decode prog_5_method_3_code 34 = .ok (.getfield 18, 3) := by decide +kernel
theorem dX3_duesBy_37 : decode prog_5_method_3_code 37 = .ok (.iload_n 1, 1) := by decide +kernel
theorem dX3_duesBy_38 : decode prog_5_method_3_code 38 = .ok (.invokevirtual 45, 3) := by decide +kernel
theorem dX3_duesBy_41 : decode prog_5_method_3_code 41 = .ok (.ifCond .eq 50, 3) := by decide +kernel
theorem dX3_duesBy_44 : decode prog_5_method_3_code 44 = .ok (.aload_n 0, 1) := by decide +kernel
theorem dX3_duesBy_45 : decode prog_5_method_3_code 45 = .ok (.getfield 18, 3) := by decide +kernel
theorem dX3_duesBy_48 : decode prog_5_method_3_code 48 = .ok (.getfield 49, 3) := by decide +kernel
theorem dX3_duesBy_51 : decode prog_5_method_3_code 51 = .ok (.iload_n 1, 1) := by decide +kernel
theorem dX3_duesBy_52 : decode prog_5_method_3_code 52 = .ok (.aaload, 1) := by decide +kernel
theorem dX3_duesBy_53 : decode prog_5_method_3_code 53 = .ok (.invokevirtual 53, 3) := by decide +kernel
theorem dX3_duesBy_56 : decode prog_5_method_3_code 56 = .ok (.ifCond .eq 35, 3) := by decide +kernel
theorem dX3_duesBy_59 : decode prog_5_method_3_code 59 = .ok (.aload_n 0, 1) := by decide +kernel
theorem dX3_duesBy_60 : decode prog_5_method_3_code 60 = .ok (.getfield 18, 3) := by decide +kernel
theorem dX3_duesBy_63 : decode prog_5_method_3_code 63 = .ok (.getfield 49, 3) := by decide +kernel
theorem dX3_duesBy_66 : decode prog_5_method_3_code 66 = .ok (.iload_n 1, 1) := by decide +kernel
theorem dX3_duesBy_67 : decode prog_5_method_3_code 67 = .ok (.aaload, 1) := by decide +kernel
theorem dX3_duesBy_68 : decode prog_5_method_3_code 68 = .ok (.astore 7, 2) := by decide +kernel
theorem dX3_duesBy_70 : decode prog_5_method_3_code 70 = .ok (.aload_n 0, 1) := by decide +kernel
theorem dX3_duesBy_71 : decode prog_5_method_3_code 71 = .ok (.aload 7, 2) := by decide +kernel
theorem dX3_duesBy_73 : decode prog_5_method_3_code 73 = .ok (.getfield 59, 3) := by decide +kernel
theorem dX3_duesBy_76 : decode prog_5_method_3_code 76 = .ok (.aload 7, 2) := by decide +kernel
theorem dX3_duesBy_78 : decode prog_5_method_3_code 78 = .ok (.getfield 62, 3) := by decide +kernel
theorem dX3_duesBy_81 : decode prog_5_method_3_code 81 = .ok (.aload 7, 2) := by decide +kernel
theorem dX3_duesBy_83 : decode prog_5_method_3_code 83 = .ok (.getfield 65, 3) := by decide +kernel
theorem dX3_duesBy_86 : decode prog_5_method_3_code 86 = .ok (.invokevirtual 68, 3) := by decide +kernel
theorem dX3_duesBy_89 : decode prog_5_method_3_code 89 = .ok (.istore 6, 2) := by decide +kernel
theorem dX3_duesBy_91 : decode prog_5_method_3_code 91 = .ok (.iconst 0, 1) := by decide +kernel
theorem dX3_duesBy_92 : decode prog_5_method_3_code 92 = .ok (.sipush 9999, 3) := by decide +kernel
theorem dX3_duesBy_95 : decode prog_5_method_3_code 95 = .ok (.iload 6, 2) := by decide +kernel
theorem dX3_duesBy_97 : decode prog_5_method_3_code 97 = .ok (.invokestatic 72, 3) := by decide +kernel
theorem dX3_duesBy_100 : decode prog_5_method_3_code 100 = .ok (.invokestatic 78, 3) := by decide +kernel
theorem dX3_duesBy_103 : decode prog_5_method_3_code 103 = .ok (.ireturn, 1) := by decide +kernel
theorem held_b {q : Nat} {l p : Int} (hb : BA A) (hq : q < 8) (hl : 0 ≤ l ∧ l ≤ 60) : 0 ≤ nmA A q l p 5 ∧ nmA A q l p 5 ≤ 10059 ∧ 0 ≤ nmA A q l p 5 * A (52 + q) ∧ nmA A q l p 5 * A (52 + q) ≤ 995841 := by
  have b7 : 0 ≤ A 7 ∧ A 7 ≤ 9999 := hb.1.2.1
  have w4 := hb.1.2.2.2.2.2.1 q hq
  rw [show 6 + 6 + 3 * q = 12 + 3 * q by omega, show 6 + 7 + 3 * q = 13 + 3 * q by omega, show 6 + 8 + 3 * q = 14 + 3 * q by omega, show 6 + 1 = 7 by rfl] at w4
  have w1 := (hb.2.2.1 q hq).2.2.1
  have h1 : 0 ≤ nmA A q l p 5 ∧ nmA A q l p 5 ≤ 10059 := by show 0 ≤ (if A (12 + 3 * q) = 1 then A 7 - A (13 + 3 * q) + l else 0) ∧ (if A (12 + 3 * q) = 1 then A 7 - A (13 + 3 * q) + l else 0) ≤ 10059; split <;> omega
  refine ⟨h1.1, h1.2, Int.mul_nonneg h1.1 w1.1, ?_⟩
  have : nmA A q l p 5 * A (52 + q) ≤ 10059 * 99 := Int.mul_le_mul h1.2 w1.2 w1.1 (by omega)
  omega
/-- what valueOf gives, by the row of names and the text's own numbers -/
theorem ev_eq {J : CI} {id q : Nat} {l p : Int} {x : Nat → Int} {f K : Nat} (hk : ∀ k, k < 8 → J 280 k = nmA A q l p k) (hx : ∀ i : Nat, (i : Int) < x 5 → J (id + 1) i = x (106 + i)) (hfK : ((f + K : Nat) : Int) ≤ x 5) (hK : 0 < K) (ho : okC (fun i => x (106 + i)) f K 0) : (rnF (J 280) A (J (id + 1)) f (J 281) K).1 0 = evP (nmA A q l p) A (fun i => x (106 + i)) f K := by
  have ho2 : okC (J (id + 1)) f K 0 := okC_congr (fun i h1 h2 => (hx i (by omega)).symm) ho
  have h := rnF_congr (nm := J 280) (nm' := nmA A q l p) (A := A) (cd := J (id + 1)) (cd' := fun i => x (106 + i)) (s0 := J 281) (s0' := fun _ => 0) (f := f) (K := K) hk (fun i h1 h2 => hx i (by omega)) ho2 K (Nat.le_refl K)
  exact h.2 0 (rnF_top ho2 hK)
theorem sp_X3_duesBy {t q l p : Int} (cs : CS S R) (hc : ClW I 1 A) (hb : BA A) (hw : WTx S R I A tx) (hk : SK I) (ht : Rg t) (hq : 0 ≤ q ∧ q < 8) (hl : 0 ≤ l ∧ l ≤ 60) (hpp : -100000 ≤ p ∧ p ≤ 100000) (hn : 3 ≤ n) (hp : ∀ I', Fl I I' → SK I' → Post (some (.int (iI (duesP A tx t q.toNat l p)))) S I' R) : Call n 0 0 mX3_duesBy [.ref (S.2.1 279), .int (iI t), .int (iI q), .int (iI l), .int (iI p)] S I R Post := by
  obtain ⟨⟨⟨c0, c7, c8, c9, c10, c11⟩, cq⟩, ⟨⟨t1, t2, t3, t4, t5, t6, t7, t8, t9⟩, tq, th, tb, ts, td⟩, cb, cp⟩ := id hc
  dsimp only [Nat.reduceAdd] at c0 c7 c8 c9 c10 c11 cq t1 t2 t3 t4 t5 t6 t7 t8 t9 tq th tb ts td
  obtain ⟨⟨b0, b1, b2, b3, b4, bq, bl⟩, ⟨d1, d2, d3, d4, d5, d6, d7⟩, dq, dh, db, ds, dd, dp⟩ := id hb
  have b7 : 0 ≤ A 7 ∧ A 7 ≤ 9999 := b1
  have b8 : 0 ≤ A 8 ∧ A 8 ≤ 30870 := b2
  have b9 : 0 ≤ A 9 ∧ A 9 ≤ 9999 := b3
  have b10 : 0 ≤ A 10 ∧ A 10 ≤ 1 := b4
  have b11 : 0 ≤ A 11 ∧ A 11 ≤ 16 := by have h1 := lns_b (fun q => A (6 + 6 + 3 * q)) (A 0).toNat; have h2 : A 11 = _ := bl; omega
  have w1 := dq q.toNat (by omega)
  have w4 := bq q.toNat (by omega)
  rw [show 6 + 6 + 3 * q.toNat = 12 + 3 * q.toNat by omega, show 6 + 7 + 3 * q.toNat = 13 + 3 * q.toNat by omega, show 6 + 8 + 3 * q.toNat = 14 + 3 * q.toNat by omega, show 6 + 1 = 7 by rfl] at w4
  have hh := held_b (l := l) (p := p) hb (show q.toNat < 8 by omega) hl
  have hnb := nmA_b (l := l) (p := p) hb (show q.toNat < 8 by omega) hl hpp
  refine Call.of (by decide +kernel) (Nat.le_of_ble_eq_true rfl) ?_
  show WP _ _ _ _ _ 0 [(0, _), (1, _), (2, _), (3, _), (4, _)] [] 0 0 _ _ _
  by_cases hv : 0 ≤ t ∧ t < A 1
  · obtain ⟨id, g1, ⟨x0, x1, x2, x3, x4, x5, x6, x7, ⟨x8, x9, x10, x11, x12⟩, x13, x14⟩, ⟨⟨v1, v2⟩, ⟨v3, v4⟩⟩⟩ := hw t.toNat (by omega)
    refine x_aload_n dX3_duesBy_0 rfl ?_
    refine x_iload_n dX3_duesBy_1 rfl ?_
    refine x_iload_n dX3_duesBy_2 rfl ?_
    refine x_iload dX3_duesBy_3 rfl ?_
    refine x_callV3 (mc1 := 0) (ms1 := 0) dX3_duesBy_5 cv_RX3_41 (ci := 3) (k_ob_279 cs) rfl (Nat.le_of_ble_eq_true rfl) (n1 := n - 1) (by omega) (by omega) (by omega) ?_
    refine sp_X3_nameAll cs hc hb (by omega) (by omega) (fun I5 hk5 ho5 => ?_)
    have hF38 : Fl I I5 := fun c h1 h2 => ho5 c h1
    have hF53 := hF38
    have e9 := ho5 id (by omega)
    have hS5 : SK I5 := by intro k hk2; rw [ho5 281 (by omega)]; exact hk k hk2
    refine x_aload_n dX3_duesBy_8 rfl ?_
    refine x_getR (b := 280) dX3_duesBy_9 gf_RX3_9 (k_ob_279 cs) (fun _ _ => rfl) (k_r_279_1 cs) ?_
    refine x_iconst dX3_duesBy_12 ?_
    refine x_iaload dX3_duesBy_13 (k_ar_280 cs) (by omega) (by omega) ?_
    rw [show I5 280 (Int.toNat 3) = A (52 + q.toNat) from hk5 3 (by omega)]
    refine x_istore (lv2 := [(5, _), (0, _), (1, _), (2, _), (3, _), (4, _)]) dX3_duesBy_14 (by decide) rfl ?_
    refine x_iload dX3_duesBy_16 rfl ?_
    refine x_aload_n dX3_duesBy_18 rfl ?_
    refine x_getR (b := 280) dX3_duesBy_19 gf_RX3_9 (k_ob_279 cs) (fun _ _ => rfl) (k_r_279_1 cs) ?_
    refine x_iconst dX3_duesBy_22 ?_
    refine x_iaload dX3_duesBy_23 (k_ar_280 cs) (by omega) (by omega) ?_
    rw [show I5 280 (Int.toNat 5) = nmA A q.toNat l p 5 from hk5 5 (by omega)]
    refine x_iload dX3_duesBy_24 rfl ?_
    refine x_imul dX3_duesBy_26 ?_
    refine x_bipush dX3_duesBy_27 (by decide) ?_
    refine x_idiv dX3_duesBy_29 (by omega) ?_
    refine x_iadd dX3_duesBy_30 ?_
    refine x_istore (lv2 := [(6, _), (5, _), (0, _), (1, _), (2, _), (3, _), (4, _)]) dX3_duesBy_31 (by decide) rfl ?_
    refine x_aload_n dX3_duesBy_33 rfl ?_
    refine x_getR (b := 1) dX3_duesBy_34 gf_RX3_18 (k_ob_279 cs) (fun _ _ => rfl) (k_r_279_0 cs) ?_
    refine x_iload_n dX3_duesBy_37 rfl ?_
    refine x_callV1 (mc1 := 0) (ms1 := 0) dX3_duesBy_38 cv_RX3_45 (ci := 10) (k_ob_1 cs) rfl (Nat.le_of_ble_eq_true rfl) (n1 := n - 1) (by omega) (by omega) (by omega) ?_
    refine sp_X10_hasText cs (Fl.W hF38 hc) hb (Fl.X hF38 hw) (by omega) (fun r38 hr38 => ?_)
    refine x_if_eq 91 dX3_duesBy_41 (by decide) (by omega) (fun w41 => ?_) (fun w41 => ?_)
    · refine x_iconst dX3_duesBy_91 ?_
      refine x_sipush dX3_duesBy_92 (by decide) ?_
      refine x_iload dX3_duesBy_95 rfl ?_
      refine x_mmin dX3_duesBy_97 cv_RX3_72 (by omega) (Nat.le_of_ble_eq_true rfl) (by omega) (by omega) (by omega) (fun r97 hr97 => ?_)
      refine x_mmax dX3_duesBy_100 cv_RX3_78 (by omega) (Nat.le_of_ble_eq_true rfl) (by omega) (by omega) (by omega) (fun r100 hr100 => ?_)
      exact x_ireturn dX3_duesBy_103 rfl (by omega) (by omega) (by first | (exfalso; omega) | (rw [hd, show clampI 0 9999 (evP (nmA A q.toNat l p) A (fun i => tx t.toNat (106 + i)) (tx t.toNat 1).toNat K) = r100 by unfold clampI; split <;> first | omega | (split <;> omega)] at hp; exact hp _ hF86 hS86) | (rw [show duesP A tx t q.toNat l p = clampI 0 9999 (A (52 + q.toNat) + nmA A q.toNat l p 5 * A (52 + q.toNat) / 50) from congrArg _ (if_neg (by omega)), show clampI 0 9999 (A (52 + q.toNat) + nmA A q.toNat l p 5 * A (52 + q.toNat) / 50) = r100 by unfold clampI; split <;> first | omega | (split <;> omega)] at hp; exact hp _ hF38 hS5))
    · refine x_aload_n dX3_duesBy_44 rfl ?_
      refine x_getR (b := 1) dX3_duesBy_45 gf_RX3_18 (k_ob_279 cs) (fun _ _ => rfl) (k_r_279_0 cs) ?_
      refine x_getR (b := 12) dX3_duesBy_48 gf_RX3_49 (k_ob_1 cs) (fun _ _ => rfl) (k_r_1_7 cs) ?_
      refine x_iload_n dX3_duesBy_51 rfl ?_
      refine x_aaload_t dX3_duesBy_52 (k_ar_12 cs) (by omega) (v := .ref (S.2.1 id)) (by rw [g1]; rfl) (by omega) ?_
      refine x_callV0 (mc1 := 0) (ms1 := 0) dX3_duesBy_53 cv_RX3_53 (ci := 8) x1 rfl (Nat.le_of_ble_eq_true rfl) (n1 := n - 1) (by omega) (by omega) (by omega) ?_
      refine sp_X8_hasDues x1 (by rw [e9, x9, x10]; omega) (fun r53 hr53 => ?_)
      rw [e9, x9, x10] at hr53
      refine x_if_eq 91 dX3_duesBy_56 (by decide) (by omega) (fun w56 => ?_) (fun w56 => ?_)
      · refine x_iconst dX3_duesBy_91 ?_
        refine x_sipush dX3_duesBy_92 (by decide) ?_
        refine x_iload dX3_duesBy_95 rfl ?_
        refine x_mmin dX3_duesBy_97 cv_RX3_72 (by omega) (Nat.le_of_ble_eq_true rfl) (by omega) (by omega) (by omega) (fun r97 hr97 => ?_)
        refine x_mmax dX3_duesBy_100 cv_RX3_78 (by omega) (Nat.le_of_ble_eq_true rfl) (by omega) (by omega) (by omega) (fun r100 hr100 => ?_)
        exact x_ireturn dX3_duesBy_103 rfl (by omega) (by omega) (by first | (exfalso; omega) | (rw [hd, show clampI 0 9999 (evP (nmA A q.toNat l p) A (fun i => tx t.toNat (106 + i)) (tx t.toNat 1).toNat K) = r100 by unfold clampI; split <;> first | omega | (split <;> omega)] at hp; exact hp _ hF86 hS86) | (rw [show duesP A tx t q.toNat l p = clampI 0 9999 (A (52 + q.toNat) + nmA A q.toNat l p 5 * A (52 + q.toNat) / 50) from congrArg _ (if_neg (by omega)), show clampI 0 9999 (A (52 + q.toNat) + nmA A q.toNat l p 5 * A (52 + q.toNat) / 50) = r100 by unfold clampI; split <;> first | omega | (split <;> omega)] at hp; exact hp _ hF38 hS5))
      · refine x_aload_n dX3_duesBy_59 rfl ?_
        refine x_getR (b := 1) dX3_duesBy_60 gf_RX3_18 (k_ob_279 cs) (fun _ _ => rfl) (k_r_279_0 cs) ?_
        refine x_getR (b := 12) dX3_duesBy_63 gf_RX3_49 (k_ob_1 cs) (fun _ _ => rfl) (k_r_1_7 cs) ?_
        refine x_iload_n dX3_duesBy_66 rfl ?_
        refine x_aaload_t dX3_duesBy_67 (k_ar_12 cs) (by omega) (v := .ref (S.2.1 id)) (by rw [g1]; rfl) (by omega) ?_
        refine x_astore (lv2 := [(7, _), (6, _), (5, _), (0, _), (1, _), (2, _), (3, _), (4, _)]) dX3_duesBy_68 (by decide) rfl ?_
        refine x_aload_n dX3_duesBy_70 rfl ?_
        refine x_aload dX3_duesBy_71 rfl ?_
        refine x_getR dX3_duesBy_73 gf_RX3_59 x1 (fun _ _ => rfl) (by first | assumption | exact x2) ?_
        refine x_aload dX3_duesBy_76 rfl ?_
        refine x_getI dX3_duesBy_78 gf_RX3_62 x1 (fun _ _ => rfl) ?_
        refine x_aload dX3_duesBy_81 rfl ?_
        refine x_getI dX3_duesBy_83 gf_RX3_65 x1 (fun _ _ => rfl) ?_
        refine x_callV3 (mc1 := 0) (ms1 := 0) dX3_duesBy_86 cv_RX3_68 (ci := 3) (k_ob_279 cs) rfl (Nat.le_of_ble_eq_true rfl) (n1 := n - 1) (by omega) (by omega) (by omega) ?_
        obtain ⟨K, hK⟩ : ∃ K : Nat, K = (tx t.toNat 2 - tx t.toNat 1).toNat := ⟨_, rfl⟩
        rw [e9, x9, x10, show tx t.toNat 1 = (((tx t.toNat 1).toNat : Nat) : Int) by omega, show tx t.toNat 2 = (((tx t.toNat 1).toNat + K : Nat) : Int) by omega]
        have v5 := v2 (by omega)
        refine sp_X3_valueOf cs (Fl.W hF38 hc) hb (N := (tx t.toNat 5).toNat) (by exact x6) (by omega) (by omega) (by omega) (okC_congr (fun i h1 h2 => by rw [ho5 (id + 1) (by omega)]; exact (x13 i (by omega)).symm) (hK ▸ v5.2)) (fun k hk2 => by rw [hk5 k hk2]; exact hnb k) hS5 (by omega) (fun I86 hr86 ho86 => ?_)
        have ee : (rnF (I5 280) A (I5 (id + 1)) (tx t.toNat 1).toNat (I5 281) K).1 0 = evP (nmA A q.toNat l p) A (fun i => tx t.toNat (106 + i)) (tx t.toNat 1).toNat K := ev_eq hk5 (fun i hi => by rw [ho5 (id + 1) (by omega)]; exact x13 i hi) (by omega) (by omega) (hK ▸ v5.2)
        have eb := rnF_b (nm := I5 280) (A := A) (cd := I5 (id + 1)) (f := (tx t.toNat 1).toNat) hS5 K
        have eb0 := eb 0 (by omega)
        rw [ee] at eb0 ⊢
        have hd : duesP A tx t q.toNat l p = clampI 0 9999 (evP (nmA A q.toNat l p) A (fun i => tx t.toNat (106 + i)) (tx t.toNat 1).toNat K) := by unfold duesP; rw [if_pos ⟨hv.1, hv.2, by omega⟩, ← hK]
        have hF86 : Fl I I86 := fun c h1 h2 => (ho86 c h2).trans (ho5 c h1)
        have hS86 : SK I86 := by intro k hk2; rw [hr86]; exact eb k hk2
        refine x_istore (lv2 := [(6, _), (7, _), (5, _), (0, _), (1, _), (2, _), (3, _), (4, _)]) dX3_duesBy_89 (by decide) rfl ?_
        refine x_iconst dX3_duesBy_91 ?_
        refine x_sipush dX3_duesBy_92 (by decide) ?_
        refine x_iload dX3_duesBy_95 rfl ?_
        refine x_mmin dX3_duesBy_97 cv_RX3_72 (by omega) (Nat.le_of_ble_eq_true rfl) (by omega) (by omega) (by omega) (fun r97 hr97 => ?_)
        refine x_mmax dX3_duesBy_100 cv_RX3_78 (by omega) (Nat.le_of_ble_eq_true rfl) (by omega) (by omega) (by omega) (fun r100 hr100 => ?_)
        exact x_ireturn dX3_duesBy_103 rfl (by omega) (by omega) (by first | (exfalso; omega) | (rw [hd, show clampI 0 9999 (evP (nmA A q.toNat l p) A (fun i => tx t.toNat (106 + i)) (tx t.toNat 1).toNat K) = r100 by unfold clampI; split <;> first | omega | (split <;> omega)] at hp; exact hp _ hF86 hS86) | (rw [show duesP A tx t q.toNat l p = clampI 0 9999 (A (52 + q.toNat) + nmA A q.toNat l p 5 * A (52 + q.toNat) / 50) from congrArg _ (if_neg (by omega)), show clampI 0 9999 (A (52 + q.toNat) + nmA A q.toNat l p 5 * A (52 + q.toNat) / 50) = r100 by unfold clampI; split <;> first | omega | (split <;> omega)] at hp; exact hp _ hF38 hS5))
  · skip
    refine x_aload_n dX3_duesBy_0 rfl ?_
    refine x_iload_n dX3_duesBy_1 rfl ?_
    refine x_iload_n dX3_duesBy_2 rfl ?_
    refine x_iload dX3_duesBy_3 rfl ?_
    refine x_callV3 (mc1 := 0) (ms1 := 0) dX3_duesBy_5 cv_RX3_41 (ci := 3) (k_ob_279 cs) rfl (Nat.le_of_ble_eq_true rfl) (n1 := n - 1) (by omega) (by omega) (by omega) ?_
    refine sp_X3_nameAll cs hc hb (by omega) (by omega) (fun I5 hk5 ho5 => ?_)
    have hF38 : Fl I I5 := fun c h1 h2 => ho5 c h1
    have hS5 : SK I5 := by intro k hk2; rw [ho5 281 (by omega)]; exact hk k hk2
    refine x_aload_n dX3_duesBy_8 rfl ?_
    refine x_getR (b := 280) dX3_duesBy_9 gf_RX3_9 (k_ob_279 cs) (fun _ _ => rfl) (k_r_279_1 cs) ?_
    refine x_iconst dX3_duesBy_12 ?_
    refine x_iaload dX3_duesBy_13 (k_ar_280 cs) (by omega) (by omega) ?_
    rw [show I5 280 (Int.toNat 3) = A (52 + q.toNat) from hk5 3 (by omega)]
    refine x_istore (lv2 := [(5, _), (0, _), (1, _), (2, _), (3, _), (4, _)]) dX3_duesBy_14 (by decide) rfl ?_
    refine x_iload dX3_duesBy_16 rfl ?_
    refine x_aload_n dX3_duesBy_18 rfl ?_
    refine x_getR (b := 280) dX3_duesBy_19 gf_RX3_9 (k_ob_279 cs) (fun _ _ => rfl) (k_r_279_1 cs) ?_
    refine x_iconst dX3_duesBy_22 ?_
    refine x_iaload dX3_duesBy_23 (k_ar_280 cs) (by omega) (by omega) ?_
    rw [show I5 280 (Int.toNat 5) = nmA A q.toNat l p 5 from hk5 5 (by omega)]
    refine x_iload dX3_duesBy_24 rfl ?_
    refine x_imul dX3_duesBy_26 ?_
    refine x_bipush dX3_duesBy_27 (by decide) ?_
    refine x_idiv dX3_duesBy_29 (by omega) ?_
    refine x_iadd dX3_duesBy_30 ?_
    refine x_istore (lv2 := [(6, _), (5, _), (0, _), (1, _), (2, _), (3, _), (4, _)]) dX3_duesBy_31 (by decide) rfl ?_
    refine x_aload_n dX3_duesBy_33 rfl ?_
    refine x_getR (b := 1) dX3_duesBy_34 gf_RX3_18 (k_ob_279 cs) (fun _ _ => rfl) (k_r_279_0 cs) ?_
    refine x_iload_n dX3_duesBy_37 rfl ?_
    refine x_callV1 (mc1 := 0) (ms1 := 0) dX3_duesBy_38 cv_RX3_45 (ci := 10) (k_ob_1 cs) rfl (Nat.le_of_ble_eq_true rfl) (n1 := n - 1) (by omega) (by omega) (by omega) ?_
    refine sp_X10_hasText cs (Fl.W hF38 hc) hb (Fl.X hF38 hw) (by omega) (fun r38 hr38 => ?_)
    refine x_if_eq 91 dX3_duesBy_41 (by decide) (by omega) (fun w41 => ?_) (fun w41 => ?_)
    · refine x_iconst dX3_duesBy_91 ?_
      refine x_sipush dX3_duesBy_92 (by decide) ?_
      refine x_iload dX3_duesBy_95 rfl ?_
      refine x_mmin dX3_duesBy_97 cv_RX3_72 (by omega) (Nat.le_of_ble_eq_true rfl) (by omega) (by omega) (by omega) (fun r97 hr97 => ?_)
      refine x_mmax dX3_duesBy_100 cv_RX3_78 (by omega) (Nat.le_of_ble_eq_true rfl) (by omega) (by omega) (by omega) (fun r100 hr100 => ?_)
      exact x_ireturn dX3_duesBy_103 rfl (by omega) (by omega) (by first | (exfalso; omega) | (rw [show duesP A tx t q.toNat l p = clampI 0 9999 (A (52 + q.toNat) + nmA A q.toNat l p 5 * A (52 + q.toNat) / 50) from congrArg _ (if_neg (by omega)), show clampI 0 9999 (A (52 + q.toNat) + nmA A q.toNat l p 5 * A (52 + q.toNat) / 50) = r100 by unfold clampI; split <;> first | omega | (split <;> omega)] at hp; exact hp _ hF38 hS5))
    · exfalso; omega
theorem dX3_dues_0 : decode prog_5_method_2_code 0 = .ok (.aload_n 0, 1) := by decide +kernel
theorem dX3_dues_1 : decode prog_5_method_2_code 1 = .ok (.aload_n 0, 1) := by decide +kernel
theorem dX3_dues_2 : decode prog_5_method_2_code 2 = .ok (.getfield 18, 3) := by decide +kernel
theorem dX3_dues_5 : decode prog_5_method_2_code 5 = .ok (.getfield 22, 3) := by decide +kernel
theorem dX3_dues_8 : decode prog_5_method_2_code 8 = .ok (.iload_n 1, 1) := by decide +kernel
theorem dX3_dues_9 : decode prog_5_method_2_code 9 = .ok (.iconst 0, 1) := by decide +kernel
theorem dX3_dues_10 : decode prog_5_method_2_code 10 = .ok (.aload_n 0, 1) := by decide +kernel
theorem dX3_dues_11 : decode prog_5_method_2_code 11 = .ok (.getfield 18, 3) := by decide +kernel
theorem dX3_dues_14 : decode prog_5_method_2_code 14 = .ok (.getfield 28, 3) := by decide +kernel
theorem dX3_dues_17 : decode prog_5_method_2_code 17 = .ok (.getfield 32, 3) := by decide +kernel
theorem dX3_dues_20 : decode prog_5_method_2_code 20 = .ok (.invokevirtual 37, 3) := by decide +kernel
theorem dX3_dues_23 : decode prog_5_method_2_code 23 = .ok (.ireturn, 1) := by decide +kernel
theorem sp_X3_dues {q : Int} (cs : CS S R) (hc : ClW I 1 A) (hb : BA A) (hw : WTx S R I A tx) (hk : SK I) (hq : 0 ≤ q ∧ q < 8) (hn : 4 ≤ n) (hp : ∀ I', Fl I I' → SK I' → Post (some (.int (iI (duesP A tx (A 2) q.toNat 0 (A 9))))) S I' R) : Call n 0 0 mX3_dues [.ref (S.2.1 279), .int (iI q)] S I R Post := by
  obtain ⟨⟨⟨c0, c7, c8, c9, c10, c11⟩, cq⟩, ⟨⟨t1, t2, t3, t4, t5, t6, t7, t8, t9⟩, tq, th, tb, ts, td⟩, cb, cp⟩ := id hc
  dsimp only [Nat.reduceAdd] at c0 c7 c8 c9 c10 c11 cq t1 t2 t3 t4 t5 t6 t7 t8 t9 tq th tb ts td
  obtain ⟨⟨b0, b1, b2, b3, b4, bq, bl⟩, ⟨d1, d2, d3, d4, d5, d6, d7⟩, dq, dh, db, ds, dd, dp⟩ := id hb
  have b7 : 0 ≤ A 7 ∧ A 7 ≤ 9999 := b1
  have b8 : 0 ≤ A 8 ∧ A 8 ≤ 30870 := b2
  have b9 : 0 ≤ A 9 ∧ A 9 ≤ 9999 := b3
  have b10 : 0 ≤ A 10 ∧ A 10 ≤ 1 := b4
  have b11 : 0 ≤ A 11 ∧ A 11 ≤ 16 := by have h1 := lns_b (fun q => A (6 + 6 + 3 * q)) (A 0).toNat; have h2 : A 11 = _ := bl; omega
  rw [c9, t2] at hp
  refine Call.of (by decide +kernel) (Nat.le_of_ble_eq_true rfl) ?_
  show WP _ _ _ _ _ 0 [(0, _), (1, _)] [] 0 0 _ _ _
  refine x_aload_n dX3_dues_0 rfl ?_
  refine x_aload_n dX3_dues_1 rfl ?_
  refine x_getR (b := 1) dX3_dues_2 gf_RX3_18 (k_ob_279 cs) (fun _ _ => rfl) (k_r_279_0 cs) ?_
  refine x_getI dX3_dues_5 gf_RX3_22 (k_ob_1 cs) (fun _ _ => rfl) ?_
  refine x_iload_n dX3_dues_8 rfl ?_
  refine x_iconst dX3_dues_9 ?_
  refine x_aload_n dX3_dues_10 rfl ?_
  refine x_getR (b := 1) dX3_dues_11 gf_RX3_18 (k_ob_279 cs) (fun _ _ => rfl) (k_r_279_0 cs) ?_
  refine x_getR (b := 6) dX3_dues_14 gf_RX3_28 (k_ob_1 cs) (fun _ _ => rfl) (k_r_1_4 cs) ?_
  refine x_getI dX3_dues_17 gf_RX3_32 (k_ob_6 cs) (fun _ _ => rfl) ?_
  refine x_callV4 (mc1 := 0) (ms1 := 0) dX3_dues_20 cv_RX3_37 (ci := 3) (k_ob_279 cs) rfl (Nat.le_of_ble_eq_true rfl) (n1 := n - 1) (by omega) (by omega) (by omega) ?_
  refine sp_X3_duesBy cs (by assumption) hb (by assumption) (by assumption) (by omega) (by omega) (by omega) (by omega) (by omega) (fun I20 hF20 hS20 => ?_)
  exact x_ireturn dX3_dues_23 rfl (by omega) (by omega) (hp _ hF20 hS20)
theorem dX3_sells_0 : decode prog_5_method_5_code 0 = .ok (.aload_n 0, 1) := by decide +kernel
theorem dX3_sells_1 : decode prog_5_method_5_code 1 = .ok (.iload_n 1, 1) := by decide +kernel
theorem dX3_sells_2 : decode prog_5_method_5_code 2 = .ok (.iconst 0, 1) := by decide +kernel
theorem dX3_sells_3 : decode prog_5_method_5_code 3 = .ok (.iconst 0, 1) := by decide +kernel
theorem dX3_sells_4 : decode prog_5_method_5_code 4 = .ok (.invokevirtual 41, 3) := by decide +kernel
theorem dX3_sells_7 : decode prog_5_method_5_code 7 = .ok (.aload_n 0, 1) := by decide +kernel
theorem dX3_sells_8 : decode prog_5_method_5_code 8 = .ok (.getfield 9, 3) := by decide +kernel
theorem dX3_sells_11 : decode prog_5_method_5_code 11 = .ok (.iconst 5, 1) := by decide +kernel
theorem dX3_sells_12 : decode prog_5_method_5_code 12 = .ok (.iaload, 1) := by decide +kernel
theorem dX3_sells_13 : decode prog_5_method_5_code 13 = .ok (.bipush 30, 2) := by decide +kernel
theorem dX3_sells_15 : decode prog_5_method_5_code 15 = .ok (.isub, 1) := by decide +kernel
theorem dX3_sells_16 : decode prog_5_method_5_code 16 = .ok (.istore_n 2, 1) := by decide +kernel
theorem dX3_sells_17 : decode prog_5_method_5_code 17 = .ok (.aload_n 0, 1) := by decide +kernel
theorem dX3_sells_18 : decode prog_5_method_5_code 18 = .ok (.getfield 18, 3) := by decide +kernel
theorem dX3_sells_21 : decode prog_5_method_5_code 21 = .ok (.aload_n 0, 1) := by decide +kernel
theorem dX3_sells_22 : decode prog_5_method_5_code 22 = .ok (.getfield 18, 3) := by decide +kernel
theorem dX3_sells_25 : decode prog_5_method_5_code 25 = .ok (.getfield 22, 3) := by decide +kernel
theorem dX3_sells_28 : decode prog_5_method_5_code 28 = .ok (.invokevirtual 45, 3) := by decide +kernel
theorem dX3_sells_31 : decode prog_5_method_5_code 31 = .ok (.ifCond .eq 57, 3) := by decide +kernel
theorem dX3_sells_34 : decode prog_5_method_5_code 34 = .ok (.aload_n 0, 1) := by decide +kernel
theorem dX3_sells_35 : decode prog_5_method_5_code 35 = .ok (.getfield 18, 3) := by decide +kernel
theorem dX3_sells_38 : decode prog_5_method_5_code 38 = .ok (.getfield 49, 3) := by decide +kernel
theorem dX3_sells_41 : decode prog_5_method_5_code 41 = .ok (.aload_n 0, 1) := by decide +kernel
theorem dX3_sells_42 : decode prog_5_method_5_code 42 = .ok (.getfield 18, 3) := by decide +kernel
theorem dX3_sells_45 : decode prog_5_method_5_code 45 = .ok (.getfield 22, 3) := by decide +kernel
theorem dX3_sells_48 : decode prog_5_method_5_code 48 = .ok (.aaload, 1) := by decide +kernel
theorem dX3_sells_49 : decode prog_5_method_5_code 49 = .ok (.invokevirtual 91, 3) := by decide +kernel
theorem dX3_sells_52 : decode prog_5_method_5_code 52 = .ok (.ifCond .eq 36, 3) := by decide +kernel
theorem dX3_sells_55 : decode prog_5_method_5_code 55 = .ok (.aload_n 0, 1) := by decide +kernel
theorem dX3_sells_56 : decode prog_5_method_5_code 56 = .ok (.getfield 18, 3) := by decide +kernel
theorem dX3_sells_59 : decode prog_5_method_5_code 59 = .ok (.getfield 49, 3) := by decide +kernel
theorem dX3_sells_62 : decode prog_5_method_5_code 62 = .ok (.aload_n 0, 1) := by decide +kernel
theorem dX3_sells_63 : decode prog_5_method_5_code 63 = .ok (.getfield 18, 3) := by decide +kernel
theorem dX3_sells_66 : decode prog_5_method_5_code 66 = .ok (.getfield 22, 3) := by decide +kernel
theorem dX3_sells_69 : decode prog_5_method_5_code 69 = .ok (.aaload, 1) := by decide +kernel
theorem dX3_sells_70 : decode prog_5_method_5_code 70 = .ok (.astore_n 3, 1) := by decide +kernel
theorem dX3_sells_71 : decode prog_5_method_5_code 71 = .ok (.aload_n 0, 1) := by decide +kernel
theorem dX3_sells_72 : decode prog_5_method_5_code 72 = .ok (.aload_n 3, 1) := by decide +kernel
theorem dX3_sells_73 : decode prog_5_method_5_code 73 = .ok (.getfield 59, 3) := by decide +kernel
theorem dX3_sells_76 : decode prog_5_method_5_code 76 = .ok (.aload_n 3, 1) := by decide +kernel
theorem dX3_sells_77 : decode prog_5_method_5_code 77 = .ok (.getfield 94, 3) := by decide +kernel
theorem dX3_sells_80 : decode prog_5_method_5_code 80 = .ok (.aload_n 3, 1) := by decide +kernel
theorem dX3_sells_81 : decode prog_5_method_5_code 81 = .ok (.getfield 97, 3) := by decide +kernel
theorem dX3_sells_84 : decode prog_5_method_5_code 84 = .ok (.invokevirtual 68, 3) := by decide +kernel
theorem dX3_sells_87 : decode prog_5_method_5_code 87 = .ok (.istore_n 2, 1) := by decide +kernel
theorem dX3_sells_88 : decode prog_5_method_5_code 88 = .ok (.bipush (-99), 2) := by decide +kernel
theorem dX3_sells_90 : decode prog_5_method_5_code 90 = .ok (.bipush 99, 2) := by decide +kernel
theorem dX3_sells_92 : decode prog_5_method_5_code 92 = .ok (.iload_n 2, 1) := by decide +kernel
theorem dX3_sells_93 : decode prog_5_method_5_code 93 = .ok (.invokestatic 72, 3) := by decide +kernel
theorem dX3_sells_96 : decode prog_5_method_5_code 96 = .ok (.invokestatic 78, 3) := by decide +kernel
theorem dX3_sells_99 : decode prog_5_method_5_code 99 = .ok (.ireturn, 1) := by decide +kernel
theorem sp_X3_sells {q : Int} (cs : CS S R) (hc : ClW I 1 A) (hb : BA A) (hw : WTx S R I A tx) (hk : SK I) (hq : 0 ≤ q ∧ q < 8) (hn : 3 ≤ n) (hp : ∀ I', Fl I I' → SK I' → Post (some (.int (iI (sellsP A tx q.toNat)))) S I' R) : Call n 0 0 mX3_sells [.ref (S.2.1 279), .int (iI q)] S I R Post := by
  obtain ⟨⟨⟨c0, c7, c8, c9, c10, c11⟩, cq⟩, ⟨⟨t1, t2, t3, t4, t5, t6, t7, t8, t9⟩, tq, th, tb, ts, td⟩, cb, cp⟩ := id hc
  dsimp only [Nat.reduceAdd] at c0 c7 c8 c9 c10 c11 cq t1 t2 t3 t4 t5 t6 t7 t8 t9 tq th tb ts td
  obtain ⟨⟨b0, b1, b2, b3, b4, bq, bl⟩, ⟨d1, d2, d3, d4, d5, d6, d7⟩, dq, dh, db, ds, dd, dp⟩ := id hb
  have b7 : 0 ≤ A 7 ∧ A 7 ≤ 9999 := b1
  have b8 : 0 ≤ A 8 ∧ A 8 ≤ 30870 := b2
  have b9 : 0 ≤ A 9 ∧ A 9 ≤ 9999 := b3
  have b10 : 0 ≤ A 10 ∧ A 10 ≤ 1 := b4
  have b11 : 0 ≤ A 11 ∧ A 11 ≤ 16 := by have h1 := lns_b (fun q => A (6 + 6 + 3 * q)) (A 0).toNat; have h2 : A 11 = _ := bl; omega
  have w1 := dq q.toNat (by omega)
  have w4 := bq q.toNat (by omega)
  rw [show 6 + 6 + 3 * q.toNat = 12 + 3 * q.toNat by omega, show 6 + 7 + 3 * q.toNat = 13 + 3 * q.toNat by omega, show 6 + 8 + 3 * q.toNat = 14 + 3 * q.toNat by omega, show 6 + 1 = 7 by rfl] at w4
  have hh := held_b (l := 0) (p := 0) hb (show q.toNat < 8 by omega) (by omega)
  have hnb := nmA_b (l := 0) (p := 0) hb (show q.toNat < 8 by omega) (by omega) (by omega)
  refine Call.of (by decide +kernel) (Nat.le_of_ble_eq_true rfl) ?_
  show WP _ _ _ _ _ 0 [(0, _), (1, _)] [] 0 0 _ _ _
  by_cases hv : 0 ≤ A 2 ∧ A 2 < A 1
  · obtain ⟨id, g1, ⟨x0, x1, x2, x3, x4, x5, x6, x7, ⟨x8, x9, x10, x11, x12⟩, x13, x14⟩, ⟨⟨v1, v2⟩, ⟨v3, v4⟩⟩⟩ := hw (A 2).toNat (by omega)
    refine x_aload_n dX3_sells_0 rfl ?_
    refine x_iload_n dX3_sells_1 rfl ?_
    refine x_iconst dX3_sells_2 ?_
    refine x_iconst dX3_sells_3 ?_
    refine x_callV3 (mc1 := 0) (ms1 := 0) dX3_sells_4 cv_RX3_41 (ci := 3) (k_ob_279 cs) rfl (Nat.le_of_ble_eq_true rfl) (n1 := n - 1) (by omega) (by omega) (by omega) ?_
    refine sp_X3_nameAll cs hc hb (by omega) (by omega) (fun I4 hk4 ho4 => ?_)
    have hF28 : Fl I I4 := fun c h1 h2 => ho4 c h1
    have hF49 := hF28
    have e9 := ho4 id (by omega)
    have hS4 : SK I4 := by intro k hk2; rw [ho4 281 (by omega)]; exact hk k hk2
    refine x_aload_n dX3_sells_7 rfl ?_
    refine x_getR (b := 280) dX3_sells_8 gf_RX3_9 (k_ob_279 cs) (fun _ _ => rfl) (k_r_279_1 cs) ?_
    refine x_iconst dX3_sells_11 ?_
    refine x_iaload dX3_sells_12 (k_ar_280 cs) (by omega) (by omega) ?_
    rw [show I4 280 (Int.toNat 5) = nmA A q.toNat 0 0 5 from hk4 5 (by omega)]
    refine x_bipush dX3_sells_13 (by decide) ?_
    refine x_isub dX3_sells_15 ?_
    refine x_istore_n (lv2 := [(2, _), (0, _), (1, _)]) dX3_sells_16 (by decide) rfl ?_
    refine x_aload_n dX3_sells_17 rfl ?_
    refine x_getR (b := 1) dX3_sells_18 gf_RX3_18 (k_ob_279 cs) (fun _ _ => rfl) (k_r_279_0 cs) ?_
    refine x_aload_n dX3_sells_21 rfl ?_
    refine x_getR (b := 1) dX3_sells_22 gf_RX3_18 (k_ob_279 cs) (fun _ _ => rfl) (k_r_279_0 cs) ?_
    refine x_getIv (z := A 2) dX3_sells_25 gf_RX3_22 (k_ob_1 cs) (fun _ _ => rfl) (by rw [ho4 1 (by omega)]; exact t2.symm) ?_
    refine x_callV1 (mc1 := 0) (ms1 := 0) dX3_sells_28 cv_RX3_45 (ci := 10) (k_ob_1 cs) rfl (Nat.le_of_ble_eq_true rfl) (n1 := n - 1) (by omega) (by omega) (by omega) ?_
    refine sp_X10_hasText cs (Fl.W hF28 hc) hb (Fl.X hF28 hw) (by omega) (fun r28 hr28 => ?_)
    refine x_if_eq 88 dX3_sells_31 (by decide) (by omega) (fun w31 => ?_) (fun w31 => ?_)
    · refine x_bipush dX3_sells_88 (by decide) ?_
      refine x_bipush dX3_sells_90 (by decide) ?_
      refine x_iload_n dX3_sells_92 rfl ?_
      refine x_mmin dX3_sells_93 cv_RX3_72 (by omega) (Nat.le_of_ble_eq_true rfl) (by omega) (by omega) (by omega) (fun r93 hr93 => ?_)
      refine x_mmax dX3_sells_96 cv_RX3_78 (by omega) (Nat.le_of_ble_eq_true rfl) (by omega) (by omega) (by omega) (fun r96 hr96 => ?_)
      exact x_ireturn dX3_sells_99 rfl (by omega) (by omega) (by first | (exfalso; omega) | (rw [hd, show clampI (-99) 99 (evP (nmA A q.toNat 0 0) A (fun i => tx (A 2).toNat (106 + i)) (tx (A 2).toNat 3).toNat K) = r96 by unfold clampI; split <;> first | omega | (split <;> omega)] at hp; exact hp _ hF84 hS84) | (rw [show sellsP A tx q.toNat = clampI (-99) 99 (nmA A q.toNat 0 0 5 - 30) from congrArg _ (if_neg (by omega)), show clampI (-99) 99 (nmA A q.toNat 0 0 5 - 30) = r96 by unfold clampI; split <;> first | omega | (split <;> omega)] at hp; exact hp _ hF28 hS4))
    · refine x_aload_n dX3_sells_34 rfl ?_
      refine x_getR (b := 1) dX3_sells_35 gf_RX3_18 (k_ob_279 cs) (fun _ _ => rfl) (k_r_279_0 cs) ?_
      refine x_getR (b := 12) dX3_sells_38 gf_RX3_49 (k_ob_1 cs) (fun _ _ => rfl) (k_r_1_7 cs) ?_
      refine x_aload_n dX3_sells_41 rfl ?_
      refine x_getR (b := 1) dX3_sells_42 gf_RX3_18 (k_ob_279 cs) (fun _ _ => rfl) (k_r_279_0 cs) ?_
      refine x_getIv (z := A 2) dX3_sells_45 gf_RX3_22 (k_ob_1 cs) (fun _ _ => rfl) (by rw [ho4 1 (by omega)]; exact t2.symm) ?_
      refine x_aaload_t dX3_sells_48 (k_ar_12 cs) (by omega) (v := .ref (S.2.1 id)) (by rw [g1]; rfl) (by omega) ?_
      refine x_callV0 (mc1 := 0) (ms1 := 0) dX3_sells_49 cv_RX3_91 (ci := 8) x1 rfl (Nat.le_of_ble_eq_true rfl) (n1 := n - 1) (by omega) (by omega) (by omega) ?_
      refine sp_X8_hasSells x1 (by rw [e9, x11, x12]; omega) (fun r49 hr49 => ?_)
      rw [e9, x11, x12] at hr49
      refine x_if_eq 88 dX3_sells_52 (by decide) (by omega) (fun w52 => ?_) (fun w52 => ?_)
      · refine x_bipush dX3_sells_88 (by decide) ?_
        refine x_bipush dX3_sells_90 (by decide) ?_
        refine x_iload_n dX3_sells_92 rfl ?_
        refine x_mmin dX3_sells_93 cv_RX3_72 (by omega) (Nat.le_of_ble_eq_true rfl) (by omega) (by omega) (by omega) (fun r93 hr93 => ?_)
        refine x_mmax dX3_sells_96 cv_RX3_78 (by omega) (Nat.le_of_ble_eq_true rfl) (by omega) (by omega) (by omega) (fun r96 hr96 => ?_)
        exact x_ireturn dX3_sells_99 rfl (by omega) (by omega) (by first | (exfalso; omega) | (rw [hd, show clampI (-99) 99 (evP (nmA A q.toNat 0 0) A (fun i => tx (A 2).toNat (106 + i)) (tx (A 2).toNat 3).toNat K) = r96 by unfold clampI; split <;> first | omega | (split <;> omega)] at hp; exact hp _ hF84 hS84) | (rw [show sellsP A tx q.toNat = clampI (-99) 99 (nmA A q.toNat 0 0 5 - 30) from congrArg _ (if_neg (by omega)), show clampI (-99) 99 (nmA A q.toNat 0 0 5 - 30) = r96 by unfold clampI; split <;> first | omega | (split <;> omega)] at hp; exact hp _ hF28 hS4))
      · refine x_aload_n dX3_sells_55 rfl ?_
        refine x_getR (b := 1) dX3_sells_56 gf_RX3_18 (k_ob_279 cs) (fun _ _ => rfl) (k_r_279_0 cs) ?_
        refine x_getR (b := 12) dX3_sells_59 gf_RX3_49 (k_ob_1 cs) (fun _ _ => rfl) (k_r_1_7 cs) ?_
        refine x_aload_n dX3_sells_62 rfl ?_
        refine x_getR (b := 1) dX3_sells_63 gf_RX3_18 (k_ob_279 cs) (fun _ _ => rfl) (k_r_279_0 cs) ?_
        refine x_getIv (z := A 2) dX3_sells_66 gf_RX3_22 (k_ob_1 cs) (fun _ _ => rfl) (by rw [ho4 1 (by omega)]; exact t2.symm) ?_
        refine x_aaload_t dX3_sells_69 (k_ar_12 cs) (by omega) (v := .ref (S.2.1 id)) (by rw [g1]; rfl) (by omega) ?_
        refine x_astore_n (lv2 := [(3, _), (2, _), (0, _), (1, _)]) dX3_sells_70 (by decide) rfl ?_
        refine x_aload_n dX3_sells_71 rfl ?_
        refine x_aload_n dX3_sells_72 rfl ?_
        refine x_getR dX3_sells_73 gf_RX3_59 x1 (fun _ _ => rfl) (by first | assumption | exact x2) ?_
        refine x_aload_n dX3_sells_76 rfl ?_
        refine x_getI dX3_sells_77 gf_RX3_94 x1 (fun _ _ => rfl) ?_
        refine x_aload_n dX3_sells_80 rfl ?_
        refine x_getI dX3_sells_81 gf_RX3_97 x1 (fun _ _ => rfl) ?_
        refine x_callV3 (mc1 := 0) (ms1 := 0) dX3_sells_84 cv_RX3_68 (ci := 3) (k_ob_279 cs) rfl (Nat.le_of_ble_eq_true rfl) (n1 := n - 1) (by omega) (by omega) (by omega) ?_
        obtain ⟨K, hK⟩ : ∃ K : Nat, K = (tx (A 2).toNat 4 - tx (A 2).toNat 3).toNat := ⟨_, rfl⟩
        rw [e9, x11, x12, show tx (A 2).toNat 3 = (((tx (A 2).toNat 3).toNat : Nat) : Int) by omega, show tx (A 2).toNat 4 = (((tx (A 2).toNat 3).toNat + K : Nat) : Int) by omega]
        have v5 := v4 (by omega)
        refine sp_X3_valueOf cs (Fl.W hF28 hc) hb (N := (tx (A 2).toNat 5).toNat) (by exact x6) (by omega) (by omega) (by omega) (okC_congr (fun i h1 h2 => by rw [ho4 (id + 1) (by omega)]; exact (x13 i (by omega)).symm) (hK ▸ v5.2)) (fun k hk2 => by rw [hk4 k hk2]; exact hnb k) hS4 (by omega) (fun I84 hr84 ho84 => ?_)
        have ee : (rnF (I4 280) A (I4 (id + 1)) (tx (A 2).toNat 3).toNat (I4 281) K).1 0 = evP (nmA A q.toNat 0 0) A (fun i => tx (A 2).toNat (106 + i)) (tx (A 2).toNat 3).toNat K := ev_eq hk4 (fun i hi => by rw [ho4 (id + 1) (by omega)]; exact x13 i hi) (by omega) (by omega) (hK ▸ v5.2)
        have eb := rnF_b (nm := I4 280) (A := A) (cd := I4 (id + 1)) (f := (tx (A 2).toNat 3).toNat) hS4 K
        have eb0 := eb 0 (by omega)
        rw [ee] at eb0 ⊢
        have hd : sellsP A tx q.toNat = clampI (-99) 99 (evP (nmA A q.toNat 0 0) A (fun i => tx (A 2).toNat (106 + i)) (tx (A 2).toNat 3).toNat K) := by unfold sellsP; rw [if_pos ⟨hv.1, hv.2, by omega⟩, ← hK]
        have hF84 : Fl I I84 := fun c h1 h2 => (ho84 c h2).trans (ho4 c h1)
        have hS84 : SK I84 := by intro k hk2; rw [hr84]; exact eb k hk2
        refine x_istore_n (lv2 := [(2, _), (3, _), (0, _), (1, _)]) dX3_sells_87 (by decide) rfl ?_
        refine x_bipush dX3_sells_88 (by decide) ?_
        refine x_bipush dX3_sells_90 (by decide) ?_
        refine x_iload_n dX3_sells_92 rfl ?_
        refine x_mmin dX3_sells_93 cv_RX3_72 (by omega) (Nat.le_of_ble_eq_true rfl) (by omega) (by omega) (by omega) (fun r93 hr93 => ?_)
        refine x_mmax dX3_sells_96 cv_RX3_78 (by omega) (Nat.le_of_ble_eq_true rfl) (by omega) (by omega) (by omega) (fun r96 hr96 => ?_)
        exact x_ireturn dX3_sells_99 rfl (by omega) (by omega) (by first | (exfalso; omega) | (rw [hd, show clampI (-99) 99 (evP (nmA A q.toNat 0 0) A (fun i => tx (A 2).toNat (106 + i)) (tx (A 2).toNat 3).toNat K) = r96 by unfold clampI; split <;> first | omega | (split <;> omega)] at hp; exact hp _ hF84 hS84) | (rw [show sellsP A tx q.toNat = clampI (-99) 99 (nmA A q.toNat 0 0 5 - 30) from congrArg _ (if_neg (by omega)), show clampI (-99) 99 (nmA A q.toNat 0 0 5 - 30) = r96 by unfold clampI; split <;> first | omega | (split <;> omega)] at hp; exact hp _ hF28 hS4))
  · skip
    refine x_aload_n dX3_sells_0 rfl ?_
    refine x_iload_n dX3_sells_1 rfl ?_
    refine x_iconst dX3_sells_2 ?_
    refine x_iconst dX3_sells_3 ?_
    refine x_callV3 (mc1 := 0) (ms1 := 0) dX3_sells_4 cv_RX3_41 (ci := 3) (k_ob_279 cs) rfl (Nat.le_of_ble_eq_true rfl) (n1 := n - 1) (by omega) (by omega) (by omega) ?_
    refine sp_X3_nameAll cs hc hb (by omega) (by omega) (fun I4 hk4 ho4 => ?_)
    have hF28 : Fl I I4 := fun c h1 h2 => ho4 c h1
    have hS4 : SK I4 := by intro k hk2; rw [ho4 281 (by omega)]; exact hk k hk2
    refine x_aload_n dX3_sells_7 rfl ?_
    refine x_getR (b := 280) dX3_sells_8 gf_RX3_9 (k_ob_279 cs) (fun _ _ => rfl) (k_r_279_1 cs) ?_
    refine x_iconst dX3_sells_11 ?_
    refine x_iaload dX3_sells_12 (k_ar_280 cs) (by omega) (by omega) ?_
    rw [show I4 280 (Int.toNat 5) = nmA A q.toNat 0 0 5 from hk4 5 (by omega)]
    refine x_bipush dX3_sells_13 (by decide) ?_
    refine x_isub dX3_sells_15 ?_
    refine x_istore_n (lv2 := [(2, _), (0, _), (1, _)]) dX3_sells_16 (by decide) rfl ?_
    refine x_aload_n dX3_sells_17 rfl ?_
    refine x_getR (b := 1) dX3_sells_18 gf_RX3_18 (k_ob_279 cs) (fun _ _ => rfl) (k_r_279_0 cs) ?_
    refine x_aload_n dX3_sells_21 rfl ?_
    refine x_getR (b := 1) dX3_sells_22 gf_RX3_18 (k_ob_279 cs) (fun _ _ => rfl) (k_r_279_0 cs) ?_
    refine x_getIv (z := A 2) dX3_sells_25 gf_RX3_22 (k_ob_1 cs) (fun _ _ => rfl) (by rw [ho4 1 (by omega)]; exact t2.symm) ?_
    refine x_callV1 (mc1 := 0) (ms1 := 0) dX3_sells_28 cv_RX3_45 (ci := 10) (k_ob_1 cs) rfl (Nat.le_of_ble_eq_true rfl) (n1 := n - 1) (by omega) (by omega) (by omega) ?_
    refine sp_X10_hasText cs (Fl.W hF28 hc) hb (Fl.X hF28 hw) (by omega) (fun r28 hr28 => ?_)
    refine x_if_eq 88 dX3_sells_31 (by decide) (by omega) (fun w31 => ?_) (fun w31 => ?_)
    · refine x_bipush dX3_sells_88 (by decide) ?_
      refine x_bipush dX3_sells_90 (by decide) ?_
      refine x_iload_n dX3_sells_92 rfl ?_
      refine x_mmin dX3_sells_93 cv_RX3_72 (by omega) (Nat.le_of_ble_eq_true rfl) (by omega) (by omega) (by omega) (fun r93 hr93 => ?_)
      refine x_mmax dX3_sells_96 cv_RX3_78 (by omega) (Nat.le_of_ble_eq_true rfl) (by omega) (by omega) (by omega) (fun r96 hr96 => ?_)
      exact x_ireturn dX3_sells_99 rfl (by omega) (by omega) (by first | (exfalso; omega) | (rw [show sellsP A tx q.toNat = clampI (-99) 99 (nmA A q.toNat 0 0 5 - 30) from congrArg _ (if_neg (by omega)), show clampI (-99) 99 (nmA A q.toNat 0 0 5 - 30) = r96 by unfold clampI; split <;> first | omega | (split <;> omega)] at hp; exact hp _ hF28 hS4))
    · exfalso; omega
end Laws4
