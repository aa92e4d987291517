section Ref9
variable {n mc ms : Nat} {M : Md} {pc : Nat} {lv : List (Nat × Value)} {st : List Value} {k j : Nat} {Post : PT} {S : Sh} {I : CI} {R : CR} {A : Nat → Int} {tx : Nat → Nat → Int}
/-- what the laws need of the row -/
def BN (A : Nat → Int) : Prop := (0 ≤ A 0 ∧ A 0 ≤ 8) ∧ (0 ≤ A 1 ∧ A 1 ≤ 4) ∧ (-1 ≤ A 2 ∧ A 2 < A 1) ∧ (0 ≤ A 7 ∧ A 7 ≤ 9999) ∧ (0 ≤ A 8 ∧ A 8 ≤ 30870) ∧ (0 ≤ A 9 ∧ A 9 ≤ 9999) ∧ (0 ≤ A 10 ∧ A 10 ≤ 1) ∧ ∀ q : Nat, q < 8 → (0 ≤ A (12 + 3 * q) ∧ A (12 + 3 * q) ≤ 3) ∧ (0 ≤ A (13 + 3 * q) ∧ A (13 + 3 * q) ≤ A 7) ∧ (0 ≤ A (14 + 3 * q) ∧ A (14 + 3 * q) ≤ 9) ∧ (0 ≤ A (36 + 2 * q) ∧ A (36 + 2 * q) ≤ 5) ∧ (0 ≤ A (37 + 2 * q) ∧ A (37 + 2 * q) ≤ 5) ∧ (0 ≤ A (52 + q) ∧ A (52 + q) ≤ 99)
theorem BA_bn (hb : BA A) : BN A := by
  refine ⟨hb.1.1, hb.2.1.1, hb.2.1.2.1, hb.1.2.1, hb.1.2.2.1, hb.1.2.2.2.1, hb.1.2.2.2.2.1, fun q hq => ?_⟩
  have h1 := hb.1.2.2.2.2.2.1 q hq
  rw [show 6 + 6 + 3 * q = 12 + 3 * q by omega, show 6 + 7 + 3 * q = 13 + 3 * q by omega, show 6 + 8 + 3 * q = 14 + 3 * q by omega] at h1
  have h2 := hb.2.2.1 q hq
  exact ⟨h1.1, h1.2.1, h1.2.2, h2.1, h2.2.1, h2.2.2.1⟩
/-- the texts in the reference's row X -/
def srt (w : Int) : Int := if w = 136 then 0 else if w = 137 then 1 else if w = 138 then 2 else if w = 140 then 3 else if w = 141 then 4 else if w = 142 then 5 else 6
def RTt (X : Nat → Int) (o : Nat) (x : Nat → Int) : Prop := ((X o = x 0 ∧ 0 ≤ x 0 ∧ x 0 ≤ 24) ∧ (∀ k : Nat, (k : Int) < x 0 → X (o + 1 + 4 * k) = srt (x (6 + 4 * k)) ∧ (x (6 + 4 * k) = 136 ∨ x (6 + 4 * k) = 137 ∨ x (6 + 4 * k) = 138 ∨ x (6 + 4 * k) = 140 ∨ x (6 + 4 * k) = 141 ∨ x (6 + 4 * k) = 142 ∨ x (6 + 4 * k) = 128) ∧ (138 ≤ x (6 + 4 * k) ∨ x (6 + 4 * k) = 128 → X (o + 2 + 4 * k) = x (7 + 4 * k)) ∧ (x (6 + 4 * k) = 138 → X (o + 3 + 4 * k) = x (8 + 4 * k) ∧ X (o + 4 + 4 * k) = x (9 + 4 * k)))) ∧ LawR X o x 0 (x 1) (x 2) 7 ∧ LawR X o x 1 (x 3) (x 4) 6
def RTx (X A : Nat → Int) (tx : Nat → Nat → Int) : Prop := ∀ t : Nat, (t : Int) < A 1 → RTt X (705 * t) (tx t)
theorem srt_b (w : Int) : 0 ≤ srt w ∧ srt w ≤ 6 := by
  unfold srt
  repeat' split
  all_goals omega
theorem nmA_bn {q : Nat} {l p : Int} (hN : BN A) (hq : q < 8) (hl : 0 ≤ l ∧ l ≤ 60) (hp : -100000 ≤ p ∧ p ≤ 100000) : ∀ k, k < 8 → -100000 ≤ nmA A q l p k ∧ nmA A q l p k ≤ 100000 := by
  intro k hk
  obtain ⟨b0, b1, b2, b7, b8, b9, b10, bq⟩ := hN
  have hq1 := bq q hq
  have hc := cnt1_b (fun i => A (12 + 3 * i)) (A 0).toNat
  unfold nmA
  repeat' split
  all_goals omega
theorem held_bn {q : Nat} {l p : Int} (hN : BN A) (hq : q < 8) (hl : 0 ≤ l ∧ l ≤ 60) : 0 ≤ nmA A q l p 5 ∧ nmA A q l p 5 ≤ 10059 ∧ 0 ≤ nmA A q l p 5 * A (52 + q) ∧ nmA A q l p 5 * A (52 + q) ≤ 995841 := by
  obtain ⟨b0, b1, b2, b7, b8, b9, b10, bq⟩ := hN
  have hq1 := bq q hq
  have h1 : 0 ≤ nmA A q l p 5 ∧ nmA A q l p 5 ≤ 10059 := by show 0 ≤ (if A (12 + 3 * q) = 1 then A 7 - A (13 + 3 * q) + l else 0) ∧ (if A (12 + 3 * q) = 1 then A 7 - A (13 + 3 * q) + l else 0) ≤ 10059; split <;> omega
  have h2 : 0 ≤ nmA A q l p 5 * A (52 + q) := Int.mul_nonneg h1.1 hq1.2.2.2.2.2.1
  have h3 : nmA A q l p 5 * A (52 + q) ≤ 10059 * 99 := Int.mul_le_mul h1.2 hq1.2.2.2.2.2.2 hq1.2.2.2.2.2.1 (by omega)
  omega
/-- the laws' own cells of the reference alone are other -/
def FD (I I' : CI) : Prop := ∀ c, c ≠ 312 → c ≠ 313 → c ≠ 314 → I' c = I c
theorem FD.rf {I : CI} : FD I I := fun _ _ _ _ => rfl
theorem FD.tr {I I' I'' : CI} (h : FD I I') (h2 : FD I' I'') : FD I I'' := fun c h1 h3 h4 => (h2 c h1 h3 h4).trans (h c h1 h3 h4)
theorem Fe.d {I I' : CI} (h : Fe I I') : FD I I' := fun c _ h1 h2 => h c h1 h2
theorem dX12_name_0 : decode prog_14_method_71_code 0 = .ok (.aload_n 0, 1) := by decide +kernel
theorem dX12_name_1 : decode prog_14_method_71_code 1 = .ok (.getfield 32, 3) := by decide +kernel
theorem dX12_name_4 : decode prog_14_method_71_code 4 = .ok (.iconst 0, 1) := by decide +kernel
theorem dX12_name_5 : decode prog_14_method_71_code 5 = .ok (.aload_n 0, 1) := by decide +kernel
theorem dX12_name_6 : decode prog_14_method_71_code 6 = .ok (.getfield 7, 3) := by decide +kernel
theorem dX12_name_9 : decode prog_14_method_71_code 9 = .ok (.bipush 7, 2) := by decide +kernel
theorem dX12_name_11 : decode prog_14_method_71_code 11 = .ok (.iaload, 1) := by decide +kernel
theorem dX12_name_12 : decode prog_14_method_71_code 12 = .ok (.iload_n 2, 1) := by decide +kernel
theorem dX12_name_13 : decode prog_14_method_71_code 13 = .ok (.iadd, 1) := by decide +kernel
theorem dX12_name_14 : decode prog_14_method_71_code 14 = .ok (.iastore, 1) := by decide +kernel
theorem dX12_name_15 : decode prog_14_method_71_code 15 = .ok (.aload_n 0, 1) := by decide +kernel
theorem dX12_name_16 : decode prog_14_method_71_code 16 = .ok (.getfield 32, 3) := by decide +kernel
theorem dX12_name_19 : decode prog_14_method_71_code 19 = .ok (.iconst 1, 1) := by decide +kernel
theorem dX12_name_20 : decode prog_14_method_71_code 20 = .ok (.aload_n 0, 1) := by decide +kernel
theorem dX12_name_21 : decode prog_14_method_71_code 21 = .ok (.getfield 7, 3) := by decide +kernel
theorem dX12_name_24 : decode prog_14_method_71_code 24 = .ok (.bipush 10, 2) := by decide +kernel
theorem dX12_name_26 : decode prog_14_method_71_code 26 = .ok (.iaload, 1) := by decide +kernel
theorem dX12_name_27 : decode prog_14_method_71_code 27 = .ok (.iastore, 1) := by decide +kernel
theorem dX12_name_28 : decode prog_14_method_71_code 28 = .ok (.aload_n 0, 1) := by decide +kernel
theorem dX12_name_29 : decode prog_14_method_71_code 29 = .ok (.getfield 32, 3) := by decide +kernel
theorem dX12_name_32 : decode prog_14_method_71_code 32 = .ok (.iconst 2, 1) := by decide +kernel
theorem dX12_name_33 : decode prog_14_method_71_code 33 = .ok (.iload_n 1, 1) := by decide +kernel
theorem dX12_name_34 : decode prog_14_method_71_code 34 = .ok (.iastore, 1) := by decide +kernel
theorem dX12_name_35 : decode prog_14_method_71_code 35 = .ok (.aload_n 0, 1) := by decide +kernel
theorem dX12_name_36 : decode prog_14_method_71_code 36 = .ok (.getfield 32, 3) := by decide +kernel
theorem dX12_name_39 : decode prog_14_method_71_code 39 = .ok (.iconst 3, 1) := by decide +kernel
theorem dX12_name_40 : decode prog_14_method_71_code 40 = .ok (.aload_n 0, 1) := by decide +kernel
theorem dX12_name_41 : decode prog_14_method_71_code 41 = .ok (.getfield 7, 3) := by decide +kernel
theorem dX12_name_44 : decode prog_14_method_71_code 44 = .ok (.bipush 52, 2) := by decide +kernel
theorem dX12_name_46 : decode prog_14_method_71_code 46 = .ok (.iload_n 1, 1) := by decide +kernel
theorem dX12_name_47 : decode prog_14_method_71_code 47 = .ok (.iadd, 1) := by decide +kernel
theorem dX12_name_48 : decode prog_14_method_71_code 48 = .ok (.iaload, 1) := by decide +kernel
theorem dX12_name_49 : decode prog_14_method_71_code 49 = .ok (.iastore, 1) := by decide +kernel
theorem dX12_name_50 : decode prog_14_method_71_code 50 = .ok (.aload_n 0, 1) := by decide +kernel
theorem dX12_name_51 : decode prog_14_method_71_code 51 = .ok (.getfield 32, 3) := by decide +kernel
theorem dX12_name_54 : decode prog_14_method_71_code 54 = .ok (.iconst 4, 1) := by decide +kernel
theorem dX12_name_55 : decode prog_14_method_71_code 55 = .ok (.aload_n 0, 1) := by decide +kernel
theorem dX12_name_56 : decode prog_14_method_71_code 56 = .ok (.iload_n 1, 1) := by decide +kernel
theorem dX12_name_57 : decode prog_14_method_71_code 57 = .ok (.invokevirtual 281, 3) := by decide +kernel
theorem dX12_name_60 : decode prog_14_method_71_code 60 = .ok (.iastore, 1) := by decide +kernel
theorem dX12_name_61 : decode prog_14_method_71_code 61 = .ok (.aload_n 0, 1) := by decide +kernel
theorem dX12_name_62 : decode prog_14_method_71_code 62 = .ok (.getfield 32, 3) := by decide +kernel
theorem dX12_name_65 : decode prog_14_method_71_code 65 = .ok (.iconst 5, 1) := by decide +kernel
theorem dX12_name_66 : decode prog_14_method_71_code 66 = .ok (.aload_n 0, 1) := by decide +kernel
theorem dX12_name_67 : decode prog_14_method_71_code 67 = .ok (.iload_n 1, 1) := by decide +kernel
theorem dX12_name_68 : decode prog_14_method_71_code 68 = .ok (.invokevirtual 89, 3) := by decide +kernel
theorem dX12_name_71 : decode prog_14_method_71_code 71 = .ok (.ifCond .eq 13, 3) := by decide +kernel
theorem dX12_name_74 : decode prog_14_method_71_code 74 = .ok (.aload_n 0, 1) := by decide +kernel
theorem dX12_name_75 : decode prog_14_method_71_code 75 = .ok (.iload_n 1, 1) := by decide +kernel
theorem dX12_name_76 : decode prog_14_method_71_code 76 = .ok (.invokevirtual 310, 3) := by decide +kernel
theorem dX12_name_79 : decode prog_14_method_71_code 79 = .ok (.iload_n 2, 1) := by decide +kernel
theorem dX12_name_80 : decode prog_14_method_71_code 80 = .ok (.iadd, 1) := by decide +kernel
theorem dX12_name_81 : decode prog_14_method_71_code 81 = .ok (.goto 4, 3) := by decide +kernel
theorem dX12_name_84 : decode prog_14_method_71_code 84 = .ok (.iconst 0, 1) := by decide +kernel
theorem dX12_name_85 : decode prog_14_method_71_code 85 = .ok (.iastore, 1) := by decide +kernel
theorem dX12_name_86 : decode prog_14_method_71_code 86 = .ok (.return_, 1) := by decide +kernel
theorem sp_X12_name {q : Nat} {l p : Int} (cs : CS S R) (hA : I 307 = A) (hN : BN A) (hq : q < 8) (hn : 3 ≤ n) (hp : ∀ I', (∀ k, k < 6 → I' 312 k = nmA A q l p k) → (∀ c, c ≠ 312 → I' c = I c) → Post none S I' R) : Call n 0 0 mX12_name [.ref (S.2.1 306), .int (iI (q : Int)), .int (iI l)] S I R Post := by
  obtain ⟨b0, b1, b2, b7, b8, b9, b10, bq⟩ := id hN
  have bqq := bq q hq
  refine Call.of (by decide +kernel) (Nat.le_of_ble_eq_true rfl) ?_
  show WP _ _ _ _ _ 0 [(0, _), (1, _), (2, _)] [] 0 0 _ _ _
  refine x_aload_n dX12_name_0 rfl ?_
  refine x_getR (b := 312) dX12_name_1 gf_RX12_32 (k_ob_306 cs) (fun _ _ => rfl) (k_r_306_20 cs) ?_
  refine x_iconst dX12_name_4 ?_
  refine x_aload_n dX12_name_5 rfl ?_
  refine x_getR (b := 307) dX12_name_6 gf_RX12_7 (k_ob_306 cs) (fun _ _ => rfl) (k_r_306_0 cs) ?_
  refine x_bipush dX12_name_9 (by decide) ?_
  refine x_ald7 (kk := 7) (v := A 7) dX12_name_11 cs (by omega) (by omega) (by (repeat rw [uI_row (by omega)]); rw [hA]) ?_
  refine x_iload_n dX12_name_12 rfl ?_
  refine x_iadd dX12_name_13 ?_
  refine x_iastore dX12_name_14 (k_ar_312 cs) (by omega) (by omega) ?_
  refine x_aload_n dX12_name_15 rfl ?_
  refine x_getR (b := 312) dX12_name_16 gf_RX12_32 (k_ob_306 cs) (fun _ _ => rfl) (k_r_306_20 cs) ?_
  refine x_iconst dX12_name_19 ?_
  refine x_aload_n dX12_name_20 rfl ?_
  refine x_getR (b := 307) dX12_name_21 gf_RX12_7 (k_ob_306 cs) (fun _ _ => rfl) (k_r_306_0 cs) ?_
  refine x_bipush dX12_name_24 (by decide) ?_
  refine x_ald7 (kk := 10) (v := A 10) dX12_name_26 cs (by omega) (by omega) (by (repeat rw [uI_row (by omega)]); rw [hA]) ?_
  refine x_iastore dX12_name_27 (k_ar_312 cs) (by omega) (by omega) ?_
  refine x_aload_n dX12_name_28 rfl ?_
  refine x_getR (b := 312) dX12_name_29 gf_RX12_32 (k_ob_306 cs) (fun _ _ => rfl) (k_r_306_20 cs) ?_
  refine x_iconst dX12_name_32 ?_
  refine x_iload_n dX12_name_33 rfl ?_
  refine x_iastore dX12_name_34 (k_ar_312 cs) (by omega) (by omega) ?_
  refine x_aload_n dX12_name_35 rfl ?_
  refine x_getR (b := 312) dX12_name_36 gf_RX12_32 (k_ob_306 cs) (fun _ _ => rfl) (k_r_306_20 cs) ?_
  refine x_iconst dX12_name_39 ?_
  refine x_aload_n dX12_name_40 rfl ?_
  refine x_getR (b := 307) dX12_name_41 gf_RX12_7 (k_ob_306 cs) (fun _ _ => rfl) (k_r_306_0 cs) ?_
  refine x_bipush dX12_name_44 (by decide) ?_
  refine x_iload_n dX12_name_46 rfl ?_
  refine x_iadd dX12_name_47 ?_
  refine x_ald7 (kk := 52 + q) (v := A (52 + q)) dX12_name_48 cs (by omega) (by omega) (by (repeat rw [uI_row (by omega)]); rw [hA]) ?_
  refine x_iastore dX12_name_49 (k_ar_312 cs) (by omega) (by omega) ?_
  refine x_aload_n dX12_name_50 rfl ?_
  refine x_getR (b := 312) dX12_name_51 gf_RX12_32 (k_ob_306 cs) (fun _ _ => rfl) (k_r_306_20 cs) ?_
  refine x_iconst dX12_name_54 ?_
  refine x_aload_n dX12_name_55 rfl ?_
  refine x_iload_n dX12_name_56 rfl ?_
  refine x_callV1 (mc1 := 0) (ms1 := 0) dX12_name_57 cv_RX12_281 (ci := 12) (k_ob_306 cs) rfl (Nat.le_of_ble_eq_true rfl) (n1 := n - 1) (by omega) (by omega) (by omega) ?_
  refine sp_X12_heatOf (A := A) cs (by (repeat rw [uI_row (by omega)]); exact hA) (by omega) ?_
  refine x_iastore dX12_name_60 (k_ar_312 cs) (by omega) (by omega) ?_
  refine x_aload_n dX12_name_61 rfl ?_
  refine x_getR (b := 312) dX12_name_62 gf_RX12_32 (k_ob_306 cs) (fun _ _ => rfl) (k_r_306_20 cs) ?_
  refine x_iconst dX12_name_65 ?_
  refine x_aload_n dX12_name_66 rfl ?_
  refine x_iload_n dX12_name_67 rfl ?_
  refine x_callV1 (mc1 := 0) (ms1 := 0) dX12_name_68 cv_RX12_89 (ci := 12) (k_ob_306 cs) rfl (Nat.le_of_ble_eq_true rfl) (n1 := n - 1) (by omega) (by omega) (by omega) ?_
  refine sp_X12_isPawned (A := A) cs (by (repeat rw [uI_row (by omega)]); exact hA) (by omega) (by omega) (by omega) (fun r68 hr68 => ?_)
  refine x_if_eq 84 dX12_name_71 (by decide) (by omega) (fun w71 => ?_) (fun w71 => ?_)
  · refine x_iconst dX12_name_84 ?_
    refine x_iastore dX12_name_85 (k_ar_312 cs) (by omega) (by omega) ?_
    exact x_return dX12_name_86 rfl (by omega) (by omega) (by
    refine hp _ (fun k hk => ?_) (fun c hc => by (repeat rw [uI_row hc]))
    have e5 : nmA A q l p 5 = if A (12 + 3 * q) = 1 then A 7 - A (13 + 3 * q) + l else 0 := rfl
    have e0 : Int.toNat 0 = 0 := rfl
    have e1 : Int.toNat 1 = 1 := rfl
    have e2 : Int.toNat 2 = 2 := rfl
    have e3 : Int.toNat 3 = 3 := rfl
    have e4 : Int.toNat 4 = 4 := rfl
    have e6 : Int.toNat 5 = 5 := rfl
    rw [e0, e1, e2, e3, e4, e6]
    rcases (show k = 0 ∨ k = 1 ∨ k = 2 ∨ k = 3 ∨ k = 4 ∨ k = 5 by omega) with rfl | rfl | rfl | rfl | rfl | rfl
    · (repeat rw [uI_o (by omega)]); rw [uI_s]; rfl
    · (repeat rw [uI_o (by omega)]); rw [uI_s]; rfl
    · (repeat rw [uI_o (by omega)]); rw [uI_s]; rfl
    · (repeat rw [uI_o (by omega)]); rw [uI_s]; rfl
    · (repeat rw [uI_o (by omega)]); rw [uI_s]; rfl
    · rw [uI_s, e5]; first | rw [if_pos (by omega)] | rw [if_neg (by omega)])
  · refine x_aload_n dX12_name_74 rfl ?_
    refine x_iload_n dX12_name_75 rfl ?_
    refine x_callV1 (mc1 := 0) (ms1 := 0) dX12_name_76 cv_RX12_310 (ci := 12) (k_ob_306 cs) rfl (Nat.le_of_ble_eq_true rfl) (n1 := n - 1) (by omega) (by omega) (by omega) ?_
    refine sp_X12_daysOf (A := A) cs (by (repeat rw [uI_row (by omega)]); exact hA) (by omega) (by omega) (by omega) ?_
    rw [if_pos (by omega)]
    refine x_iload_n dX12_name_79 rfl ?_
    refine x_iadd dX12_name_80 ?_
    refine x_goto 85 dX12_name_81 (by decide) ?_
    refine x_iastore dX12_name_85 (k_ar_312 cs) (by omega) (by omega) ?_
    exact x_return dX12_name_86 rfl (by omega) (by omega) (by
    refine hp _ (fun k hk => ?_) (fun c hc => by (repeat rw [uI_row hc]))
    have e5 : nmA A q l p 5 = if A (12 + 3 * q) = 1 then A 7 - A (13 + 3 * q) + l else 0 := rfl
    have e0 : Int.toNat 0 = 0 := rfl
    have e1 : Int.toNat 1 = 1 := rfl
    have e2 : Int.toNat 2 = 2 := rfl
    have e3 : Int.toNat 3 = 3 := rfl
    have e4 : Int.toNat 4 = 4 := rfl
    have e6 : Int.toNat 5 = 5 := rfl
    rw [e0, e1, e2, e3, e4, e6]
    rcases (show k = 0 ∨ k = 1 ∨ k = 2 ∨ k = 3 ∨ k = 4 ∨ k = 5 by omega) with rfl | rfl | rfl | rfl | rfl | rfl
    · (repeat rw [uI_o (by omega)]); rw [uI_s]; rfl
    · (repeat rw [uI_o (by omega)]); rw [uI_s]; rfl
    · (repeat rw [uI_o (by omega)]); rw [uI_s]; rfl
    · (repeat rw [uI_o (by omega)]); rw [uI_s]; rfl
    · (repeat rw [uI_o (by omega)]); rw [uI_s]; rfl
    · rw [uI_s, e5]; first | rw [if_pos (by omega)] | rw [if_neg (by omega)])
theorem dX12_duesBy_0 : decode prog_14_method_72_code 0 = .ok (.aload_n 0, 1) := by decide +kernel
theorem dX12_duesBy_1 : decode prog_14_method_72_code 1 = .ok (.iload_n 2, 1) := by decide +kernel
theorem dX12_duesBy_2 : decode prog_14_method_72_code 2 = .ok (.iload_n 3, 1) := by decide +kernel
theorem dX12_duesBy_3 : decode prog_14_method_72_code 3 = .ok (.invokevirtual 313, 3) := by decide +kernel
theorem dX12_duesBy_6 : decode prog_14_method_72_code 6 = .ok (.aload_n 0, 1) := by decide +kernel
theorem dX12_duesBy_7 : decode prog_14_method_72_code 7 = .ok (.getfield 32, 3) := by decide +kernel
theorem dX12_duesBy_10 : decode prog_14_method_72_code 10 = .ok (.bipush 6, 2) := by decide +kernel
theorem dX12_duesBy_12 : decode prog_14_method_72_code 12 = .ok (.iload 4, 2) := by decide +kernel
theorem dX12_duesBy_14 : decode prog_14_method_72_code 14 = .ok (.iastore, 1) := by decide +kernel
theorem dX12_duesBy_15 : decode prog_14_method_72_code 15 = .ok (.aload_n 0, 1) := by decide +kernel
theorem dX12_duesBy_16 : decode prog_14_method_72_code 16 = .ok (.iload_n 1, 1) := by decide +kernel
theorem dX12_duesBy_17 : decode prog_14_method_72_code 17 = .ok (.iconst 0, 1) := by decide +kernel
theorem dX12_duesBy_18 : decode prog_14_method_72_code 18 = .ok (.aload_n 0, 1) := by decide +kernel
theorem dX12_duesBy_19 : decode prog_14_method_72_code 19 = .ok (.getfield 32, 3) := by decide +kernel
theorem dX12_duesBy_22 : decode prog_14_method_72_code 22 = .ok (.iconst 3, 1) := by decide +kernel
theorem dX12_duesBy_23 : decode prog_14_method_72_code 23 = .ok (.iaload, 1) := by decide +kernel
theorem dX12_duesBy_24 : decode prog_14_method_72_code 24 = .ok (.aload_n 0, 1) := by decide +kernel
theorem dX12_duesBy_25 : decode prog_14_method_72_code 25 = .ok (.getfield 32, 3) := by decide +kernel
theorem dX12_duesBy_28 : decode prog_14_method_72_code 28 = .ok (.iconst 5, 1) := by decide +kernel
theorem dX12_duesBy_29 : decode prog_14_method_72_code 29 = .ok (.iaload, 1) := by decide +kernel
theorem dX12_duesBy_30 : decode prog_14_method_72_code 30 = .ok (.aload_n 0, 1) := by decide +kernel
theorem dX12_duesBy_31 : decode prog_14_method_72_code 31 = .ok (.getfield 32, 3) := by decide +kernel
theorem dX12_duesBy_34 : decode prog_14_method_72_code 34 = .ok (.iconst 3, 1) := by decide +kernel
theorem dX12_duesBy_35 : decode prog_14_method_72_code 35 = .ok (.iaload, 1) := by decide +kernel
theorem dX12_duesBy_36 : decode prog_14_method_72_code 36 = .ok (.imul, 1) := by decide +kernel
theorem dX12_duesBy_37 : decode prog_14_method_72_code 37 = .ok (.bipush 50, 2) := by decide +kernel
theorem dX12_duesBy_39 : decode prog_14_method_72_code 39 = .ok (.idiv, 1) := by decide +kernel
theorem dX12_duesBy_40 : decode prog_14_method_72_code 40 = .ok (.iadd, 1) := by decide +kernel
theorem dX12_duesBy_41 : decode prog_14_method_72_code 41 = .ok (.i2l, 1) := by decide +kernel
theorem dX12_duesBy_42 : decode prog_14_method_72_code 42 = .ok (.iconst 0, 1) := by decide +kernel
theorem dX12_duesBy_43 : decode prog_14_method_72_code 43 = .ok (.sipush 9999, 3) := by decide +kernel
theorem dX12_duesBy_46 : decode prog_14_method_72_code 46 = .ok (.invokevirtual 316, 3) := by decide +kernel
theorem dX12_duesBy_49 : decode prog_14_method_72_code 49 = .ok (.ireturn, 1) := by decide +kernel
theorem sp_X12_duesBy {t l p : Int} {q : Nat} (cs : CS S R) (hA : I 307 = A) (hN : BN A) (hT : RTx (I 309) A tx) (ht : -1 ≤ t ∧ t < A 1) (hq : q < 8) (hl : 0 ≤ l ∧ l ≤ 60) (hpp : -100000 ≤ p ∧ p ≤ 100000) (hn : 4 ≤ n) (hp : ∀ I', FD I I' → Post (some (.int (iI (duesP A tx t q l p)))) S I' R) : Call n 0 0 mX12_duesBy [.ref (S.2.1 306), .int (iI t), .int (iI (q : Int)), .int (iI l), .int (iI p)] S I R Post := by
  obtain ⟨b0, b1, b2, b7, b8, b9, b10, bq⟩ := id hN
  have hh := held_bn (l := l) (p := p) hN hq hl
  have bqq := bq q hq
  refine Call.of (by decide +kernel) (Nat.le_of_ble_eq_true rfl) ?_
  show WP _ _ _ _ _ 0 [(0, _), (1, _), (2, _), (3, _), (4, _)] [] 0 0 _ _ _
  refine x_aload_n dX12_duesBy_0 rfl ?_
  refine x_iload_n dX12_duesBy_1 rfl ?_
  refine x_iload_n dX12_duesBy_2 rfl ?_
  refine x_callV2 (mc1 := 0) (ms1 := 0) dX12_duesBy_3 cv_RX12_313 (ci := 12) (k_ob_306 cs) rfl (Nat.le_of_ble_eq_true rfl) (n1 := n - 1) (by omega) (by omega) (by omega) ?_
  refine sp_X12_name (p := p) cs hA hN hq (by omega) (fun I3 h3 f3 => ?_)
  refine x_aload_n dX12_duesBy_6 rfl ?_
  refine x_getR (b := 312) dX12_duesBy_7 gf_RX12_32 (k_ob_306 cs) (fun _ _ => rfl) (k_r_306_20 cs) ?_
  refine x_bipush dX12_duesBy_10 (by decide) ?_
  refine x_iload dX12_duesBy_12 rfl ?_
  refine x_iastore dX12_duesBy_14 (k_ar_312 cs) (by omega) (by omega) ?_
  have hn6 : ∀ k, k < 8 → k ≠ 7 → uI I3 312 6 p 312 k = nmA A q l p k := by
    intro k h1 h2
    by_cases h6 : k = 6
    · rw [h6, uI_s]; rfl
    · rw [uI_o (Or.inr h6)]; exact h3 k (by omega)
  refine x_aload_n dX12_duesBy_15 rfl ?_
  refine x_iload_n dX12_duesBy_16 rfl ?_
  refine x_iconst dX12_duesBy_17 ?_
  refine x_aload_n dX12_duesBy_18 rfl ?_
  refine x_getR (b := 312) dX12_duesBy_19 gf_RX12_32 (k_ob_306 cs) (fun _ _ => rfl) (k_r_306_20 cs) ?_
  refine x_iconst dX12_duesBy_22 ?_
  refine x_iaload dX12_duesBy_23 (k_ar_312 cs) (by omega) (by omega) ?_
  rw [show uI I3 312 (Int.toNat 6) p 312 (Int.toNat 3) = A (52 + q) from hn6 3 (by omega) (by omega)]
  refine x_aload_n dX12_duesBy_24 rfl ?_
  refine x_getR (b := 312) dX12_duesBy_25 gf_RX12_32 (k_ob_306 cs) (fun _ _ => rfl) (k_r_306_20 cs) ?_
  refine x_iconst dX12_duesBy_28 ?_
  refine x_iaload dX12_duesBy_29 (k_ar_312 cs) (by omega) (by omega) ?_
  rw [show uI I3 312 (Int.toNat 6) p 312 (Int.toNat 5) = nmA A q l p 5 from hn6 5 (by omega) (by omega)]
  refine x_aload_n dX12_duesBy_30 rfl ?_
  refine x_getR (b := 312) dX12_duesBy_31 gf_RX12_32 (k_ob_306 cs) (fun _ _ => rfl) (k_r_306_20 cs) ?_
  refine x_iconst dX12_duesBy_34 ?_
  refine x_iaload dX12_duesBy_35 (k_ar_312 cs) (by omega) (by omega) ?_
  rw [show uI I3 312 (Int.toNat 6) p 312 (Int.toNat 3) = A (52 + q) from hn6 3 (by omega) (by omega)]
  refine x_imul dX12_duesBy_36 ?_
  refine x_bipush dX12_duesBy_37 (by decide) ?_
  refine x_idiv dX12_duesBy_39 (by omega) ?_
  refine x_iadd dX12_duesBy_40 ?_
  refine x_i2l dX12_duesBy_41 (by omega) ?_
  refine x_iconst dX12_duesBy_42 ?_
  refine x_sipush dX12_duesBy_43 (by decide) ?_
  refine x_callV5 (mc1 := 0) (ms1 := 0) dX12_duesBy_46 cv_RX12_316 (ci := 12) (k_ob_306 cs) rfl (Nat.le_of_ble_eq_true rfl) (n1 := n - 1) (by omega) (by omega) (by omega) ?_
  refine sp_X12_says (X := I 309) (nm := nmA A q l p) (x := tx t.toNat) (fr := tx t.toNat 1) (to := tx t.toNat 2) (bad := 7) cs (A := A) (by rw [uI_row (by omega), f3 307 (by omega)]; exact hA) (by omega) (fun q hq => (bq q hq).2.2.1) (by rw [uI_row (by omega), f3 309 (by omega)]) (by omega) (by omega) (fun h => ⟨(hT t.toNat (by omega)).1.1, fun k hk => by have h1 := ((hT t.toNat (by omega)).1.2 k hk).1; have h2 := srt_b (tx t.toNat (6 + 4 * k)); omega, (hT t.toNat (by omega)).2.1⟩) (fun k h1 h2 => hn6 k h1 h2) (nmA_bn hN hq hl hpp) (by omega) (by omega) (by omega) (by omega) (fun J46 hF46 => ?_)
  have hd : sayP (nmA A q l p) A (tx t.toNat) t (tx t.toNat 1) (tx t.toNat 2) (A (52 + q) + nmA A q l p 5 * A (52 + q) / 50) 0 9999 = duesP A tx t q l p := by
    unfold sayP duesP
    by_cases h : 0 ≤ t ∧ tx t.toNat 1 < tx t.toNat 2
    · rw [if_pos h, if_pos ⟨h.1, ht.2, h.2⟩]
    · rw [if_neg h, if_neg (fun h2 => h ⟨h2.1, h2.2.2⟩)]
  rw [hd]
  exact x_ireturn dX12_duesBy_49 rfl (by omega) (by omega) (hp _ (fun c h1 h2 h3 => by rw [hF46 c h2 h3, uI_row h1, f3 c h1]))
theorem dX12_duesOf_0 : decode prog_14_method_73_code 0 = .ok (.aload_n 0, 1) := by decide +kernel
theorem dX12_duesOf_1 : decode prog_14_method_73_code 1 = .ok (.aload_n 0, 1) := by decide +kernel
theorem dX12_duesOf_2 : decode prog_14_method_73_code 2 = .ok (.getfield 7, 3) := by decide +kernel
theorem dX12_duesOf_5 : decode prog_14_method_73_code 5 = .ok (.iconst 2, 1) := by decide +kernel
theorem dX12_duesOf_6 : decode prog_14_method_73_code 6 = .ok (.iaload, 1) := by decide +kernel
theorem dX12_duesOf_7 : decode prog_14_method_73_code 7 = .ok (.iload_n 1, 1) := by decide +kernel
theorem dX12_duesOf_8 : decode prog_14_method_73_code 8 = .ok (.iconst 0, 1) := by decide +kernel
theorem dX12_duesOf_9 : decode prog_14_method_73_code 9 = .ok (.aload_n 0, 1) := by decide +kernel
theorem dX12_duesOf_10 : decode prog_14_method_73_code 10 = .ok (.getfield 7, 3) := by decide +kernel
theorem dX12_duesOf_13 : decode prog_14_method_73_code 13 = .ok (.bipush 9, 2) := by decide +kernel
theorem dX12_duesOf_15 : decode prog_14_method_73_code 15 = .ok (.iaload, 1) := by decide +kernel
theorem dX12_duesOf_16 : decode prog_14_method_73_code 16 = .ok (.invokevirtual 320, 3) := by decide +kernel
theorem dX12_duesOf_19 : decode prog_14_method_73_code 19 = .ok (.ireturn, 1) := by decide +kernel
theorem sp_X12_duesOf {q : Nat} (cs : CS S R) (hA : I 307 = A) (hN : BN A) (hT : RTx (I 309) A tx) (hq : q < 8) (hn : 5 ≤ n) (hp : ∀ I', FD I I' → Post (some (.int (iI (duesP A tx (A 2) q 0 (A 9))))) S I' R) : Call n 0 0 mX12_duesOf [.ref (S.2.1 306), .int (iI (q : Int))] S I R Post := by
  obtain ⟨b0, b1, b2, b7, b8, b9, b10, bq⟩ := id hN

  refine Call.of (by decide +kernel) (Nat.le_of_ble_eq_true rfl) ?_
  show WP _ _ _ _ _ 0 [(0, _), (1, _)] [] 0 0 _ _ _
  refine x_aload_n dX12_duesOf_0 rfl ?_
  refine x_aload_n dX12_duesOf_1 rfl ?_
  refine x_getR (b := 307) dX12_duesOf_2 gf_RX12_7 (k_ob_306 cs) (fun _ _ => rfl) (k_r_306_0 cs) ?_
  refine x_iconst dX12_duesOf_5 ?_
  refine x_ald7 (kk := 2) (v := A 2) dX12_duesOf_6 cs (by omega) (by omega) (by rw [hA]; repeat (first | rfl | rw [upA_s] | rw [upA_o (by omega)])) ?_
  refine x_iload_n dX12_duesOf_7 rfl ?_
  refine x_iconst dX12_duesOf_8 ?_
  refine x_aload_n dX12_duesOf_9 rfl ?_
  refine x_getR (b := 307) dX12_duesOf_10 gf_RX12_7 (k_ob_306 cs) (fun _ _ => rfl) (k_r_306_0 cs) ?_
  refine x_bipush dX12_duesOf_13 (by decide) ?_
  refine x_ald7 (kk := 9) (v := A 9) dX12_duesOf_15 cs (by omega) (by omega) (by rw [hA]; repeat (first | rfl | rw [upA_s] | rw [upA_o (by omega)])) ?_
  refine x_callV4 (mc1 := 0) (ms1 := 0) dX12_duesOf_16 cv_RX12_320 (ci := 12) (k_ob_306 cs) rfl (Nat.le_of_ble_eq_true rfl) (n1 := n - 1) (by omega) (by omega) (by omega) ?_
  refine sp_X12_duesBy cs hA hN hT (by omega) hq (by omega) (by omega) (by omega) (fun J16 hF16 => ?_)
  exact x_ireturn dX12_duesOf_19 rfl (by omega) (by omega) (hp _ hF16)
theorem sp_X12_duesOf_z {z : Int} (cs : CS S R) (hA : I 307 = A) (hN : BN A) (hT : RTx (I 309) A tx) (hz : 0 ≤ z ∧ z < 8) (hn : 5 ≤ n) (hp : ∀ I', FD I I' → Post (some (.int (iI (duesP A tx (A 2) z.toNat 0 (A 9))))) S I' R) : Call n 0 0 mX12_duesOf [.ref (S.2.1 306), .int (iI z)] S I R Post := by
  rw [asN hz.1]; exact sp_X12_duesOf cs hA hN hT (by omega) hn hp
theorem bc_pwN : ∀ k : Nat, k ≤ 8 → (bcN (pwN A k) : Int) = cnt1 (fun i => A (12 + 3 * i)) k := by
  have h0 : ∀ x : Fin 256, ∀ k : Fin 8, x.val < 2 ^ k.val → bcN (x.val ||| 2 ^ k.val) = bcN x.val + 1 := by decide +kernel
  intro k
  induction k with
  | zero => intro _; show ((bcN 0 : Nat) : Int) = 0; rw [show bcN 0 = 0 by decide]; rfl
  | succ k ih =>
    intro hk
    have hi := ih (by omega)
    have hlt := pwN_lt (A := A) k
    have h256 : 2 ^ k ≤ 2 ^ 8 := Nat.pow_le_pow_right (by decide) (by omega)
    simp only [pwN, cnt1]
    by_cases h : A (12 + 3 * k) = 1
    · rw [if_pos h, if_pos h, h0 ⟨pwN A k, by omega⟩ ⟨k, by omega⟩ hlt]
      dsimp only
      omega
    · rw [if_neg h, if_neg h]; omega
end Ref9
