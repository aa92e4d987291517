section Plan1
variable {n : Nat} {Post : PT} {S : Sh} {I : CI} {R : CR} {A : Nat → Int} {tx : Nat → Nat → Int}
theorem has_c {x k : Nat} (hx : x < 2147483648) (hk : k < 31) : (andI (shrI (x : Int) (k : Int)) 1 = 1 ∧ x.testBit k = true) ∨ (andI (shrI (x : Int) (k : Int)) 1 = 0 ∧ x.testBit k = false) := by
  rw [has_n hx hk]
  cases x.testBit k <;> simp
/-- the places of a row that a set names, together -/
def smR (r : Nat → Int) (s : Nat) : Nat → Int
  | 0 => 0
  | k + 1 => smR r s k + (if s.testBit k then r k else 0)
theorem smR_congr {r r' : Nat → Int} {s : Nat} : ∀ k : Nat, (∀ q, q < k → s.testBit q = true → r q = r' q) → smR r s k = smR r' s k := by
  intro k
  induction k with
  | zero => intro _; rfl
  | succ k ih =>
    intro h
    simp only [smR]
    rw [ih (fun q h1 h2 => h q (by omega) h2)]
    split
    · rename_i e; rw [h k (by omega) e]
    · rfl
theorem smR_b {r : Nat → Int} {s : Nat} {M : Int} (hM : 0 ≤ M) : ∀ k : Nat, (∀ q, q < k → s.testBit q = true → 0 ≤ r q ∧ r q ≤ M) → 0 ≤ smR r s k ∧ smR r s k ≤ M * k := by
  intro k
  induction k with
  | zero => intro _; exact ⟨Int.le_refl _, by simp [smR]⟩
  | succ k ih =>
    intro h
    have h1 := ih (fun q h1 h2 => h q (by omega) h2)
    simp only [smR]
    have e : M * ((k + 1 : Nat) : Int) = M * k + M := by rw [show ((k + 1 : Nat) : Int) = (k : Int) + 1 by omega, Int.mul_add, Int.mul_one]
    rw [e]
    split
    · rename_i g; have := h k (by omega) g; omega
    · omega
/-- the pawned among the first -/
def pwN (A : Nat → Int) : Nat → Nat
  | 0 => 0
  | k + 1 => if A (12 + 3 * k) = 1 then pwN A k ||| 2 ^ k else pwN A k
theorem pwN_lt : ∀ k : Nat, pwN A k < 2 ^ k := by
  intro k
  induction k with
  | zero => exact Nat.one_pos
  | succ k ih =>
    simp only [pwN]
    have h2 : 2 ^ k < 2 ^ (k + 1) := Nat.pow_lt_pow_right (by decide) (by omega)
    split
    · exact Nat.or_lt_two_pow (by omega) h2
    · omega
theorem pwN_tb {i : Nat} : ∀ k : Nat, (pwN A k).testBit i = decide (i < k ∧ A (12 + 3 * i) = 1) := by
  intro k
  induction k with
  | zero => simp [pwN]
  | succ k ih =>
    simp only [pwN]
    split
    · rename_i e
      rw [Nat.testBit_or, ih, Nat.testBit_two_pow]
      by_cases h : k = i
      · subst h; simp [e]
      · have : (i < k + 1) ↔ (i < k) := by omega
        simp [h, this]
    · rename_i e
      rw [ih]
      by_cases h : k = i
      · subst h; simp [e]
      · have : (i < k + 1) ↔ (i < k) := by omega
        simp [this]
theorem sd_sub {s p q : Nat} (hs : s < 2147483648) (h : sdN s p = 0) (hq : s.testBit q = true) : p.testBit q = true := by
  have := sdN_tb (x := s) (y := p) (k := q) hs
  rw [h, hq] at this
  simpa using this
def duR (A : Nat → Int) (tx : Nat → Nat → Int) : Nat → Int := fun q => duesP A tx (A 2) q 0 (A 9)
def heR (A : Nat → Int) : Nat → Int := fun q => A (14 + 3 * q)
/-- the sets below s: the coolest -/
abbrev coolP (A : Nat → Int) (tx : Nat → Nat → Int) (s c : Nat) : Prop := smR (heR A) c 8 < smR (heR A) s 8 ∨ (smR (heR A) s 8 = smR (heR A) c 8 ∧ smR (duR A tx) s 8 < smR (duR A tx) c 8)
def coB (A : Nat → Int) (tx : Nat → Nat → Int) : Nat → Nat
  | 0 => 0
  | s + 1 => if sdN s (pwN A (A 0).toNat) = 0 ∧ smR (duR A tx) s 8 ≤ A 9 ∧ coolP A tx s (coB A tx s) then s else coB A tx s
def f_cool (A : Nat → Int) (tx : Nat → Nat → Int) (w : Int) : Int := if 0 ≤ w ∧ w ≤ 2 then (if w = 0 then (coB A tx 256 : Int) else if w = 1 then smR (heR A) (coB A tx 256) 8 else smR (duR A tx) (coB A tx 256) 8) else -1
theorem coB_ok : ∀ s : Nat, sdN (coB A tx s) (pwN A (A 0).toNat) = 0 ∧ coB A tx s ≤ s := by
  intro s
  induction s with
  | zero => exact ⟨by simp [coB, sdN], Nat.le_refl _⟩
  | succ s ih =>
    simp only [coB]
    split
    · rename_i h; exact ⟨h.1, by omega⟩
    · exact ⟨ih.1, by omega⟩
def Fp (I I' : CI) : Prop := ∀ c, c ≠ 280 → c ≠ 281 → (c < 295 ∨ 298 < c) → I' c = I c
theorem Fp.rf {I : CI} : Fp I I := fun _ _ _ _ => rfl
theorem Fp.tr {I I' I'' : CI} (h : Fp I I') (h2 : Fp I' I'') : Fp I I'' := fun c h1 h3 h4 => (h2 c h1 h3 h4).trans (h c h1 h3 h4)
theorem Fl.p {I I' : CI} (h : Fl I I') : Fp I I' := fun c h1 h2 _ => h c h1 h2
theorem Fp.u {I I' : CI} {a k : Nat} {v : Int} (h : Fp I I') (ha : 295 ≤ a ∧ a ≤ 298) : Fp I (uI I' a k v) := fun c h1 h2 h3 => (uI_row (by omega)).trans (h c h1 h2 h3)
theorem CIv.p {I I' : CI} (h : CIv S R I A tx) (hF : Fp I I') (hS : SK I') : CIv S R I' A tx := ⟨ClW_fr (fun c h1 h2 => hF c (by omega) (by omega) (by omega)) h.1, h.2.1, WTx_fr (fun c h => hF c (by omega) (by omega) (by omega)) h.2.2.1, hS⟩
theorem dX4_sumOver_0 : decode prog_6_method_6_code 0 = .ok (.iconst 0, 1) := by decide +kernel
theorem dX4_sumOver_1 : decode prog_6_method_6_code 1 = .ok (.istore_n 2, 1) := by decide +kernel
theorem dX4_sumOver_2 : decode prog_6_method_6_code 2 = .ok (.iconst 0, 1) := by decide +kernel
theorem dX4_sumOver_3 : decode prog_6_method_6_code 3 = .ok (.istore_n 3, 1) := by decide +kernel
theorem dX4_sumOver_4 : decode prog_6_method_6_code 4 = .ok (.iload_n 3, 1) := by decide +kernel
theorem dX4_sumOver_5 : decode prog_6_method_6_code 5 = .ok (.bipush 8, 2) := by decide +kernel
theorem dX4_sumOver_7 : decode prog_6_method_6_code 7 = .ok (.if_icmp .ge 24, 3) := by decide +kernel
theorem dX4_sumOver_10 : decode prog_6_method_6_code 10 = .ok (.iload_n 0, 1) := by decide +kernel
theorem dX4_sumOver_11 : decode prog_6_method_6_code 11 = .ok (.iload_n 3, 1) := by decide +kernel
theorem dX4_sumOver_12 : decode prog_6_method_6_code 12 = .ok (.ishr, 1) := by decide +kernel
theorem dX4_sumOver_13 : decode prog_6_method_6_code 13 = .ok (.iconst 1, 1) := by decide +kernel
theorem dX4_sumOver_14 : decode prog_6_method_6_code 14 = .ok (.iand, 1) := by decide +kernel
theorem dX4_sumOver_15 : decode prog_6_method_6_code 15 = .ok (.iconst 1, 1) := by decide +kernel
theorem dX4_sumOver_16 : decode prog_6_method_6_code 16 = .ok (.if_icmp .ne 9, 3) := by decide +kernel
theorem dX4_sumOver_19 : decode prog_6_method_6_code 19 = .ok (.iload_n 2, 1) := by decide +kernel
theorem dX4_sumOver_20 : decode prog_6_method_6_code 20 = .ok (.aload_n 1, 1) := by decide +kernel
theorem dX4_sumOver_21 : decode prog_6_method_6_code 21 = .ok (.iload_n 3, 1) := by decide +kernel
theorem dX4_sumOver_22 : decode prog_6_method_6_code 22 = .ok (.iaload, 1) := by decide +kernel
theorem dX4_sumOver_23 : decode prog_6_method_6_code 23 = .ok (.iadd, 1) := by decide +kernel
theorem dX4_sumOver_24 : decode prog_6_method_6_code 24 = .ok (.istore_n 2, 1) := by decide +kernel
theorem dX4_sumOver_25 : decode prog_6_method_6_code 25 = .ok (.iinc 3 1, 3) := by decide +kernel
theorem dX4_sumOver_28 : decode prog_6_method_6_code 28 = .ok (.goto (-24), 3) := by decide +kernel
theorem dX4_sumOver_31 : decode prog_6_method_6_code 31 = .ok (.iload_n 2, 1) := by decide +kernel
theorem dX4_sumOver_32 : decode prog_6_method_6_code 32 = .ok (.ireturn, 1) := by decide +kernel
theorem lp_X4_sumOver {a s : Nat} (hA : AR S a 13 8) (hs : s < 256) (hp : Post (some (.int (iI (smR (I a) s 8)))) S I R) : ∀ (d k : Nat), k ≤ 8 → 8 - k = d → WP n 0 0 mX4_sumOver Post 4 [(0, .int (iI (s : Int))), (1, .ref (S.2.1 a)), (2, .int (iI (smR (I a) s k))), (3, .int (iI (k : Int)))] [] 0 0 S I R := by
  intro d
  induction d using Nat.strongRecOn with
  | ind d ih =>
    intro k k1 k2
    refine x_iload_n dX4_sumOver_4 rfl ?_
    refine x_bipush dX4_sumOver_5 (by decide) ?_
    refine x_icmp_ge 31 dX4_sumOver_7 (by decide) ⟨(by omega), (by omega)⟩ (fun w7 => ?_) (fun w7 => ?_)
    · refine x_iload_n dX4_sumOver_31 rfl ?_
      exact x_ireturn dX4_sumOver_32 rfl (by omega) (by omega) (by obtain rfl : k = 8 := (by omega); exact hp)
    · refine x_iload_n dX4_sumOver_10 rfl ?_
      refine x_iload_n dX4_sumOver_11 rfl ?_
      refine x_ishr dX4_sumOver_12 ?_
      refine x_iconst dX4_sumOver_13 ?_
      refine x_iand dX4_sumOver_14 ?_
      have hb16 := has_c (x := s) (k := k) (by omega) (by omega)
      refine x_iconst dX4_sumOver_15 ?_
      refine x_icmp_ne 25 dX4_sumOver_16 (by decide) ⟨(by omega), (by omega)⟩ (fun w16 => ?_) (fun w16 => ?_)
      · refine x_iinc (lv2 := [(3, _), (0, _), (1, _), (2, _)]) dX4_sumOver_25 rfl (by decide) rfl ?_
        refine x_goto 4 dX4_sumOver_28 (by decide) ?_
        refine x_sub [1, 2, 3, 0] rfl ?_
        have hg := ih _ (by omega) (k + 1) (by omega) rfl
        simp only [smR] at hg
        rcases hb16 with hh | hh
        · rw [if_pos hh.2] at hg
          first | exact hg | (exfalso; omega)
        · rw [if_neg (by rw [hh.2]; decide), Int.add_zero] at hg
          first | exact hg | (exfalso; omega)
      · refine x_iload_n dX4_sumOver_19 rfl ?_
        refine x_aload_n dX4_sumOver_20 rfl ?_
        refine x_iload_n dX4_sumOver_21 rfl ?_
        refine x_iaload dX4_sumOver_22 hA (by omega) (by omega) ?_
        rw [show ((k : Nat) : Int).toNat = k by omega]
        refine x_iadd dX4_sumOver_23 ?_
        refine x_istore_n (lv2 := [(2, _), (0, _), (1, _), (3, _)]) dX4_sumOver_24 (by decide) rfl ?_
        refine x_iinc (lv2 := [(3, _), (2, _), (0, _), (1, _)]) dX4_sumOver_25 rfl (by decide) rfl ?_
        refine x_goto 4 dX4_sumOver_28 (by decide) ?_
        refine x_sub [2, 3, 1, 0] rfl ?_
        have hg := ih _ (by omega) (k + 1) (by omega) rfl
        simp only [smR] at hg
        rcases hb16 with hh | hh
        · rw [if_pos hh.2] at hg
          first | exact hg | (exfalso; omega)
        · rw [if_neg (by rw [hh.2]; decide), Int.add_zero] at hg
          first | exact hg | (exfalso; omega)
theorem sp_X4_sumOver {a s : Nat} (hA : AR S a 13 8) (hs : s < 256) (hp : Post (some (.int (iI (smR (I a) s 8)))) S I R) : Call n 0 0 mX4_sumOver [.int (iI (s : Int)), .ref (S.2.1 a)] S I R Post := by
  refine Call.of (by decide +kernel) (Nat.le_of_ble_eq_true rfl) ?_
  show WP _ _ _ _ _ 0 [(0, _), (1, _)] [] 0 0 _ _ _
  refine x_iconst dX4_sumOver_0 ?_
  refine x_istore_n (lv2 := [(2, _), (0, _), (1, _)]) dX4_sumOver_1 (by decide) rfl ?_
  refine x_iconst dX4_sumOver_2 ?_
  refine x_istore_n (lv2 := [(3, _), (2, _), (0, _), (1, _)]) dX4_sumOver_3 (by decide) rfl ?_
  refine x_sub [2, 3, 1, 0] rfl ?_
  exact lp_X4_sumOver hA hs hp _ 0 (by omega) rfl
theorem dX4_heatOf_0 : decode prog_6_method_4_code 0 = .ok (.iload_n 1, 1) := by decide +kernel
theorem dX4_heatOf_1 : decode prog_6_method_4_code 1 = .ok (.aload_n 0, 1) := by decide +kernel
theorem dX4_heatOf_2 : decode prog_6_method_4_code 2 = .ok (.getfield 21, 3) := by decide +kernel
theorem dX4_heatOf_5 : decode prog_6_method_4_code 5 = .ok (.getfield 33, 3) := by decide +kernel
theorem dX4_heatOf_8 : decode prog_6_method_4_code 8 = .ok (.getfield 63, 3) := by decide +kernel
theorem dX4_heatOf_11 : decode prog_6_method_4_code 11 = .ok (.invokestatic 66, 3) := by decide +kernel
theorem dX4_heatOf_14 : decode prog_6_method_4_code 14 = .ok (.ireturn, 1) := by decide +kernel
theorem sp_X4_heatOf {s : Nat} (cs : CS S R) (hc : ClW I 1 A) (hs : s < 256) (hn : 1 ≤ n) (hp : Post (some (.int (iI (smR (heR A) s 8)))) S I R) : Call n 0 0 mX4_heatOf [.ref (S.2.1 295), .int (iI (s : Int))] S I R Post := by
  rw [show smR (heR A) s 8 = smR (I 9) s 8 from smR_congr 8 (fun q hq _ => (hc.1.2 q hq).2.2)] at hp
  refine Call.of (by decide +kernel) (Nat.le_of_ble_eq_true rfl) ?_
  show WP _ _ _ _ _ 0 [(0, _), (1, _)] [] 0 0 _ _ _
  refine x_iload_n dX4_heatOf_0 rfl ?_
  refine x_aload_n dX4_heatOf_1 rfl ?_
  refine x_getR (b := 1) dX4_heatOf_2 gf_RX4_21 (k_ob_295 cs) (fun _ _ => rfl) (k_r_295_3 cs) ?_
  refine x_getR (b := 6) dX4_heatOf_5 gf_RX4_33 (k_ob_1 cs) (fun _ _ => rfl) (k_r_1_4 cs) ?_
  refine x_getR (b := 9) dX4_heatOf_8 gf_RX4_63 (k_ob_6 cs) (fun _ _ => rfl) (k_r_6_2 cs) ?_
  refine x_callS2 (mc1 := 0) (ms1 := 0) dX4_heatOf_11 cv_RX4_66 (Nat.le_of_ble_eq_true rfl) (n1 := n - 1) (by omega) (by omega) (by omega) ?_
  refine sp_X4_sumOver (k_ar_9 cs) hs ?_
  exact x_ireturn dX4_heatOf_14 rfl (by omega) (by omega) (hp)
theorem dX4_duesOf_0 : decode prog_6_method_5_code 0 = .ok (.iload_n 1, 1) := by decide +kernel
theorem dX4_duesOf_1 : decode prog_6_method_5_code 1 = .ok (.aload_n 0, 1) := by decide +kernel
theorem dX4_duesOf_2 : decode prog_6_method_5_code 2 = .ok (.getfield 18, 3) := by decide +kernel
theorem dX4_duesOf_5 : decode prog_6_method_5_code 5 = .ok (.invokestatic 66, 3) := by decide +kernel
theorem dX4_duesOf_8 : decode prog_6_method_5_code 8 = .ok (.ireturn, 1) := by decide +kernel
theorem sp_X4_duesOf {s : Nat} (cs : CS S R) (hs : s < 256) (hn : 1 ≤ n) (hp : Post (some (.int (iI (smR (I 298) s 8)))) S I R) : Call n 0 0 mX4_duesOf [.ref (S.2.1 295), .int (iI (s : Int))] S I R Post := by
  refine Call.of (by decide +kernel) (Nat.le_of_ble_eq_true rfl) ?_
  show WP _ _ _ _ _ 0 [(0, _), (1, _)] [] 0 0 _ _ _
  refine x_iload_n dX4_duesOf_0 rfl ?_
  refine x_aload_n dX4_duesOf_1 rfl ?_
  refine x_getR (b := 298) dX4_duesOf_2 gf_RX4_18 (k_ob_295 cs) (fun _ _ => rfl) (k_r_295_6 cs) ?_
  refine x_callS2 (mc1 := 0) (ms1 := 0) dX4_duesOf_5 cv_RX4_66 (Nat.le_of_ble_eq_true rfl) (n1 := n - 1) (by omega) (by omega) (by omega) ?_
  refine sp_X4_sumOver (k_ar_298 cs) hs ?_
  exact x_ireturn dX4_duesOf_8 rfl (by omega) (by omega) (hp)
theorem dX4_pawnedSet_0 : decode prog_6_method_7_code 0 = .ok (.iconst 0, 1) := by decide +kernel
theorem dX4_pawnedSet_1 : decode prog_6_method_7_code 1 = .ok (.istore_n 1, 1) := by decide +kernel
theorem dX4_pawnedSet_2 : decode prog_6_method_7_code 2 = .ok (.iconst 0, 1) := by decide +kernel
theorem dX4_pawnedSet_3 : decode prog_6_method_7_code 3 = .ok (.istore_n 2, 1) := by decide +kernel
theorem dX4_pawnedSet_4 : decode prog_6_method_7_code 4 = .ok (.iload_n 2, 1) := by decide +kernel
theorem dX4_pawnedSet_5 : decode prog_6_method_7_code 5 = .ok (.aload_n 0, 1) := by decide +kernel
theorem dX4_pawnedSet_6 : decode prog_6_method_7_code 6 = .ok (.getfield 21, 3) := by decide +kernel
theorem dX4_pawnedSet_9 : decode prog_6_method_7_code 9 = .ok (.getfield 33, 3) := by decide +kernel
theorem dX4_pawnedSet_12 : decode prog_6_method_7_code 12 = .ok (.getfield 39, 3) := by decide +kernel
theorem dX4_pawnedSet_15 : decode prog_6_method_7_code 15 = .ok (.if_icmp .ge 31, 3) := by decide +kernel
theorem dX4_pawnedSet_18 : decode prog_6_method_7_code 18 = .ok (.aload_n 0, 1) := by decide +kernel
theorem dX4_pawnedSet_19 : decode prog_6_method_7_code 19 = .ok (.getfield 21, 3) := by decide +kernel
theorem dX4_pawnedSet_22 : decode prog_6_method_7_code 22 = .ok (.getfield 33, 3) := by decide +kernel
theorem dX4_pawnedSet_25 : decode prog_6_method_7_code 25 = .ok (.getfield 70, 3) := by decide +kernel
theorem dX4_pawnedSet_28 : decode prog_6_method_7_code 28 = .ok (.iload_n 2, 1) := by decide +kernel
theorem dX4_pawnedSet_29 : decode prog_6_method_7_code 29 = .ok (.iaload, 1) := by decide +kernel
theorem dX4_pawnedSet_30 : decode prog_6_method_7_code 30 = .ok (.iconst 1, 1) := by decide +kernel
theorem dX4_pawnedSet_31 : decode prog_6_method_7_code 31 = .ok (.if_icmp .ne 9, 3) := by decide +kernel
theorem dX4_pawnedSet_34 : decode prog_6_method_7_code 34 = .ok (.iload_n 1, 1) := by decide +kernel
theorem dX4_pawnedSet_35 : decode prog_6_method_7_code 35 = .ok (.iconst 1, 1) := by decide +kernel
theorem dX4_pawnedSet_36 : decode prog_6_method_7_code 36 = .ok (.iload_n 2, 1) := by decide +kernel
theorem dX4_pawnedSet_37 : decode prog_6_method_7_code 37 = .ok (.ishl, 1) := by decide +kernel
theorem dX4_pawnedSet_38 : decode prog_6_method_7_code 38 = .ok (.ior, 1) := by decide +kernel
theorem dX4_pawnedSet_39 : decode prog_6_method_7_code 39 = .ok (.istore_n 1, 1) := by decide +kernel
theorem dX4_pawnedSet_40 : decode prog_6_method_7_code 40 = .ok (.iinc 2 1, 3) := by decide +kernel
theorem dX4_pawnedSet_43 : decode prog_6_method_7_code 43 = .ok (.goto (-39), 3) := by decide +kernel
theorem dX4_pawnedSet_46 : decode prog_6_method_7_code 46 = .ok (.iload_n 1, 1) := by decide +kernel
theorem dX4_pawnedSet_47 : decode prog_6_method_7_code 47 = .ok (.ireturn, 1) := by decide +kernel
theorem lp_X4_pawnedSet (cs : CS S R) (hc : ClW I 1 A) (hb : BA A) (hp : Post (some (.int (iI (pwN A (A 0).toNat : Int)))) S I R) : ∀ (d k : Nat), (k : Int) ≤ A 0 → (A 0).toNat - k = d → WP n 0 0 mX4_pawnedSet Post 4 [(0, .ref (S.2.1 295)), (1, .int (iI (pwN A k : Int))), (2, .int (iI (k : Int)))] [] 0 0 S I R := by
  obtain ⟨⟨⟨c0, c7, c8, c9, c10, c11⟩, cq⟩, ⟨⟨t1, t2, t3, t4, t5, t6, t7, t8, t9⟩, tq, th, tb, ts, td⟩, cb, cp⟩ := id hc
  dsimp only [Nat.reduceAdd] at c0 c7 c8 c9 c10 c11 cq t1 t2 t3 t4 t5 t6 t7 t8 t9 tq th tb ts td
  obtain ⟨⟨b0, b1, b2, b3, b4, bq, bl⟩, ⟨d1, d2, d3, d4, d5, d6, d7⟩, dq, dh, db, ds, dd, dp⟩ := id hb
  have b7 : 0 ≤ A 7 ∧ A 7 ≤ 9999 := b1
  have b8 : 0 ≤ A 8 ∧ A 8 ≤ 30870 := b2
  have b9 : 0 ≤ A 9 ∧ A 9 ≤ 9999 := b3
  have b10 : 0 ≤ A 10 ∧ A 10 ≤ 1 := b4
  have b11 : 0 ≤ A 11 ∧ A 11 ≤ 16 := by have h1 := lns_b (fun q => A (6 + 6 + 3 * q)) (A 0).toNat; have h2 : A 11 = _ := bl; omega
  intro d
  induction d using Nat.strongRecOn with
  | ind d ih =>
    intro k k1 k2
    have hlt := pwN_lt (A := A) k
    have h256 : 2 ^ k ≤ 2 ^ 8 := Nat.pow_le_pow_right (by decide) (by omega)
    have hpk : 0 < 2 ^ k := Nat.pow_pos (by decide)
    refine x_iload_n dX4_pawnedSet_4 rfl ?_
    refine x_aload_n dX4_pawnedSet_5 rfl ?_
    refine x_getR (b := 1) dX4_pawnedSet_6 gf_RX4_21 (k_ob_295 cs) (fun _ _ => rfl) (k_r_295_3 cs) ?_
    refine x_getR (b := 6) dX4_pawnedSet_9 gf_RX4_33 (k_ob_1 cs) (fun _ _ => rfl) (k_r_1_4 cs) ?_
    refine x_getI dX4_pawnedSet_12 gf_RX4_39 (k_ob_6 cs) (fun _ _ => rfl) ?_
    refine x_icmp_ge 46 dX4_pawnedSet_15 (by decide) ⟨(by omega), (by omega)⟩ (fun w15 => ?_) (fun w15 => ?_)
    · refine x_iload_n dX4_pawnedSet_46 rfl ?_
      exact x_ireturn dX4_pawnedSet_47 rfl (by omega) (by omega) (by obtain rfl : k = (A 0).toNat := (by omega); exact hp)
    · refine x_aload_n dX4_pawnedSet_18 rfl ?_
      refine x_getR (b := 1) dX4_pawnedSet_19 gf_RX4_21 (k_ob_295 cs) (fun _ _ => rfl) (k_r_295_3 cs) ?_
      refine x_getR (b := 6) dX4_pawnedSet_22 gf_RX4_33 (k_ob_1 cs) (fun _ _ => rfl) (k_r_1_4 cs) ?_
      refine x_getR (b := 7) dX4_pawnedSet_25 gf_RX4_70 (k_ob_6 cs) (fun _ _ => rfl) (k_r_6_0 cs) ?_
      refine x_iload_n dX4_pawnedSet_28 rfl ?_
      refine x_iaload dX4_pawnedSet_29 (k_ar_7 cs) (by omega) (by omega) ?_
      have g1 := (cq k (by omega)).1
      have g2 := (bq k (by omega)).1
      rw [show 6 + 6 + 3 * k = 12 + 3 * k by omega] at g2
      rw [show ((k : Nat) : Int).toNat = k by omega, ← g1]
      refine x_iconst dX4_pawnedSet_30 ?_
      refine x_icmp_ne 40 dX4_pawnedSet_31 (by decide) ⟨(by omega), (by omega)⟩ (fun w31 => ?_) (fun w31 => ?_)
      · refine x_iinc (lv2 := [(2, _), (0, _), (1, _)]) dX4_pawnedSet_40 rfl (by decide) rfl ?_
        refine x_goto 4 dX4_pawnedSet_43 (by decide) ?_
        refine x_sub [1, 2, 0] rfl ?_
        have hg := ih _ (by omega) (k + 1) (by omega) rfl
        first
          | (rw [show pwN A (k + 1) = pwN A k from if_neg (by omega)] at hg; exact hg)
          | (rw [show pwN A (k + 1) = pwN A k ||| 2 ^ k from if_pos (by omega)] at hg; exact hg)
      · refine x_iload_n dX4_pawnedSet_34 rfl ?_
        refine x_iconst dX4_pawnedSet_35 ?_
        refine x_iload_n dX4_pawnedSet_36 rfl ?_
        refine x_ishl dX4_pawnedSet_37 ?_
        rw [shl1_n (by omega)]
        refine x_ior dX4_pawnedSet_38 ?_
        rw [orI_n (by omega) (by omega)]
        refine x_istore_n (lv2 := [(1, _), (0, _), (2, _)]) dX4_pawnedSet_39 (by decide) rfl ?_
        refine x_iinc (lv2 := [(2, _), (1, _), (0, _)]) dX4_pawnedSet_40 rfl (by decide) rfl ?_
        refine x_goto 4 dX4_pawnedSet_43 (by decide) ?_
        refine x_sub [2, 1, 0] rfl ?_
        have hg := ih _ (by omega) (k + 1) (by omega) rfl
        first
          | (rw [show pwN A (k + 1) = pwN A k from if_neg (by omega)] at hg; exact hg)
          | (rw [show pwN A (k + 1) = pwN A k ||| 2 ^ k from if_pos (by omega)] at hg; exact hg)
theorem sp_X4_pawnedSet  (cs : CS S R) (hc : ClW I 1 A) (hb : BA A) (hp : Post (some (.int (iI (pwN A (A 0).toNat : Int)))) S I R) : Call n 0 0 mX4_pawnedSet [.ref (S.2.1 295)] S I R Post := by
  have b0 := hb.1.1
  refine Call.of (by decide +kernel) (Nat.le_of_ble_eq_true rfl) ?_
  show WP _ _ _ _ _ 0 [(0, _)] [] 0 0 _ _ _
  refine x_iconst dX4_pawnedSet_0 ?_
  refine x_istore_n (lv2 := [(1, _), (0, _)]) dX4_pawnedSet_1 (by decide) rfl ?_
  refine x_iconst dX4_pawnedSet_2 ?_
  refine x_istore_n (lv2 := [(2, _), (1, _), (0, _)]) dX4_pawnedSet_3 (by decide) rfl ?_
  refine x_sub [2, 1, 0] rfl ?_
  exact lp_X4_pawnedSet cs hc hb hp _ 0 (by omega) rfl
theorem dX4_isCooler_0 : decode prog_6_method_3_code 0 = .ok (.aload_n 0, 1) := by decide +kernel
theorem dX4_isCooler_1 : decode prog_6_method_3_code 1 = .ok (.iload_n 1, 1) := by decide +kernel
theorem dX4_isCooler_2 : decode prog_6_method_3_code 2 = .ok (.invokevirtual 60, 3) := by decide +kernel
theorem dX4_isCooler_5 : decode prog_6_method_3_code 5 = .ok (.istore_n 3, 1) := by decide +kernel
theorem dX4_isCooler_6 : decode prog_6_method_3_code 6 = .ok (.aload_n 0, 1) := by decide +kernel
theorem dX4_isCooler_7 : decode prog_6_method_3_code 7 = .ok (.iload_n 2, 1) := by decide +kernel
theorem dX4_isCooler_8 : decode prog_6_method_3_code 8 = .ok (.invokevirtual 60, 3) := by decide +kernel
theorem dX4_isCooler_11 : decode prog_6_method_3_code 11 = .ok (.istore 4, 2) := by decide +kernel
theorem dX4_isCooler_13 : decode prog_6_method_3_code 13 = .ok (.iload_n 3, 1) := by decide +kernel
theorem dX4_isCooler_14 : decode prog_6_method_3_code 14 = .ok (.iload 4, 2) := by decide +kernel
theorem dX4_isCooler_16 : decode prog_6_method_3_code 16 = .ok (.if_icmp .gt 22, 3) := by decide +kernel
theorem dX4_isCooler_19 : decode prog_6_method_3_code 19 = .ok (.iload_n 3, 1) := by decide +kernel
theorem dX4_isCooler_20 : decode prog_6_method_3_code 20 = .ok (.iload 4, 2) := by decide +kernel
theorem dX4_isCooler_22 : decode prog_6_method_3_code 22 = .ok (.if_icmp .ne 20, 3) := by decide +kernel
theorem dX4_isCooler_25 : decode prog_6_method_3_code 25 = .ok (.aload_n 0, 1) := by decide +kernel
theorem dX4_isCooler_26 : decode prog_6_method_3_code 26 = .ok (.iload_n 1, 1) := by decide +kernel
theorem dX4_isCooler_27 : decode prog_6_method_3_code 27 = .ok (.invokevirtual 50, 3) := by decide +kernel
theorem dX4_isCooler_30 : decode prog_6_method_3_code 30 = .ok (.aload_n 0, 1) := by decide +kernel
theorem dX4_isCooler_31 : decode prog_6_method_3_code 31 = .ok (.iload_n 2, 1) := by decide +kernel
theorem dX4_isCooler_32 : decode prog_6_method_3_code 32 = .ok (.invokevirtual 50, 3) := by decide +kernel
theorem dX4_isCooler_35 : decode prog_6_method_3_code 35 = .ok (.if_icmp .ge 7, 3) := by decide +kernel
theorem dX4_isCooler_38 : decode prog_6_method_3_code 38 = .ok (.iconst 1, 1) := by decide +kernel
theorem dX4_isCooler_39 : decode prog_6_method_3_code 39 = .ok (.goto 4, 3) := by decide +kernel
theorem dX4_isCooler_42 : decode prog_6_method_3_code 42 = .ok (.iconst 0, 1) := by decide +kernel
theorem dX4_isCooler_43 : decode prog_6_method_3_code 43 = .ok (.ireturn, 1) := by decide +kernel
theorem sp_X4_isCooler {s c : Nat} (cs : CS S R) (hc : ClW I 1 A) (hb : BA A) (hd : ∀ q, q < 8 → s.testBit q = true → I 298 q = duR A tx q) (hd2 : ∀ q, q < 8 → c.testBit q = true → I 298 q = duR A tx q) (hs : s < 256) (hc2 : c < 256) (hn : 2 ≤ n) (hp : ∀ r, (r = 1 ∧ coolP A tx s c ∨ r = 0 ∧ ¬ coolP A tx s c) → Post (some (.int (iI r))) S I R) : Call n 0 0 mX4_isCooler [.ref (S.2.1 295), .int (iI (s : Int)), .int (iI (c : Int))] S I R Post := by
  have e1 : smR (I 298) s 8 = smR (duR A tx) s 8 := smR_congr 8 hd
  have e2 : smR (I 298) c 8 = smR (duR A tx) c 8 := smR_congr 8 hd2
  have hdb : ∀ q, 0 ≤ duR A tx q ∧ duR A tx q ≤ 9999 := fun q => duesP_b A tx (A 2) q 0 (A 9)
  have g1 := smR_b (r := duR A tx) (s := s) (M := 9999) (by omega) 8 (fun q _ _ => hdb q)
  have g2 := smR_b (r := duR A tx) (s := c) (M := 9999) (by omega) 8 (fun q _ _ => hdb q)
  have hhb : ∀ q, q < 8 → 0 ≤ heR A q ∧ heR A q ≤ 9 := fun q hq => by have := (hb.1.2.2.2.2.2.1 q hq).2.2; rw [show 6 + 8 + 3 * q = 14 + 3 * q by omega] at this; exact this
  have g3 := smR_b (r := heR A) (s := s) (M := 9) (by omega) 8 (fun q h _ => hhb q h)
  have g4 := smR_b (r := heR A) (s := c) (M := 9) (by omega) 8 (fun q h _ => hhb q h)
  unfold coolP at hp
  refine Call.of (by decide +kernel) (Nat.le_of_ble_eq_true rfl) ?_
  show WP _ _ _ _ _ 0 [(0, _), (1, _), (2, _)] [] 0 0 _ _ _
  refine x_aload_n dX4_isCooler_0 rfl ?_
  refine x_iload_n dX4_isCooler_1 rfl ?_
  refine x_callV1 (mc1 := 0) (ms1 := 0) dX4_isCooler_2 cv_RX4_60 (ci := 4) (k_ob_295 cs) rfl (Nat.le_of_ble_eq_true rfl) (n1 := n - 1) (by omega) (by omega) (by omega) ?_
  refine sp_X4_heatOf cs hc hs (by omega) ?_
  refine x_istore_n (lv2 := [(3, _), (0, _), (1, _), (2, _)]) dX4_isCooler_5 (by decide) rfl ?_
  refine x_aload_n dX4_isCooler_6 rfl ?_
  refine x_iload_n dX4_isCooler_7 rfl ?_
  refine x_callV1 (mc1 := 0) (ms1 := 0) dX4_isCooler_8 cv_RX4_60 (ci := 4) (k_ob_295 cs) rfl (Nat.le_of_ble_eq_true rfl) (n1 := n - 1) (by omega) (by omega) (by omega) ?_
  refine sp_X4_heatOf cs hc hc2 (by omega) ?_
  refine x_istore (lv2 := [(4, _), (3, _), (0, _), (1, _), (2, _)]) dX4_isCooler_11 (by decide) rfl ?_
  refine x_iload_n dX4_isCooler_13 rfl ?_
  refine x_iload dX4_isCooler_14 rfl ?_
  refine x_icmp_gt 38 dX4_isCooler_16 (by decide) ⟨(by omega), (by omega)⟩ (fun w16 => ?_) (fun w16 => ?_)
  · refine x_iconst dX4_isCooler_38 ?_
    refine x_goto 43 dX4_isCooler_39 (by decide) ?_
    exact x_zreturn (by omega) dX4_isCooler_43 rfl (by omega) (by omega) (by first | exact hp 1 (Or.inl ⟨rfl, by omega⟩) | exact hp 0 (Or.inr ⟨rfl, by omega⟩))
  · refine x_iload_n dX4_isCooler_19 rfl ?_
    refine x_iload dX4_isCooler_20 rfl ?_
    refine x_icmp_ne 42 dX4_isCooler_22 (by decide) ⟨(by omega), (by omega)⟩ (fun w22 => ?_) (fun w22 => ?_)
    · refine x_iconst dX4_isCooler_42 ?_
      exact x_zreturn (by omega) dX4_isCooler_43 rfl (by omega) (by omega) (by first | exact hp 1 (Or.inl ⟨rfl, by omega⟩) | exact hp 0 (Or.inr ⟨rfl, by omega⟩))
    · refine x_aload_n dX4_isCooler_25 rfl ?_
      refine x_iload_n dX4_isCooler_26 rfl ?_
      refine x_callV1 (mc1 := 0) (ms1 := 0) dX4_isCooler_27 cv_RX4_50 (ci := 4) (k_ob_295 cs) rfl (Nat.le_of_ble_eq_true rfl) (n1 := n - 1) (by omega) (by omega) (by omega) ?_
      refine sp_X4_duesOf cs hs (by omega) ?_
      rw [e1]
      refine x_aload_n dX4_isCooler_30 rfl ?_
      refine x_iload_n dX4_isCooler_31 rfl ?_
      refine x_callV1 (mc1 := 0) (ms1 := 0) dX4_isCooler_32 cv_RX4_50 (ci := 4) (k_ob_295 cs) rfl (Nat.le_of_ble_eq_true rfl) (n1 := n - 1) (by omega) (by omega) (by omega) ?_
      refine sp_X4_duesOf cs hc2 (by omega) ?_
      rw [e2]
      refine x_icmp_ge 42 dX4_isCooler_35 (by decide) ⟨(by omega), (by omega)⟩ (fun w35 => ?_) (fun w35 => ?_)
      · refine x_iconst dX4_isCooler_42 ?_
        exact x_zreturn (by omega) dX4_isCooler_43 rfl (by omega) (by omega) (by first | exact hp 1 (Or.inl ⟨rfl, by omega⟩) | exact hp 0 (Or.inr ⟨rfl, by omega⟩))
      · refine x_iconst dX4_isCooler_38 ?_
        refine x_goto 43 dX4_isCooler_39 (by decide) ?_
        exact x_zreturn (by omega) dX4_isCooler_43 rfl (by omega) (by omega) (by first | exact hp 1 (Or.inl ⟨rfl, by omega⟩) | exact hp 0 (Or.inr ⟨rfl, by omega⟩))
theorem dX4_coolestSet_0 : decode prog_6_method_2_code 0 = .ok (.aload_n 0, 1) := by decide +kernel
theorem dX4_coolestSet_1 : decode prog_6_method_2_code 1 = .ok (.invokevirtual 29, 3) := by decide +kernel
theorem dX4_coolestSet_4 : decode prog_6_method_2_code 4 = .ok (.istore_n 1, 1) := by decide +kernel
theorem dX4_coolestSet_5 : decode prog_6_method_2_code 5 = .ok (.iconst 0, 1) := by decide +kernel
theorem dX4_coolestSet_6 : decode prog_6_method_2_code 6 = .ok (.istore_n 2, 1) := by decide +kernel
theorem dX4_coolestSet_7 : decode prog_6_method_2_code 7 = .ok (.iload_n 2, 1) := by decide +kernel
theorem dX4_coolestSet_8 : decode prog_6_method_2_code 8 = .ok (.aload_n 0, 1) := by decide +kernel
theorem dX4_coolestSet_9 : decode prog_6_method_2_code 9 = .ok (.getfield 21, 3) := by decide +kernel
theorem dX4_coolestSet_12 : decode prog_6_method_2_code 12 = .ok (.getfield 33, 3) := by decide +kernel
theorem dX4_coolestSet_15 : decode prog_6_method_2_code 15 = .ok (.getfield 39, 3) := by decide +kernel
theorem dX4_coolestSet_18 : decode prog_6_method_2_code 18 = .ok (.if_icmp .ge 23, 3) := by decide +kernel
theorem dX4_coolestSet_21 : decode prog_6_method_2_code 21 = .ok (.aload_n 0, 1) := by decide +kernel
theorem dX4_coolestSet_22 : decode prog_6_method_2_code 22 = .ok (.getfield 18, 3) := by decide +kernel
theorem dX4_coolestSet_25 : decode prog_6_method_2_code 25 = .ok (.iload_n 2, 1) := by decide +kernel
theorem dX4_coolestSet_26 : decode prog_6_method_2_code 26 = .ok (.aload_n 0, 1) := by decide +kernel
theorem dX4_coolestSet_27 : decode prog_6_method_2_code 27 = .ok (.getfield 25, 3) := by decide +kernel
theorem dX4_coolestSet_30 : decode prog_6_method_2_code 30 = .ok (.iload_n 2, 1) := by decide +kernel
theorem dX4_coolestSet_31 : decode prog_6_method_2_code 31 = .ok (.invokevirtual 45, 3) := by decide +kernel
theorem dX4_coolestSet_34 : decode prog_6_method_2_code 34 = .ok (.iastore, 1) := by decide +kernel
theorem dX4_coolestSet_35 : decode prog_6_method_2_code 35 = .ok (.iinc 2 1, 3) := by decide +kernel
theorem dX4_coolestSet_38 : decode prog_6_method_2_code 38 = .ok (.goto (-31), 3) := by decide +kernel
theorem dX4_coolestSet_41 : decode prog_6_method_2_code 41 = .ok (.iconst 0, 1) := by decide +kernel
theorem dX4_coolestSet_42 : decode prog_6_method_2_code 42 = .ok (.istore_n 2, 1) := by decide +kernel
theorem dX4_coolestSet_43 : decode prog_6_method_2_code 43 = .ok (.iconst 1, 1) := by decide +kernel
theorem dX4_coolestSet_44 : decode prog_6_method_2_code 44 = .ok (.istore_n 3, 1) := by decide +kernel
theorem dX4_coolestSet_45 : decode prog_6_method_2_code 45 = .ok (.iload_n 3, 1) := by decide +kernel
theorem dX4_coolestSet_46 : decode prog_6_method_2_code 46 = .ok (.sipush 256, 3) := by decide +kernel
theorem dX4_coolestSet_49 : decode prog_6_method_2_code 49 = .ok (.if_icmp .ge 46, 3) := by decide +kernel
theorem dX4_coolestSet_52 : decode prog_6_method_2_code 52 = .ok (.iload_n 3, 1) := by decide +kernel
theorem dX4_coolestSet_53 : decode prog_6_method_2_code 53 = .ok (.iload_n 1, 1) := by decide +kernel
theorem dX4_coolestSet_54 : decode prog_6_method_2_code 54 = .ok (.iconst (-1), 1) := by decide +kernel
theorem dX4_coolestSet_55 : decode prog_6_method_2_code 55 = .ok (.ixor, 1) := by decide +kernel
theorem dX4_coolestSet_56 : decode prog_6_method_2_code 56 = .ok (.iand, 1) := by decide +kernel
theorem dX4_coolestSet_57 : decode prog_6_method_2_code 57 = .ok (.ifCond .ne 32, 3) := by decide +kernel
theorem dX4_coolestSet_60 : decode prog_6_method_2_code 60 = .ok (.aload_n 0, 1) := by decide +kernel
theorem dX4_coolestSet_61 : decode prog_6_method_2_code 61 = .ok (.iload_n 3, 1) := by decide +kernel
theorem dX4_coolestSet_62 : decode prog_6_method_2_code 62 = .ok (.invokevirtual 50, 3) := by decide +kernel
theorem dX4_coolestSet_65 : decode prog_6_method_2_code 65 = .ok (.aload_n 0, 1) := by decide +kernel
theorem dX4_coolestSet_66 : decode prog_6_method_2_code 66 = .ok (.getfield 21, 3) := by decide +kernel
theorem dX4_coolestSet_69 : decode prog_6_method_2_code 69 = .ok (.getfield 33, 3) := by decide +kernel
theorem dX4_coolestSet_72 : decode prog_6_method_2_code 72 = .ok (.getfield 53, 3) := by decide +kernel
theorem dX4_coolestSet_75 : decode prog_6_method_2_code 75 = .ok (.if_icmp .gt 14, 3) := by decide +kernel
theorem dX4_coolestSet_78 : decode prog_6_method_2_code 78 = .ok (.aload_n 0, 1) := by decide +kernel
theorem dX4_coolestSet_79 : decode prog_6_method_2_code 79 = .ok (.iload_n 3, 1) := by decide +kernel
theorem dX4_coolestSet_80 : decode prog_6_method_2_code 80 = .ok (.iload_n 2, 1) := by decide +kernel
theorem dX4_coolestSet_81 : decode prog_6_method_2_code 81 = .ok (.invokevirtual 56, 3) := by decide +kernel
theorem dX4_coolestSet_84 : decode prog_6_method_2_code 84 = .ok (.ifCond .eq 5, 3) := by decide +kernel
theorem dX4_coolestSet_87 : decode prog_6_method_2_code 87 = .ok (.iload_n 3, 1) := by decide +kernel
theorem dX4_coolestSet_88 : decode prog_6_method_2_code 88 = .ok (.istore_n 2, 1) := by decide +kernel
theorem dX4_coolestSet_89 : decode prog_6_method_2_code 89 = .ok (.iinc 3 1, 3) := by decide +kernel
theorem dX4_coolestSet_92 : decode prog_6_method_2_code 92 = .ok (.goto (-47), 3) := by decide +kernel
theorem dX4_coolestSet_95 : decode prog_6_method_2_code 95 = .ok (.iload_n 2, 1) := by decide +kernel
theorem dX4_coolestSet_96 : decode prog_6_method_2_code 96 = .ok (.ireturn, 1) := by decide +kernel
theorem lp2_X4_coolestSet (cs : CS S R) (hv : CIv S R I A tx) (hn : 5 ≤ n) (hd : ∀ q : Nat, (q : Int) < A 0 → I 298 q = duR A tx q) (hp : Post (some (.int (iI (coB A tx 256 : Int)))) S I R) : ∀ (d s : Nat), s ≤ 256 → 256 - s = d → WP n 0 0 mX4_coolestSet Post 45 [(0, .ref (S.2.1 295)), (1, .int (iI (pwN A (A 0).toNat : Int))), (2, .int (iI (coB A tx s : Int))), (3, .int (iI (s : Int)))] [] 0 0 S I R := by
  obtain ⟨hc, hb, hw, hk⟩ := id hv
  obtain ⟨⟨⟨c0, c7, c8, c9, c10, c11⟩, cq⟩, ⟨⟨t1, t2, t3, t4, t5, t6, t7, t8, t9⟩, tq, th, tb, ts, td⟩, cb, cp⟩ := id hc
  dsimp only [Nat.reduceAdd] at c0 c7 c8 c9 c10 c11 cq t1 t2 t3 t4 t5 t6 t7 t8 t9 tq th tb ts td
  obtain ⟨⟨b0, b1, b2, b3, b4, bq, bl⟩, ⟨d1, d2, d3, d4, d5, d6, d7⟩, dq, dh, db, ds, dd, dp⟩ := id hb
  have b7 : 0 ≤ A 7 ∧ A 7 ≤ 9999 := b1
  have b8 : 0 ≤ A 8 ∧ A 8 ≤ 30870 := b2
  have b9 : 0 ≤ A 9 ∧ A 9 ≤ 9999 := b3
  have b10 : 0 ≤ A 10 ∧ A 10 ≤ 1 := b4
  have b11 : 0 ≤ A 11 ∧ A 11 ≤ 16 := by have h1 := lns_b (fun q => A (6 + 6 + 3 * q)) (A 0).toNat; have h2 : A 11 = _ := bl; omega
  have hlt := pwN_lt (A := A) (A 0).toNat
  have h256 : 2 ^ (A 0).toNat ≤ 2 ^ 8 := Nat.pow_le_pow_right (by decide) (by omega)
  have hsub : ∀ s : Nat, s < 2147483648 → sdN s (pwN A (A 0).toNat) = 0 → ∀ q, q < 8 → s.testBit q = true → I 298 q = duR A tx q := fun s h0 h1 q _ h2 => by
    have := sd_sub h0 h1 h2
    rw [pwN_tb] at this
    exact hd q (by have := (of_decide_eq_true this).1; omega)
  have hdb : ∀ q, 0 ≤ duR A tx q ∧ duR A tx q ≤ 9999 := fun q => duesP_b A tx (A 2) q 0 (A 9)
  intro d
  induction d using Nat.strongRecOn with
  | ind d ih =>
    intro s k1 k2
    have hcb := coB_ok (A := A) (tx := tx) s
    have hsl := sdN_le s (pwN A (A 0).toNat)
    have g1 := smR_b (r := duR A tx) (s := s) (M := 9999) (by omega) 8 (fun q _ _ => hdb q)
    refine x_iload_n dX4_coolestSet_45 rfl ?_
    refine x_sipush dX4_coolestSet_46 (by decide) ?_
    refine x_icmp_ge 95 dX4_coolestSet_49 (by decide) ⟨(by omega), (by omega)⟩ (fun w49 => ?_) (fun w49 => ?_)
    · refine x_iload_n dX4_coolestSet_95 rfl ?_
      exact x_ireturn dX4_coolestSet_96 rfl (by omega) (by omega) (by obtain rfl : s = 256 := (by omega); exact hp)
    · refine x_iload_n dX4_coolestSet_52 rfl ?_
      refine x_iload_n dX4_coolestSet_53 rfl ?_
      refine x_iconst dX4_coolestSet_54 ?_
      refine x_ixor dX4_coolestSet_55 ?_
      refine x_iand dX4_coolestSet_56 ?_
      rw [andnot_n (by omega) (by omega)]
      refine x_if_ne 89 dX4_coolestSet_57 (by decide) (by omega) (fun w57 => ?_) (fun w57 => ?_)
      · refine x_iinc (lv2 := [(3, _), (0, _), (1, _), (2, _)]) dX4_coolestSet_89 rfl (by decide) rfl ?_
        refine x_goto 45 dX4_coolestSet_92 (by decide) ?_
        refine x_sub [1, 2, 3, 0] rfl ?_
        have hg := ih _ (by omega) (s + 1) (by omega) rfl
        first
          | (rw [show coB A tx (s + 1) = coB A tx s from if_neg (fun h => by have := h.1; omega)] at hg; exact hg)
          | (rw [show coB A tx (s + 1) = coB A tx s from if_neg (fun h => by have := h.2.1; omega)] at hg; exact hg)
          | (rcases hr81 with hh | hh
             · rw [show coB A tx (s + 1) = s from if_pos ⟨by omega, by omega, hh.2⟩] at hg
               first | exact hg | (exfalso; omega)
             · rw [show coB A tx (s + 1) = coB A tx s from if_neg (fun h => hh.2 h.2.2)] at hg
               first | exact hg | (exfalso; omega))
      · have hz : sdN s (pwN A (A 0).toNat) = 0 := by omega
        refine x_aload_n dX4_coolestSet_60 rfl ?_
        refine x_iload_n dX4_coolestSet_61 rfl ?_
        refine x_callV1 (mc1 := 0) (ms1 := 0) dX4_coolestSet_62 cv_RX4_50 (ci := 4) (k_ob_295 cs) rfl (Nat.le_of_ble_eq_true rfl) (n1 := n - 1) (by omega) (by omega) (by omega) ?_
        refine sp_X4_duesOf cs (by omega) (by omega) ?_
        rw [smR_congr 8 (hsub s (by omega) hz)]
        refine x_aload_n dX4_coolestSet_65 rfl ?_
        refine x_getR (b := 1) dX4_coolestSet_66 gf_RX4_21 (k_ob_295 cs) (fun _ _ => rfl) (k_r_295_3 cs) ?_
        refine x_getR (b := 6) dX4_coolestSet_69 gf_RX4_33 (k_ob_1 cs) (fun _ _ => rfl) (k_r_1_4 cs) ?_
        refine x_getIv (z := A 9) dX4_coolestSet_72 gf_RX4_53 (k_ob_6 cs) (fun _ _ => rfl) (by exact c9.symm) ?_
        refine x_icmp_gt 89 dX4_coolestSet_75 (by decide) ⟨(by omega), (by omega)⟩ (fun w75 => ?_) (fun w75 => ?_)
        · refine x_iinc (lv2 := [(3, _), (0, _), (1, _), (2, _)]) dX4_coolestSet_89 rfl (by decide) rfl ?_
          refine x_goto 45 dX4_coolestSet_92 (by decide) ?_
          refine x_sub [1, 2, 3, 0] rfl ?_
          have hg := ih _ (by omega) (s + 1) (by omega) rfl
          first
            | (rw [show coB A tx (s + 1) = coB A tx s from if_neg (fun h => by have := h.1; omega)] at hg; exact hg)
            | (rw [show coB A tx (s + 1) = coB A tx s from if_neg (fun h => by have := h.2.1; omega)] at hg; exact hg)
            | (rcases hr81 with hh | hh
               · rw [show coB A tx (s + 1) = s from if_pos ⟨by omega, by omega, hh.2⟩] at hg
                 first | exact hg | (exfalso; omega)
               · rw [show coB A tx (s + 1) = coB A tx s from if_neg (fun h => hh.2 h.2.2)] at hg
                 first | exact hg | (exfalso; omega))
        · refine x_aload_n dX4_coolestSet_78 rfl ?_
          refine x_iload_n dX4_coolestSet_79 rfl ?_
          refine x_iload_n dX4_coolestSet_80 rfl ?_
          refine x_callV2 (mc1 := 0) (ms1 := 0) dX4_coolestSet_81 cv_RX4_56 (ci := 4) (k_ob_295 cs) rfl (Nat.le_of_ble_eq_true rfl) (n1 := n - 1) (by omega) (by omega) (by omega) ?_
          refine sp_X4_isCooler (A := A) (tx := tx) cs hc hb (hsub s (by omega) hz) (hsub _ (by omega) hcb.1) (by omega) (by omega) (by omega) (fun r81 hr81 => ?_)
          refine x_if_eq 89 dX4_coolestSet_84 (by decide) (by omega) (fun w84 => ?_) (fun w84 => ?_)
          · refine x_iinc (lv2 := [(3, _), (0, _), (1, _), (2, _)]) dX4_coolestSet_89 rfl (by decide) rfl ?_
            refine x_goto 45 dX4_coolestSet_92 (by decide) ?_
            refine x_sub [1, 2, 3, 0] rfl ?_
            have hg := ih _ (by omega) (s + 1) (by omega) rfl
            first
              | (rw [show coB A tx (s + 1) = coB A tx s from if_neg (fun h => by have := h.1; omega)] at hg; exact hg)
              | (rw [show coB A tx (s + 1) = coB A tx s from if_neg (fun h => by have := h.2.1; omega)] at hg; exact hg)
              | (rcases hr81 with hh | hh
                 · rw [show coB A tx (s + 1) = s from if_pos ⟨by omega, by omega, hh.2⟩] at hg
                   first | exact hg | (exfalso; omega)
                 · rw [show coB A tx (s + 1) = coB A tx s from if_neg (fun h => hh.2 h.2.2)] at hg
                   first | exact hg | (exfalso; omega))
          · refine x_iload_n dX4_coolestSet_87 rfl ?_
            refine x_istore_n (lv2 := [(2, _), (0, _), (1, _), (3, _)]) dX4_coolestSet_88 (by decide) rfl ?_
            refine x_iinc (lv2 := [(3, _), (2, _), (0, _), (1, _)]) dX4_coolestSet_89 rfl (by decide) rfl ?_
            refine x_goto 45 dX4_coolestSet_92 (by decide) ?_
            refine x_sub [2, 3, 1, 0] rfl ?_
            have hg := ih _ (by omega) (s + 1) (by omega) rfl
            first
              | (rw [show coB A tx (s + 1) = coB A tx s from if_neg (fun h => by have := h.1; omega)] at hg; exact hg)
              | (rw [show coB A tx (s + 1) = coB A tx s from if_neg (fun h => by have := h.2.1; omega)] at hg; exact hg)
              | (rcases hr81 with hh | hh
                 · rw [show coB A tx (s + 1) = s from if_pos ⟨by omega, by omega, hh.2⟩] at hg
                   first | exact hg | (exfalso; omega)
                 · rw [show coB A tx (s + 1) = coB A tx s from if_neg (fun h => hh.2 h.2.2)] at hg
                   first | exact hg | (exfalso; omega))
theorem lp1_X4_coolestSet (cs : CS S R) (hn : 5 ≤ n) (hp : ∀ I', Fp I I' → SK I' → (∀ q : Nat, (q : Int) < A 0 → I' 298 q = duR A tx q) → Post (some (.int (iI (coB A tx 256 : Int)))) S I' R) : ∀ (d k : Nat) (J : CI), (k : Int) ≤ A 0 → (A 0).toNat - k = d → CIv S R J A tx → Fp I J → (∀ q : Nat, q < k → J 298 q = duR A tx q) → WP n 0 0 mX4_coolestSet Post 7 [(0, .ref (S.2.1 295)), (1, .int (iI (pwN A (A 0).toNat : Int))), (2, .int (iI (k : Int)))] [] 0 0 S J R := by
  intro d
  induction d using Nat.strongRecOn with
  | ind d ih =>
    intro k J k1 k2 hv hF hd
    obtain ⟨hc, hb, hw, hk⟩ := id hv
    obtain ⟨⟨⟨c0, c7, c8, c9, c10, c11⟩, cq⟩, ⟨⟨t1, t2, t3, t4, t5, t6, t7, t8, t9⟩, tq, th, tb, ts, td⟩, cb, cp⟩ := id hc
    dsimp only [Nat.reduceAdd] at c0 c7 c8 c9 c10 c11 cq t1 t2 t3 t4 t5 t6 t7 t8 t9 tq th tb ts td
    obtain ⟨⟨b0, b1, b2, b3, b4, bq, bl⟩, ⟨d1, d2, d3, d4, d5, d6, d7⟩, dq, dh, db, ds, dd, dp⟩ := id hb
    have b7 : 0 ≤ A 7 ∧ A 7 ≤ 9999 := b1
    have b8 : 0 ≤ A 8 ∧ A 8 ≤ 30870 := b2
    have b9 : 0 ≤ A 9 ∧ A 9 ≤ 9999 := b3
    have b10 : 0 ≤ A 10 ∧ A 10 ≤ 1 := b4
    have b11 : 0 ≤ A 11 ∧ A 11 ≤ 16 := by have h1 := lns_b (fun q => A (6 + 6 + 3 * q)) (A 0).toNat; have h2 : A 11 = _ := bl; omega
    refine x_iload_n dX4_coolestSet_7 rfl ?_
    refine x_aload_n dX4_coolestSet_8 rfl ?_
    refine x_getR (b := 1) dX4_coolestSet_9 gf_RX4_21 (k_ob_295 cs) (fun _ _ => rfl) (k_r_295_3 cs) ?_
    refine x_getR (b := 6) dX4_coolestSet_12 gf_RX4_33 (k_ob_1 cs) (fun _ _ => rfl) (k_r_1_4 cs) ?_
    refine x_getI dX4_coolestSet_15 gf_RX4_39 (k_ob_6 cs) (fun _ _ => rfl) ?_
    refine x_icmp_ge 41 dX4_coolestSet_18 (by decide) ⟨(by omega), (by omega)⟩ (fun w18 => ?_) (fun w18 => ?_)
    · refine x_iconst dX4_coolestSet_41 ?_
      refine x_istore_n (lv2 := [(2, _), (0, _), (1, _)]) dX4_coolestSet_42 (by decide) rfl ?_
      refine x_iconst dX4_coolestSet_43 ?_
      refine x_istore_n (lv2 := [(3, _), (2, _), (0, _), (1, _)]) dX4_coolestSet_44 (by decide) rfl ?_
      refine x_sub [2, 3, 1, 0] rfl ?_
      obtain rfl : k = (A 0).toNat := by omega
      have e1 : coB A tx 1 = 0 := by unfold coB; split <;> rfl
      have hl := lp2_X4_coolestSet (n := n) cs hv hn (fun q hq => hd q (by omega)) (hp _ hF hk (fun q hq => hd q (by omega))) _ 1 (by omega) rfl
      rw [e1] at hl
      exact hl
    · refine x_aload_n dX4_coolestSet_21 rfl ?_
      refine x_getR (b := 298) dX4_coolestSet_22 gf_RX4_18 (k_ob_295 cs) (fun _ _ => rfl) (k_r_295_6 cs) ?_
      refine x_iload_n dX4_coolestSet_25 rfl ?_
      refine x_aload_n dX4_coolestSet_26 rfl ?_
      refine x_getR (b := 279) dX4_coolestSet_27 gf_RX4_25 (k_ob_295 cs) (fun _ _ => rfl) (k_r_295_4 cs) ?_
      refine x_iload_n dX4_coolestSet_30 rfl ?_
      refine x_callV1 (mc1 := 0) (ms1 := 0) dX4_coolestSet_31 cv_RX4_45 (ci := 3) (k_ob_279 cs) rfl (Nat.le_of_ble_eq_true rfl) (n1 := n - 1) (by omega) (by omega) (by omega) ?_
      refine sp_X3_dues cs hc hb hw hk (by omega) (by omega) (fun I31 hF31 hS31 => ?_)
      rw [show ((k : Nat) : Int).toNat = k by omega]
      refine x_iastore dX4_coolestSet_34 (k_ar_298 cs) (by omega) (by omega) ?_
      refine x_iinc (lv2 := [(2, _), (0, _), (1, _)]) dX4_coolestSet_35 rfl (by decide) rfl ?_
      refine x_goto 7 dX4_coolestSet_38 (by decide) ?_
      refine x_sub [1, 2, 0] rfl ?_
      rw [show ((k : Nat) : Int).toNat = k by omega]
      have hF2 : Fp J (uI I31 298 k (duesP A tx (A 2) k 0 (A 9))) := hF31.p.u (by omega)
      refine ih _ (by omega) (k + 1) _ (by omega) rfl (hv.p hF2 (by unfold SK; rw [uI_row (by omega)]; exact hS31)) (hF.tr hF2) (fun q hq => ?_)
      by_cases e : q = k
      · subst e; rw [uI_s]; rfl
      · rw [uI_o (by omega), hF31 298 (by omega) (by omega)]; exact hd q (by omega)
theorem sp_X4_coolestSet  (cs : CS S R) (hv : CIv S R I A tx) (hn : 5 ≤ n) (hp : ∀ I', Fp I I' → SK I' → (∀ q : Nat, (q : Int) < A 0 → I' 298 q = duR A tx q) → Post (some (.int (iI (coB A tx 256 : Int)))) S I' R) : Call n 0 0 mX4_coolestSet [.ref (S.2.1 295)] S I R Post := by
  have b0 := hv.2.1.1.1
  refine Call.of (by decide +kernel) (Nat.le_of_ble_eq_true rfl) ?_
  show WP _ _ _ _ _ 0 [(0, _)] [] 0 0 _ _ _
  refine x_aload_n dX4_coolestSet_0 rfl ?_
  refine x_callV0 (mc1 := 0) (ms1 := 0) dX4_coolestSet_1 cv_RX4_29 (ci := 4) (k_ob_295 cs) rfl (Nat.le_of_ble_eq_true rfl) (n1 := n - 1) (by omega) (by omega) (by omega) ?_
  refine sp_X4_pawnedSet cs hv.1 hv.2.1 ?_
  refine x_istore_n (lv2 := [(1, _), (0, _)]) dX4_coolestSet_4 (by decide) rfl ?_
  refine x_iconst dX4_coolestSet_5 ?_
  refine x_istore_n (lv2 := [(2, _), (1, _), (0, _)]) dX4_coolestSet_6 (by decide) rfl ?_
  refine x_sub [2, 1, 0] rfl ?_
  exact lp1_X4_coolestSet cs hn hp _ 0 I (by omega) rfl hv Fp.rf (fun q hq => by omega)
theorem dX11_cool_0 : decode prog_1_method_28_code 0 = .ok (.iload_n 1, 1) := by decide +kernel
theorem dX11_cool_1 : decode prog_1_method_28_code 1 = .ok (.ifCond .lt 8, 3) := by decide +kernel
theorem dX11_cool_4 : decode prog_1_method_28_code 4 = .ok (.iload_n 1, 1) := by decide +kernel
theorem dX11_cool_5 : decode prog_1_method_28_code 5 = .ok (.iconst 2, 1) := by decide +kernel
theorem dX11_cool_6 : decode prog_1_method_28_code 6 = .ok (.if_icmp .le 5, 3) := by decide +kernel
theorem dX11_cool_9 : decode prog_1_method_28_code 9 = .ok (.iconst (-1), 1) := by decide +kernel
theorem dX11_cool_10 : decode prog_1_method_28_code 10 = .ok (.ireturn, 1) := by decide +kernel
theorem dX11_cool_11 : decode prog_1_method_28_code 11 = .ok (.aload_n 0, 1) := by decide +kernel
theorem dX11_cool_12 : decode prog_1_method_28_code 12 = .ok (.getfield 54, 3) := by decide +kernel
theorem dX11_cool_15 : decode prog_1_method_28_code 15 = .ok (.invokevirtual 248, 3) := by decide +kernel
theorem dX11_cool_18 : decode prog_1_method_28_code 18 = .ok (.istore_n 2, 1) := by decide +kernel
theorem dX11_cool_19 : decode prog_1_method_28_code 19 = .ok (.iload_n 1, 1) := by decide +kernel
theorem dX11_cool_20 : decode prog_1_method_28_code 20 = .ok (.ifCond .ne 5, 3) := by decide +kernel
theorem dX11_cool_23 : decode prog_1_method_28_code 23 = .ok (.iload_n 2, 1) := by decide +kernel
theorem dX11_cool_24 : decode prog_1_method_28_code 24 = .ok (.ireturn, 1) := by decide +kernel
theorem dX11_cool_25 : decode prog_1_method_28_code 25 = .ok (.iload_n 1, 1) := by decide +kernel
theorem dX11_cool_26 : decode prog_1_method_28_code 26 = .ok (.iconst 1, 1) := by decide +kernel
theorem dX11_cool_27 : decode prog_1_method_28_code 27 = .ok (.if_icmp .ne 14, 3) := by decide +kernel
theorem dX11_cool_30 : decode prog_1_method_28_code 30 = .ok (.aload_n 0, 1) := by decide +kernel
theorem dX11_cool_31 : decode prog_1_method_28_code 31 = .ok (.getfield 54, 3) := by decide +kernel
theorem dX11_cool_34 : decode prog_1_method_28_code 34 = .ok (.iload_n 2, 1) := by decide +kernel
theorem dX11_cool_35 : decode prog_1_method_28_code 35 = .ok (.invokevirtual 251, 3) := by decide +kernel
theorem dX11_cool_38 : decode prog_1_method_28_code 38 = .ok (.goto 11, 3) := by decide +kernel
theorem dX11_cool_41 : decode prog_1_method_28_code 41 = .ok (.aload_n 0, 1) := by decide +kernel
theorem dX11_cool_42 : decode prog_1_method_28_code 42 = .ok (.getfield 54, 3) := by decide +kernel
theorem dX11_cool_45 : decode prog_1_method_28_code 45 = .ok (.iload_n 2, 1) := by decide +kernel
theorem dX11_cool_46 : decode prog_1_method_28_code 46 = .ok (.invokevirtual 254, 3) := by decide +kernel
theorem dX11_cool_49 : decode prog_1_method_28_code 49 = .ok (.ireturn, 1) := by decide +kernel
theorem sp_X11_cool {w : Int} (cs : CS S R) (hv : CIv S R I A tx) (hw2 : Rg w) (hn : 6 ≤ n) (hp : ∀ I', Fp I I' → SK I' → Post (some (.int (iI (f_cool A tx w)))) S I' R) : Call n 0 0 mX11_cool [.ref (S.2.1 0), .int (iI w)] S I R Post := by
  obtain ⟨hc, hb, hw, hk⟩ := id hv
  obtain ⟨⟨⟨c0, c7, c8, c9, c10, c11⟩, cq⟩, ⟨⟨t1, t2, t3, t4, t5, t6, t7, t8, t9⟩, tq, th, tb, ts, td⟩, cb, cp⟩ := id hc
  dsimp only [Nat.reduceAdd] at c0 c7 c8 c9 c10 c11 cq t1 t2 t3 t4 t5 t6 t7 t8 t9 tq th tb ts td
  obtain ⟨⟨b0, b1, b2, b3, b4, bq, bl⟩, ⟨d1, d2, d3, d4, d5, d6, d7⟩, dq, dh, db, ds, dd, dp⟩ := id hb
  have b7 : 0 ≤ A 7 ∧ A 7 ≤ 9999 := b1
  have b8 : 0 ≤ A 8 ∧ A 8 ≤ 30870 := b2
  have b9 : 0 ≤ A 9 ∧ A 9 ≤ 9999 := b3
  have b10 : 0 ≤ A 10 ∧ A 10 ≤ 1 := b4
  have b11 : 0 ≤ A 11 ∧ A 11 ≤ 16 := by have h1 := lns_b (fun q => A (6 + 6 + 3 * q)) (A 0).toNat; have h2 : A 11 = _ := bl; omega
  have hcb := coB_ok (A := A) (tx := tx) 256
  have hlt := pwN_lt (A := A) (A 0).toNat
  have h256 : 2 ^ (A 0).toNat ≤ 2 ^ 8 := Nat.pow_le_pow_right (by decide) (by omega)
  have hcl : coB A tx 256 < 256 := by
    by_cases e : coB A tx 256 = 256
    · exfalso
      have t1 := sd_sub (q := 8) (by omega) hcb.1 (by rw [e]; decide)
      rw [pwN_tb] at t1
      have := (of_decide_eq_true t1).1
      omega
    · omega
  unfold f_cool at hp
  refine Call.of (by decide +kernel) (Nat.le_of_ble_eq_true rfl) ?_
  show WP _ _ _ _ _ 0 [(0, _), (1, _)] [] 0 0 _ _ _
  refine x_iload_n dX11_cool_0 rfl ?_
  refine x_if_lt 9 dX11_cool_1 (by decide) (by omega) (fun w1 => ?_) (fun w1 => ?_)
  · refine x_iconst dX11_cool_9 ?_
    exact x_ireturn dX11_cool_10 rfl (by omega) (by omega) (by first | (rw [if_neg (by omega)] at hp; exact hp _ Fp.rf hk) | (rw [if_pos (by omega), if_pos (by omega)] at hp; exact hp _ hF15 hS15) | (rw [if_pos (by omega), if_neg (by omega), if_pos (by omega)] at hp; exact hp _ hF15 hS15) | (rw [if_pos (by omega), if_neg (by omega), if_neg (by omega)] at hp; exact hp _ hF15 hS15))
  · refine x_iload_n dX11_cool_4 rfl ?_
    refine x_iconst dX11_cool_5 ?_
    refine x_icmp_le 11 dX11_cool_6 (by decide) ⟨(by omega), (by omega)⟩ (fun w6 => ?_) (fun w6 => ?_)
    · refine x_aload_n dX11_cool_11 rfl ?_
      refine x_getR (b := 295) dX11_cool_12 gf_RX11_54 (k_ob_0 cs) (fun _ _ => rfl) (k_r_0_6 cs) ?_
      refine x_callV0 (mc1 := 0) (ms1 := 0) dX11_cool_15 cv_RX11_248 (ci := 4) (k_ob_295 cs) rfl (Nat.le_of_ble_eq_true rfl) (n1 := n - 1) (by omega) (by omega) (by omega) ?_
      refine sp_X4_coolestSet cs hv (by omega) (fun I15 hF15 hS15 hd15 => ?_)
      have hc15 : ClW I15 1 A := (hv.p hF15 hS15).1
      refine x_istore_n (lv2 := [(2, _), (0, _), (1, _)]) dX11_cool_18 (by decide) rfl ?_
      refine x_iload_n dX11_cool_19 rfl ?_
      refine x_if_ne 25 dX11_cool_20 (by decide) (by omega) (fun w20 => ?_) (fun w20 => ?_)
      · refine x_iload_n dX11_cool_25 rfl ?_
        refine x_iconst dX11_cool_26 ?_
        refine x_icmp_ne 41 dX11_cool_27 (by decide) ⟨(by omega), (by omega)⟩ (fun w27 => ?_) (fun w27 => ?_)
        · refine x_aload_n dX11_cool_41 rfl ?_
          refine x_getR (b := 295) dX11_cool_42 gf_RX11_54 (k_ob_0 cs) (fun _ _ => rfl) (k_r_0_6 cs) ?_
          refine x_iload_n dX11_cool_45 rfl ?_
          refine x_callV1 (mc1 := 0) (ms1 := 0) dX11_cool_46 cv_RX11_254 (ci := 4) (k_ob_295 cs) rfl (Nat.le_of_ble_eq_true rfl) (n1 := n - 1) (by omega) (by omega) (by omega) ?_
          refine sp_X4_duesOf cs hcl (by omega) ?_
          have ed : smR (I15 298) (coB A tx 256) 8 = smR (duR A tx) (coB A tx 256) 8 := smR_congr 8 (fun q hq h2 => by have t1 := sd_sub (Nat.lt_trans hcl (by decide)) hcb.1 h2; rw [pwN_tb] at t1; exact hd15 q (by have := (of_decide_eq_true t1).1; omega))
          rw [ed]
          exact x_ireturn dX11_cool_49 rfl (by omega) (by omega) (by first | (rw [if_neg (by omega)] at hp; exact hp _ Fp.rf hk) | (rw [if_pos (by omega), if_pos (by omega)] at hp; exact hp _ hF15 hS15) | (rw [if_pos (by omega), if_neg (by omega), if_pos (by omega)] at hp; exact hp _ hF15 hS15) | (rw [if_pos (by omega), if_neg (by omega), if_neg (by omega)] at hp; exact hp _ hF15 hS15))
        · refine x_aload_n dX11_cool_30 rfl ?_
          refine x_getR (b := 295) dX11_cool_31 gf_RX11_54 (k_ob_0 cs) (fun _ _ => rfl) (k_r_0_6 cs) ?_
          refine x_iload_n dX11_cool_34 rfl ?_
          refine x_callV1 (mc1 := 0) (ms1 := 0) dX11_cool_35 cv_RX11_251 (ci := 4) (k_ob_295 cs) rfl (Nat.le_of_ble_eq_true rfl) (n1 := n - 1) (by omega) (by omega) (by omega) ?_
          refine sp_X4_heatOf cs hc15 hcl (by omega) ?_
          refine x_goto 49 dX11_cool_38 (by decide) ?_
          exact x_ireturn dX11_cool_49 rfl (by omega) (by omega) (by first | (rw [if_neg (by omega)] at hp; exact hp _ Fp.rf hk) | (rw [if_pos (by omega), if_pos (by omega)] at hp; exact hp _ hF15 hS15) | (rw [if_pos (by omega), if_neg (by omega), if_pos (by omega)] at hp; exact hp _ hF15 hS15) | (rw [if_pos (by omega), if_neg (by omega), if_neg (by omega)] at hp; exact hp _ hF15 hS15))
      · refine x_iload_n dX11_cool_23 rfl ?_
        exact x_ireturn dX11_cool_24 rfl (by omega) (by omega) (by first | (rw [if_neg (by omega)] at hp; exact hp _ Fp.rf hk) | (rw [if_pos (by omega), if_pos (by omega)] at hp; exact hp _ hF15 hS15) | (rw [if_pos (by omega), if_neg (by omega), if_pos (by omega)] at hp; exact hp _ hF15 hS15) | (rw [if_pos (by omega), if_neg (by omega), if_neg (by omega)] at hp; exact hp _ hF15 hS15))
    · refine x_iconst dX11_cool_9 ?_
      exact x_ireturn dX11_cool_10 rfl (by omega) (by omega) (by first | (rw [if_neg (by omega)] at hp; exact hp _ Fp.rf hk) | (rw [if_pos (by omega), if_pos (by omega)] at hp; exact hp _ hF15 hS15) | (rw [if_pos (by omega), if_neg (by omega), if_pos (by omega)] at hp; exact hp _ hF15 hS15) | (rw [if_pos (by omega), if_neg (by omega), if_neg (by omega)] at hp; exact hp _ hF15 hS15))
/-- of the days below k: the cheapest, and what it is -/
def chL (A : Nat → Int) (tx : Nat → Nat → Int) (q : Nat) : Nat → Int × Int
  | 0 => (0, 10000)
  | k + 1 => if duesP A tx (A 2) q k (A 9) < (chL A tx q k).2 then (k, duesP A tx (A 2) q k (A 9)) else chL A tx q k
theorem chL_b (q : Nat) : ∀ k : Nat, 0 ≤ (chL A tx q k).1 ∧ (0 < k → (chL A tx q k).1 < k) ∧ (chL A tx q k).1 ≤ k ∧ 0 ≤ (chL A tx q k).2 ∧ (chL A tx q k).2 ≤ 10000 := by
  intro k
  induction k with
  | zero => simp [chL]
  | succ k ih =>
    simp only [chL]
    have := duesP_b A tx (A 2) q k (A 9)
    split
    · dsimp only; omega
    · omega
def f_best (A : Nat → Int) (tx : Nat → Nat → Int) (q m d : Int) : Int := if (0 ≤ q ∧ q < A 0 ∧ A (12 + 3 * q.toNat) = 1) ∧ 0 ≤ m ∧ m ≤ 60 then (if d = 0 then duesP A tx (A 2) q.toNat (chL A tx q.toNat (m.toNat + 1)).1 (A 9) else (chL A tx q.toNat (m.toNat + 1)).1) else -1
theorem dX4_cheapestDay_0 : decode prog_6_method_14_code 0 = .ok (.iconst 0, 1) := by decide +kernel
theorem dX4_cheapestDay_1 : decode prog_6_method_14_code 1 = .ok (.istore_n 3, 1) := by decide +kernel
theorem dX4_cheapestDay_2 : decode prog_6_method_14_code 2 = .ok (.sipush 10000, 3) := by decide +kernel
theorem dX4_cheapestDay_5 : decode prog_6_method_14_code 5 = .ok (.istore 4, 2) := by decide +kernel
theorem dX4_cheapestDay_7 : decode prog_6_method_14_code 7 = .ok (.iconst 0, 1) := by decide +kernel
theorem dX4_cheapestDay_8 : decode prog_6_method_14_code 8 = .ok (.istore 5, 2) := by decide +kernel
theorem dX4_cheapestDay_10 : decode prog_6_method_14_code 10 = .ok (.iload 5, 2) := by decide +kernel
theorem dX4_cheapestDay_12 : decode prog_6_method_14_code 12 = .ok (.iload_n 2, 1) := by decide +kernel
theorem dX4_cheapestDay_13 : decode prog_6_method_14_code 13 = .ok (.if_icmp .gt 52, 3) := by decide +kernel
theorem dX4_cheapestDay_16 : decode prog_6_method_14_code 16 = .ok (.aload_n 0, 1) := by decide +kernel
theorem dX4_cheapestDay_17 : decode prog_6_method_14_code 17 = .ok (.getfield 25, 3) := by decide +kernel
theorem dX4_cheapestDay_20 : decode prog_6_method_14_code 20 = .ok (.aload_n 0, 1) := by decide +kernel
theorem dX4_cheapestDay_21 : decode prog_6_method_14_code 21 = .ok (.getfield 21, 3) := by decide +kernel
theorem dX4_cheapestDay_24 : decode prog_6_method_14_code 24 = .ok (.getfield 96, 3) := by decide +kernel
theorem dX4_cheapestDay_27 : decode prog_6_method_14_code 27 = .ok (.iload_n 1, 1) := by decide +kernel
theorem dX4_cheapestDay_28 : decode prog_6_method_14_code 28 = .ok (.iload 5, 2) := by decide +kernel
theorem dX4_cheapestDay_30 : decode prog_6_method_14_code 30 = .ok (.aload_n 0, 1) := by decide +kernel
theorem dX4_cheapestDay_31 : decode prog_6_method_14_code 31 = .ok (.getfield 21, 3) := by decide +kernel
theorem dX4_cheapestDay_34 : decode prog_6_method_14_code 34 = .ok (.getfield 33, 3) := by decide +kernel
theorem dX4_cheapestDay_37 : decode prog_6_method_14_code 37 = .ok (.getfield 53, 3) := by decide +kernel
theorem dX4_cheapestDay_40 : decode prog_6_method_14_code 40 = .ok (.invokevirtual 103, 3) := by decide +kernel
theorem dX4_cheapestDay_43 : decode prog_6_method_14_code 43 = .ok (.istore 6, 2) := by decide +kernel
theorem dX4_cheapestDay_45 : decode prog_6_method_14_code 45 = .ok (.iload 6, 2) := by decide +kernel
theorem dX4_cheapestDay_47 : decode prog_6_method_14_code 47 = .ok (.iload 4, 2) := by decide +kernel
theorem dX4_cheapestDay_49 : decode prog_6_method_14_code 49 = .ok (.if_icmp .ge 10, 3) := by decide +kernel
theorem dX4_cheapestDay_52 : decode prog_6_method_14_code 52 = .ok (.iload 6, 2) := by decide +kernel
theorem dX4_cheapestDay_54 : decode prog_6_method_14_code 54 = .ok (.istore 4, 2) := by decide +kernel
theorem dX4_cheapestDay_56 : decode prog_6_method_14_code 56 = .ok (.iload 5, 2) := by decide +kernel
theorem dX4_cheapestDay_58 : decode prog_6_method_14_code 58 = .ok (.istore_n 3, 1) := by decide +kernel
theorem dX4_cheapestDay_59 : decode prog_6_method_14_code 59 = .ok (.iinc 5 1, 3) := by decide +kernel
theorem dX4_cheapestDay_62 : decode prog_6_method_14_code 62 = .ok (.goto (-52), 3) := by decide +kernel
theorem dX4_cheapestDay_65 : decode prog_6_method_14_code 65 = .ok (.iload_n 3, 1) := by decide +kernel
theorem dX4_cheapestDay_66 : decode prog_6_method_14_code 66 = .ok (.ireturn, 1) := by decide +kernel
theorem lp_X4_cheapestDay {q m : Int} (cs : CS S R) (hq : 0 ≤ q ∧ q < 8) (hm : 0 ≤ m ∧ m ≤ 60) (hn : 4 ≤ n) (hp : ∀ I', Fl I I' → SK I' → Post (some (.int (iI ((chL A tx q.toNat (m.toNat + 1)).1)))) S I' R) : ∀ (d k : Nat) (J : CI), (k : Int) ≤ m + 1 → (m + 1).toNat - k = d → CIv S R J A tx → Fl I J → WP n 0 0 mX4_cheapestDay Post 10 [(0, .ref (S.2.1 295)), (1, .int (iI q)), (2, .int (iI m)), (3, .int (iI (chL A tx q.toNat k).1)), (4, .int (iI (chL A tx q.toNat k).2)), (5, .int (iI (k : Int)))] [] 0 0 S J R := by
  intro d
  induction d using Nat.strongRecOn with
  | ind d ih =>
    intro k J k1 k2 hv hF
    obtain ⟨hc, hb, hw, hk⟩ := id hv
    obtain ⟨⟨⟨c0, c7, c8, c9, c10, c11⟩, cq⟩, ⟨⟨t1, t2, t3, t4, t5, t6, t7, t8, t9⟩, tq, th, tb, ts, td⟩, cb, cp⟩ := id hc
    dsimp only [Nat.reduceAdd] at c0 c7 c8 c9 c10 c11 cq t1 t2 t3 t4 t5 t6 t7 t8 t9 tq th tb ts td
    obtain ⟨⟨b0, b1, b2, b3, b4, bq, bl⟩, ⟨d1, d2, d3, d4, d5, d6, d7⟩, dq, dh, db, ds, dd, dp⟩ := id hb
    have b7 : 0 ≤ A 7 ∧ A 7 ≤ 9999 := b1
    have b8 : 0 ≤ A 8 ∧ A 8 ≤ 30870 := b2
    have b9 : 0 ≤ A 9 ∧ A 9 ≤ 9999 := b3
    have b10 : 0 ≤ A 10 ∧ A 10 ≤ 1 := b4
    have b11 : 0 ≤ A 11 ∧ A 11 ≤ 16 := by have h1 := lns_b (fun q => A (6 + 6 + 3 * q)) (A 0).toNat; have h2 : A 11 = _ := bl; omega
    have hch := chL_b (A := A) (tx := tx) q.toNat k
    refine x_iload dX4_cheapestDay_10 rfl ?_
    refine x_iload_n dX4_cheapestDay_12 rfl ?_
    refine x_icmp_gt 65 dX4_cheapestDay_13 (by decide) ⟨(by omega), (by omega)⟩ (fun w13 => ?_) (fun w13 => ?_)
    · refine x_iload_n dX4_cheapestDay_65 rfl ?_
      exact x_ireturn dX4_cheapestDay_66 rfl (by omega) (by omega) (by obtain rfl : k = m.toNat + 1 := (by omega); exact hp _ hF hk)
    · refine x_aload_n dX4_cheapestDay_16 rfl ?_
      refine x_getR (b := 279) dX4_cheapestDay_17 gf_RX4_25 (k_ob_295 cs) (fun _ _ => rfl) (k_r_295_4 cs) ?_
      refine x_aload_n dX4_cheapestDay_20 rfl ?_
      refine x_getR (b := 1) dX4_cheapestDay_21 gf_RX4_21 (k_ob_295 cs) (fun _ _ => rfl) (k_r_295_3 cs) ?_
      refine x_getIv (z := A 2) dX4_cheapestDay_24 gf_RX4_96 (k_ob_1 cs) (fun _ _ => rfl) (by first | exact t2.symm | exact c9.symm) ?_
      refine x_iload_n dX4_cheapestDay_27 rfl ?_
      refine x_iload dX4_cheapestDay_28 rfl ?_
      refine x_aload_n dX4_cheapestDay_30 rfl ?_
      refine x_getR (b := 1) dX4_cheapestDay_31 gf_RX4_21 (k_ob_295 cs) (fun _ _ => rfl) (k_r_295_3 cs) ?_
      refine x_getR (b := 6) dX4_cheapestDay_34 gf_RX4_33 (k_ob_1 cs) (fun _ _ => rfl) (k_r_1_4 cs) ?_
      refine x_getIv (z := A 9) dX4_cheapestDay_37 gf_RX4_53 (k_ob_6 cs) (fun _ _ => rfl) (by first | exact t2.symm | exact c9.symm) ?_
      refine x_callV4 (mc1 := 0) (ms1 := 0) dX4_cheapestDay_40 cv_RX4_103 (ci := 3) (k_ob_279 cs) rfl (Nat.le_of_ble_eq_true rfl) (n1 := n - 1) (by omega) (by omega) (by omega) ?_
      refine sp_X3_duesBy cs hc hb hw hk (by omega) (by omega) (by omega) (by omega) (by omega) (fun I40 hF40 hS40 => ?_)
      have db40 := duesP_b A tx (A 2) q.toNat k (A 9)
      refine x_istore (lv2 := [(6, _), (0, _), (1, _), (2, _), (3, _), (4, _), (5, _)]) dX4_cheapestDay_43 (by decide) rfl ?_
      refine x_iload dX4_cheapestDay_45 rfl ?_
      refine x_iload dX4_cheapestDay_47 rfl ?_
      refine x_icmp_ge 59 dX4_cheapestDay_49 (by decide) ⟨(by omega), (by omega)⟩ (fun w49 => ?_) (fun w49 => ?_)
      · refine x_iinc (lv2 := [(5, _), (6, _), (0, _), (1, _), (2, _), (3, _), (4, _)]) dX4_cheapestDay_59 rfl (by decide) rfl ?_
        refine x_goto 10 dX4_cheapestDay_62 (by decide) ?_
        refine x_sub [2, 3, 4, 5, 6, 0] rfl ?_
        have hg := ih _ (by omega) (k + 1) I40 (by omega) rfl (hv.l hF40 hS40) (hF.tr hF40)
        first
          | (rw [show chL A tx q.toNat (k + 1) = chL A tx q.toNat k from if_neg (by omega)] at hg; exact hg)
          | (rw [show chL A tx q.toNat (k + 1) = ((k : Int), duesP A tx (A 2) q.toNat k (A 9)) from if_pos (by omega)] at hg; exact hg)
      · refine x_iload dX4_cheapestDay_52 rfl ?_
        refine x_istore (lv2 := [(4, _), (6, _), (0, _), (1, _), (2, _), (3, _), (5, _)]) dX4_cheapestDay_54 (by decide) rfl ?_
        refine x_iload dX4_cheapestDay_56 rfl ?_
        refine x_istore_n (lv2 := [(3, _), (4, _), (6, _), (0, _), (1, _), (2, _), (5, _)]) dX4_cheapestDay_58 (by decide) rfl ?_
        refine x_iinc (lv2 := [(5, _), (3, _), (4, _), (6, _), (0, _), (1, _), (2, _)]) dX4_cheapestDay_59 rfl (by decide) rfl ?_
        refine x_goto 10 dX4_cheapestDay_62 (by decide) ?_
        refine x_sub [4, 5, 6, 1, 2, 0] rfl ?_
        have hg := ih _ (by omega) (k + 1) I40 (by omega) rfl (hv.l hF40 hS40) (hF.tr hF40)
        first
          | (rw [show chL A tx q.toNat (k + 1) = chL A tx q.toNat k from if_neg (by omega)] at hg; exact hg)
          | (rw [show chL A tx q.toNat (k + 1) = ((k : Int), duesP A tx (A 2) q.toNat k (A 9)) from if_pos (by omega)] at hg; exact hg)
theorem sp_X4_cheapestDay {q m : Int} (cs : CS S R) (hv : CIv S R I A tx) (hq : 0 ≤ q ∧ q < 8) (hm : 0 ≤ m ∧ m ≤ 60) (hn : 4 ≤ n) (hp : ∀ I', Fl I I' → SK I' → Post (some (.int (iI ((chL A tx q.toNat (m.toNat + 1)).1)))) S I' R) : Call n 0 0 mX4_cheapestDay [.ref (S.2.1 295), .int (iI q), .int (iI m)] S I R Post := by
  refine Call.of (by decide +kernel) (Nat.le_of_ble_eq_true rfl) ?_
  show WP _ _ _ _ _ 0 [(0, _), (1, _), (2, _)] [] 0 0 _ _ _
  refine x_iconst dX4_cheapestDay_0 ?_
  refine x_istore_n (lv2 := [(3, _), (0, _), (1, _), (2, _)]) dX4_cheapestDay_1 (by decide) rfl ?_
  refine x_sipush dX4_cheapestDay_2 (by decide) ?_
  refine x_istore (lv2 := [(4, _), (3, _), (0, _), (1, _), (2, _)]) dX4_cheapestDay_5 (by decide) rfl ?_
  refine x_iconst dX4_cheapestDay_7 ?_
  refine x_istore (lv2 := [(5, _), (4, _), (3, _), (0, _), (1, _), (2, _)]) dX4_cheapestDay_8 (by decide) rfl ?_
  refine x_sub [3, 4, 5, 2, 1, 0] rfl ?_
  exact lp_X4_cheapestDay cs hq hm hn hp _ 0 I (by omega) rfl hv Fl.rf
theorem dX11_best_0 : decode prog_1_method_31_code 0 = .ok (.aload_n 0, 1) := by decide +kernel
theorem dX11_best_1 : decode prog_1_method_31_code 1 = .ok (.getfield 10, 3) := by decide +kernel
theorem dX11_best_4 : decode prog_1_method_31_code 4 = .ok (.getfield 127, 3) := by decide +kernel
theorem dX11_best_7 : decode prog_1_method_31_code 7 = .ok (.iload_n 1, 1) := by decide +kernel
theorem dX11_best_8 : decode prog_1_method_31_code 8 = .ok (.iconst 1, 1) := by decide +kernel
theorem dX11_best_9 : decode prog_1_method_31_code 9 = .ok (.invokevirtual 282, 3) := by decide +kernel
theorem dX11_best_12 : decode prog_1_method_31_code 12 = .ok (.ifCond .eq 13, 3) := by decide +kernel
theorem dX11_best_15 : decode prog_1_method_31_code 15 = .ok (.iload_n 2, 1) := by decide +kernel
theorem dX11_best_16 : decode prog_1_method_31_code 16 = .ok (.ifCond .lt 9, 3) := by decide +kernel
theorem dX11_best_19 : decode prog_1_method_31_code 19 = .ok (.iload_n 2, 1) := by decide +kernel
theorem dX11_best_20 : decode prog_1_method_31_code 20 = .ok (.bipush 60, 2) := by decide +kernel
theorem dX11_best_22 : decode prog_1_method_31_code 22 = .ok (.if_icmp .le 5, 3) := by decide +kernel
theorem dX11_best_25 : decode prog_1_method_31_code 25 = .ok (.iconst (-1), 1) := by decide +kernel
theorem dX11_best_26 : decode prog_1_method_31_code 26 = .ok (.ireturn, 1) := by decide +kernel
theorem dX11_best_27 : decode prog_1_method_31_code 27 = .ok (.aload_n 0, 1) := by decide +kernel
theorem dX11_best_28 : decode prog_1_method_31_code 28 = .ok (.getfield 54, 3) := by decide +kernel
theorem dX11_best_31 : decode prog_1_method_31_code 31 = .ok (.iload_n 1, 1) := by decide +kernel
theorem dX11_best_32 : decode prog_1_method_31_code 32 = .ok (.iload_n 2, 1) := by decide +kernel
theorem dX11_best_33 : decode prog_1_method_31_code 33 = .ok (.invokevirtual 285, 3) := by decide +kernel
theorem dX11_best_36 : decode prog_1_method_31_code 36 = .ok (.istore 4, 2) := by decide +kernel
theorem dX11_best_38 : decode prog_1_method_31_code 38 = .ok (.iload_n 3, 1) := by decide +kernel
theorem dX11_best_39 : decode prog_1_method_31_code 39 = .ok (.ifCond .eq 8, 3) := by decide +kernel
theorem dX11_best_42 : decode prog_1_method_31_code 42 = .ok (.iload 4, 2) := by decide +kernel
theorem dX11_best_44 : decode prog_1_method_31_code 44 = .ok (.goto 30, 3) := by decide +kernel
theorem dX11_best_47 : decode prog_1_method_31_code 47 = .ok (.aload_n 0, 1) := by decide +kernel
theorem dX11_best_48 : decode prog_1_method_31_code 48 = .ok (.getfield 24, 3) := by decide +kernel
theorem dX11_best_51 : decode prog_1_method_31_code 51 = .ok (.aload_n 0, 1) := by decide +kernel
theorem dX11_best_52 : decode prog_1_method_31_code 52 = .ok (.getfield 10, 3) := by decide +kernel
theorem dX11_best_55 : decode prog_1_method_31_code 55 = .ok (.getfield 114, 3) := by decide +kernel
theorem dX11_best_58 : decode prog_1_method_31_code 58 = .ok (.iload_n 1, 1) := by decide +kernel
theorem dX11_best_59 : decode prog_1_method_31_code 59 = .ok (.iload 4, 2) := by decide +kernel
theorem dX11_best_61 : decode prog_1_method_31_code 61 = .ok (.aload_n 0, 1) := by decide +kernel
theorem dX11_best_62 : decode prog_1_method_31_code 62 = .ok (.getfield 10, 3) := by decide +kernel
theorem dX11_best_65 : decode prog_1_method_31_code 65 = .ok (.getfield 127, 3) := by decide +kernel
theorem dX11_best_68 : decode prog_1_method_31_code 68 = .ok (.getfield 193, 3) := by decide +kernel
theorem dX11_best_71 : decode prog_1_method_31_code 71 = .ok (.invokevirtual 288, 3) := by decide +kernel
theorem dX11_best_74 : decode prog_1_method_31_code 74 = .ok (.ireturn, 1) := by decide +kernel
theorem sp_X11_best {q m d : Int} (cs : CS S R) (hv : CIv S R I A tx) (hq : Rg q) (hm : Rg m) (hd : d = 0 ∨ d = 1) (hn : 5 ≤ n) (hp : ∀ I', Fl I I' → SK I' → Post (some (.int (iI (f_best A tx q m d)))) S I' R) : Call n 0 0 mX11_best [.ref (S.2.1 0), .int (iI q), .int (iI m), .int (iI d)] S I R Post := by
  obtain ⟨hc, hb, hw, hk⟩ := id hv
  obtain ⟨⟨⟨c0, c7, c8, c9, c10, c11⟩, cq⟩, ⟨⟨t1, t2, t3, t4, t5, t6, t7, t8, t9⟩, tq, th, tb, ts, td⟩, cb, cp⟩ := id hc
  dsimp only [Nat.reduceAdd] at c0 c7 c8 c9 c10 c11 cq t1 t2 t3 t4 t5 t6 t7 t8 t9 tq th tb ts td
  obtain ⟨⟨b0, b1, b2, b3, b4, bq, bl⟩, ⟨d1, d2, d3, d4, d5, d6, d7⟩, dq, dh, db, ds, dd, dp⟩ := id hb
  have b7 : 0 ≤ A 7 ∧ A 7 ≤ 9999 := b1
  have b8 : 0 ≤ A 8 ∧ A 8 ≤ 30870 := b2
  have b9 : 0 ≤ A 9 ∧ A 9 ≤ 9999 := b3
  have b10 : 0 ≤ A 10 ∧ A 10 ≤ 1 := b4
  have b11 : 0 ≤ A 11 ∧ A 11 ≤ 16 := by have h1 := lns_b (fun q => A (6 + 6 + 3 * q)) (A 0).toNat; have h2 : A 11 = _ := bl; omega
  have hsb : SB I 6 := SB_now hc hb
  have wq : 0 ≤ q ∧ q < A 0 → _ := fun h => cq q.toNat (by omega)
  have hch := chL_b (A := A) (tx := tx) q.toNat (m.toNat + 1)
  unfold f_best at hp
  refine Call.of (by decide +kernel) (Nat.le_of_ble_eq_true rfl) ?_
  show WP _ _ _ _ _ 0 [(0, _), (1, _), (2, _), (3, _)] [] 0 0 _ _ _
  refine x_aload_n dX11_best_0 rfl ?_
  refine x_getR (b := 1) dX11_best_1 gf_RX11_10 (k_ob_0 cs) (fun _ _ => rfl) (k_r_0_0 cs) ?_
  refine x_getR (b := 6) dX11_best_4 gf_RX11_127 (k_ob_1 cs) (fun _ _ => rfl) (k_r_1_4 cs) ?_
  refine x_iload_n dX11_best_7 rfl ?_
  refine x_iconst dX11_best_8 ?_
  refine x_callV2 (mc1 := 0) (ms1 := 0) dX11_best_9 cv_RX11_282 (ci := 6) (k_ob_6 cs) rfl (Nat.le_of_ble_eq_true rfl) (n1 := n - 1) (by omega) (by omega) (by omega) ?_
  refine sp_X6_isHow (k_st_6 cs) (by omega) (by omega) hsb (by omega) (fun r9 hr9 => ?_)
  refine x_if_eq 25 dX11_best_12 (by decide) (by omega) (fun w12 => ?_) (fun w12 => ?_)
  · refine x_iconst dX11_best_25 ?_
    exact x_ireturn dX11_best_26 rfl (by omega) (by omega) (by first | (rw [if_neg (by (try have := (wq (by omega)).1); (try dsimp only [Nat.reduceAdd] at hr9); omega)] at hp; exact hp _ Fl.rf hk) | (have w9 := (wq (by omega)).1; (try dsimp only [Nat.reduceAdd] at hr9); rw [if_pos (by omega), if_neg (by omega)] at hp; exact hp _ hF33 hS33) | (have w9 := (wq (by omega)).1; (try dsimp only [Nat.reduceAdd] at hr9); rw [if_pos (by omega), if_pos (by omega)] at hp; exact hp _ (hF33.tr hF71) hS71))
  · refine x_iload_n dX11_best_15 rfl ?_
    refine x_if_lt 25 dX11_best_16 (by decide) (by omega) (fun w16 => ?_) (fun w16 => ?_)
    · refine x_iconst dX11_best_25 ?_
      exact x_ireturn dX11_best_26 rfl (by omega) (by omega) (by first | (rw [if_neg (by (try have := (wq (by omega)).1); (try dsimp only [Nat.reduceAdd] at hr9); omega)] at hp; exact hp _ Fl.rf hk) | (have w9 := (wq (by omega)).1; (try dsimp only [Nat.reduceAdd] at hr9); rw [if_pos (by omega), if_neg (by omega)] at hp; exact hp _ hF33 hS33) | (have w9 := (wq (by omega)).1; (try dsimp only [Nat.reduceAdd] at hr9); rw [if_pos (by omega), if_pos (by omega)] at hp; exact hp _ (hF33.tr hF71) hS71))
    · refine x_iload_n dX11_best_19 rfl ?_
      refine x_bipush dX11_best_20 (by decide) ?_
      refine x_icmp_le 27 dX11_best_22 (by decide) ⟨(by omega), (by omega)⟩ (fun w22 => ?_) (fun w22 => ?_)
      · refine x_aload_n dX11_best_27 rfl ?_
        refine x_getR (b := 295) dX11_best_28 gf_RX11_54 (k_ob_0 cs) (fun _ _ => rfl) (k_r_0_6 cs) ?_
        refine x_iload_n dX11_best_31 rfl ?_
        refine x_iload_n dX11_best_32 rfl ?_
        refine x_callV2 (mc1 := 0) (ms1 := 0) dX11_best_33 cv_RX11_285 (ci := 4) (k_ob_295 cs) rfl (Nat.le_of_ble_eq_true rfl) (n1 := n - 1) (by omega) (by omega) (by omega) ?_
        refine sp_X4_cheapestDay cs hv (by omega) (by omega) (by omega) (fun I33 hF33 hS33 => ?_)
        obtain ⟨hc33, hb33, hw33, hk33⟩ := hv.l hF33 hS33
        refine x_istore (lv2 := [(4, _), (0, _), (1, _), (2, _), (3, _)]) dX11_best_36 (by decide) rfl ?_
        refine x_iload_n dX11_best_38 rfl ?_
        refine x_if_eq 47 dX11_best_39 (by decide) (by omega) (fun w39 => ?_) (fun w39 => ?_)
        · refine x_aload_n dX11_best_47 rfl ?_
          refine x_getR (b := 279) dX11_best_48 gf_RX11_24 (k_ob_0 cs) (fun _ _ => rfl) (k_r_0_2 cs) ?_
          refine x_aload_n dX11_best_51 rfl ?_
          refine x_getR (b := 1) dX11_best_52 gf_RX11_10 (k_ob_0 cs) (fun _ _ => rfl) (k_r_0_0 cs) ?_
          refine x_getIv (z := A 2) dX11_best_55 gf_RX11_114 (k_ob_1 cs) (fun _ _ => rfl) (by first | (rw [hF33 1 (by omega) (by omega)]; exact t2.symm) | (rw [hF33 6 (by omega) (by omega)]; exact c9.symm)) ?_
          refine x_iload_n dX11_best_58 rfl ?_
          refine x_iload dX11_best_59 rfl ?_
          refine x_aload_n dX11_best_61 rfl ?_
          refine x_getR (b := 1) dX11_best_62 gf_RX11_10 (k_ob_0 cs) (fun _ _ => rfl) (k_r_0_0 cs) ?_
          refine x_getR (b := 6) dX11_best_65 gf_RX11_127 (k_ob_1 cs) (fun _ _ => rfl) (k_r_1_4 cs) ?_
          refine x_getIv (z := A 9) dX11_best_68 gf_RX11_193 (k_ob_6 cs) (fun _ _ => rfl) (by first | (rw [hF33 1 (by omega) (by omega)]; exact t2.symm) | (rw [hF33 6 (by omega) (by omega)]; exact c9.symm)) ?_
          refine x_callV4 (mc1 := 0) (ms1 := 0) dX11_best_71 cv_RX11_288 (ci := 3) (k_ob_279 cs) rfl (Nat.le_of_ble_eq_true rfl) (n1 := n - 1) (by omega) (by omega) (by omega) ?_
          refine sp_X3_duesBy cs hc33 hb33 hw33 hk33 (by omega) (by omega) (by omega) (by omega) (by omega) (fun I71 hF71 hS71 => ?_)
          exact x_ireturn dX11_best_74 rfl (by omega) (by omega) (by first | (rw [if_neg (by (try have := (wq (by omega)).1); (try dsimp only [Nat.reduceAdd] at hr9); omega)] at hp; exact hp _ Fl.rf hk) | (have w9 := (wq (by omega)).1; (try dsimp only [Nat.reduceAdd] at hr9); rw [if_pos (by omega), if_neg (by omega)] at hp; exact hp _ hF33 hS33) | (have w9 := (wq (by omega)).1; (try dsimp only [Nat.reduceAdd] at hr9); rw [if_pos (by omega), if_pos (by omega)] at hp; exact hp _ (hF33.tr hF71) hS71))
        · refine x_iload dX11_best_42 rfl ?_
          refine x_goto 74 dX11_best_44 (by decide) ?_
          exact x_ireturn dX11_best_74 rfl (by omega) (by omega) (by first | (rw [if_neg (by (try have := (wq (by omega)).1); (try dsimp only [Nat.reduceAdd] at hr9); omega)] at hp; exact hp _ Fl.rf hk) | (have w9 := (wq (by omega)).1; (try dsimp only [Nat.reduceAdd] at hr9); rw [if_pos (by omega), if_neg (by omega)] at hp; exact hp _ hF33 hS33) | (have w9 := (wq (by omega)).1; (try dsimp only [Nat.reduceAdd] at hr9); rw [if_pos (by omega), if_pos (by omega)] at hp; exact hp _ (hF33.tr hF71) hS71))
      · refine x_iconst dX11_best_25 ?_
        exact x_ireturn dX11_best_26 rfl (by omega) (by omega) (by first | (rw [if_neg (by (try have := (wq (by omega)).1); (try dsimp only [Nat.reduceAdd] at hr9); omega)] at hp; exact hp _ Fl.rf hk) | (have w9 := (wq (by omega)).1; (try dsimp only [Nat.reduceAdd] at hr9); rw [if_pos (by omega), if_neg (by omega)] at hp; exact hp _ hF33 hS33) | (have w9 := (wq (by omega)).1; (try dsimp only [Nat.reduceAdd] at hr9); rw [if_pos (by omega), if_pos (by omega)] at hp; exact hp _ (hF33.tr hF71) hS71))
end Plan1
