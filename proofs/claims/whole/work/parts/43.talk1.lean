section Talk1
variable {n : Nat} {Post : PT} {S : Sh} {I : CI} {R : CR} {A : Nat → Int} {tx : Nat → Nat → Int}
theorem tN (k : Nat) : ((k : Nat) : Int).toNat = k := Int.toNat_natCast k
theorem pw5 {k : Nat} (h : k < 6) : 2 ^ k ≤ 32 ∧ 0 < 2 ^ k := ⟨Nat.pow_le_pow_right (n := 2) (by decide) (show k ≤ 5 by omega), Nat.pow_pos (by decide)⟩
/-- whether a quarrel is of two -/
abbrev ofTwo (A : Nat → Int) (q p r : Nat) : Prop := (A (36 + 2 * q) = p ∧ A (37 + 2 * q) = r) ∨ (A (36 + 2 * q) = r ∧ A (37 + 2 * q) = p)
/-- what it costs that two speak, by the first k quarrels -/
def cstK (A : Nat → Int) (tx : Nat → Nat → Int) (p r : Nat) : Nat → Int
  | 0 => if p = r then -1 else 0
  | k + 1 => if A (12 + 3 * k) ≠ 2 ∧ ofTwo A k p r then (if cstK A tx p r k = -1 ∨ A (12 + 3 * k) ≠ 1 then -1 else cstK A tx p r k + duR A tx k) else cstK A tx p r k
/-- with whom one speaks, by the first k quarrels -/
def spK (A : Nat → Int) (p : Nat) : Nat → Nat
  | 0 => sdN 63 (2 ^ p)
  | k + 1 => if A (12 + 3 * k) ≠ 2 ∧ A (36 + 2 * k) = p then sdN (spK A p k) (2 ^ (A (37 + 2 * k)).toNat) else if A (12 + 3 * k) ≠ 2 ∧ A (37 + 2 * k) = p then sdN (spK A p k) (2 ^ (A (36 + 2 * k)).toNat) else spK A p k
theorem cstK_b {p r : Nat} : ∀ k : Nat, -1 ≤ cstK A tx p r k ∧ cstK A tx p r k ≤ 9999 * k := by
  intro k
  induction k with
  | zero => simp only [cstK]; split <;> omega
  | succ k ih =>
    simp only [cstK]
    have := duesP_b A tx (A 2) k 0 (A 9)
    have e : duR A tx k = duesP A tx (A 2) k 0 (A 9) := rfl
    split
    · split <;> omega
    · omega
theorem spK_lt {p : Nat} : ∀ k : Nat, spK A p k < 64 := by
  intro k
  induction k with
  | zero => simp only [spK]; have := sdN_le 63 (2 ^ p); omega
  | succ k ih =>
    simp only [spK]
    have h1 := sdN_le (spK A p k) (2 ^ (A (37 + 2 * k)).toNat)
    have h2 := sdN_le (spK A p k) (2 ^ (A (36 + 2 * k)).toNat)
    split
    · omega
    · split <;> omega
def LMt (J : CI) (A : Nat → Int) (tx : Nat → Nat → Int) (k : Nat) : Prop := ∀ p r : Nat, p < 6 → r < 6 → J 292 (p * 6 + r) = cstK A tx p r k
def LSp (J : CI) (A : Nat → Int) (k : Nat) : Prop := ∀ p : Nat, p < 6 → J 293 p = (spK A p k : Int)
def Fk (I I' : CI) : Prop := ∀ c, c ≠ 280 → c ≠ 281 → c ≠ 292 → c ≠ 293 → c ≠ 294 → I' c = I c
theorem Fk.rf {I : CI} : Fk I I := fun _ _ _ _ _ _ => rfl
theorem Fk.tr {I I' I'' : CI} (h : Fk I I') (h2 : Fk I' I'') : Fk I I'' := fun c h1 h3 h4 h5 h6 => (h2 c h1 h3 h4 h5 h6).trans (h c h1 h3 h4 h5 h6)
theorem Fl.k {I I' : CI} (h : Fl I I') : Fk I I' := fun c h1 h2 _ _ _ => h c h1 h2
theorem Fk.u {I I' : CI} {a k : Nat} {v : Int} (h : Fk I I') (ha : 292 ≤ a ∧ a ≤ 294) : Fk I (uI I' a k v) := fun c h1 h2 h3 h4 h5 => (uI_row (by omega)).trans (h c h1 h2 h3 h4 h5)
theorem CIv.k {I I' : CI} (h : CIv S R I A tx) (hF : Fk I I') (hS : SK I') : CIv S R I' A tx := ⟨ClW_fr (fun c h1 h2 => hF c (by omega) (by omega) (by omega) (by omega) (by omega)) h.1, h.2.1, WTx_fr (fun c h => hF c (by omega) (by omega) (by omega) (by omega) (by omega)) h.2.2.1, hS⟩
theorem CIv.k1 {I I' : CI} (h : CIv S R I A tx) (hF : ∀ c, c ≠ 292 → c ≠ 293 → c ≠ 294 → I' c = I c) : CIv S R I' A tx := h.k (fun c _ _ h3 h4 h5 => hF c h3 h4 h5) (by unfold SK; rw [hF 281 (by omega) (by omega) (by omega)]; exact h.2.2.2)
theorem lst_no {J : CI} {k : Nat} (h2 : A (12 + 3 * k) = 2) (hM : LMt J A tx k) (hL : LSp J A k) : LMt J A tx (k + 1) ∧ LSp J A (k + 1) := by
  refine ⟨fun p r hp hr => ?_, fun p hp => ?_⟩
  · rw [hM p r hp hr]; exact (if_neg (fun h => h.1 h2)).symm
  · rw [hL p hp, show spK A p (k + 1) = spK A p k from (if_neg (fun h => h.1 h2)).trans (if_neg (fun h => h.1 h2))]
theorem lst_step {J : CI} {k f s : Nat} {d : Int} (hf : A (36 + 2 * k) = f) (hs : A (37 + 2 * k) = s) (hf6 : f < 6) (hs6 : s < 6) (hfs : f ≠ s) (h2 : A (12 + 3 * k) ≠ 2) (hd : d = if A (12 + 3 * k) = 1 then duR A tx k else -1) (hM : LMt J A tx k) (hL : LSp J A k) :
    LMt (uI (uI (uI (uI J 293 f (sdN (spK A f k) (2 ^ s) : Nat)) 292 (f * 6 + s) (if cstK A tx f s k = -1 ∨ d = -1 then -1 else cstK A tx f s k + d)) 293 s (sdN (spK A s k) (2 ^ f) : Nat)) 292 (s * 6 + f) (if cstK A tx s f k = -1 ∨ d = -1 then -1 else cstK A tx s f k + d)) A tx (k + 1) ∧
    LSp (uI (uI (uI (uI J 293 f (sdN (spK A f k) (2 ^ s) : Nat)) 292 (f * 6 + s) (if cstK A tx f s k = -1 ∨ d = -1 then -1 else cstK A tx f s k + d)) 293 s (sdN (spK A s k) (2 ^ f) : Nat)) 292 (s * 6 + f) (if cstK A tx s f k = -1 ∨ d = -1 then -1 else cstK A tx s f k + d)) A (k + 1) := by
  have hdb := duesP_b A tx (A 2) k 0 (A 9)
  have hde : duR A tx k = duesP A tx (A 2) k 0 (A 9) := rfl
  have hv : ∀ x : Int, (if x = -1 ∨ d = -1 then -1 else x + d) = (if x = -1 ∨ A (12 + 3 * k) ≠ 1 then -1 else x + duR A tx k) := by
    intro x
    by_cases h1 : A (12 + 3 * k) = 1
    · rw [if_pos h1] at hd
      by_cases hx : x = -1
      · rw [if_pos (Or.inl hx), if_pos (Or.inl hx)]
      · rw [if_neg (by omega), if_neg (by omega), hd]
    · rw [if_neg h1] at hd
      rw [if_pos (Or.inr hd), if_pos (Or.inr h1)]
  refine ⟨fun p r hp hr => ?_, fun p hp => ?_⟩
  · simp only [hv]
    by_cases e1 : p = s ∧ r = f
    · obtain ⟨rfl, rfl⟩ := e1
      rw [uI_s]
      exact (if_pos ⟨h2, Or.inr ⟨hf, hs⟩⟩).symm
    · rw [uI_o (by omega), uI_o (by omega)]
      by_cases e2 : p = f ∧ r = s
      · obtain ⟨rfl, rfl⟩ := e2
        rw [uI_s]
        exact (if_pos ⟨h2, Or.inl ⟨hf, hs⟩⟩).symm
      · rw [uI_o (by omega), uI_o (by omega), hM p r hp hr]
        refine (if_neg (fun h => ?_)).symm
        rcases h.2 with g | g <;> omega
  · by_cases e1 : p = s
    · subst e1
      rw [uI_o (by omega), uI_s]
      rw [show spK A p (k + 1) = sdN (spK A p k) (2 ^ f) from (if_neg (fun h => by omega)).trans ((if_pos ⟨h2, hs⟩).trans (by rw [hf, tN]))]
    · rw [uI_o (by omega), uI_o (by omega), uI_o (by omega)]
      by_cases e2 : p = f
      · subst e2
        rw [uI_s]
        rw [show spK A p (k + 1) = sdN (spK A p k) (2 ^ s) from (if_pos ⟨h2, hf⟩).trans (by rw [hs, tN])]
      · rw [uI_o (by omega), hL p hp]
        rw [show spK A p (k + 1) = spK A p k from (if_neg (fun h => by omega)).trans (if_neg (fun h => by omega))]
theorem dX7_part_0 : decode prog_9_method_13_code 0 = .ok (.aload_n 0, 1) := by decide +kernel
theorem dX7_part_1 : decode prog_9_method_13_code 1 = .ok (.getfield 15, 3) := by decide +kernel
theorem dX7_part_4 : decode prog_9_method_13_code 4 = .ok (.iload_n 1, 1) := by decide +kernel
theorem dX7_part_5 : decode prog_9_method_13_code 5 = .ok (.dup2, 1) := by decide +kernel
theorem dX7_part_6 : decode prog_9_method_13_code 6 = .ok (.iaload, 1) := by decide +kernel
theorem dX7_part_7 : decode prog_9_method_13_code 7 = .ok (.iconst 1, 1) := by decide +kernel
theorem dX7_part_8 : decode prog_9_method_13_code 8 = .ok (.iload_n 2, 1) := by decide +kernel
theorem dX7_part_9 : decode prog_9_method_13_code 9 = .ok (.ishl, 1) := by decide +kernel
theorem dX7_part_10 : decode prog_9_method_13_code 10 = .ok (.iconst (-1), 1) := by decide +kernel
theorem dX7_part_11 : decode prog_9_method_13_code 11 = .ok (.ixor, 1) := by decide +kernel
theorem dX7_part_12 : decode prog_9_method_13_code 12 = .ok (.iand, 1) := by decide +kernel
theorem dX7_part_13 : decode prog_9_method_13_code 13 = .ok (.iastore, 1) := by decide +kernel
theorem dX7_part_14 : decode prog_9_method_13_code 14 = .ok (.iload_n 1, 1) := by decide +kernel
theorem dX7_part_15 : decode prog_9_method_13_code 15 = .ok (.bipush 6, 2) := by decide +kernel
theorem dX7_part_17 : decode prog_9_method_13_code 17 = .ok (.imul, 1) := by decide +kernel
theorem dX7_part_18 : decode prog_9_method_13_code 18 = .ok (.iload_n 2, 1) := by decide +kernel
theorem dX7_part_19 : decode prog_9_method_13_code 19 = .ok (.iadd, 1) := by decide +kernel
theorem dX7_part_20 : decode prog_9_method_13_code 20 = .ok (.istore 4, 2) := by decide +kernel
theorem dX7_part_22 : decode prog_9_method_13_code 22 = .ok (.aload_n 0, 1) := by decide +kernel
theorem dX7_part_23 : decode prog_9_method_13_code 23 = .ok (.getfield 9, 3) := by decide +kernel
theorem dX7_part_26 : decode prog_9_method_13_code 26 = .ok (.iload 4, 2) := by decide +kernel
theorem dX7_part_28 : decode prog_9_method_13_code 28 = .ok (.aload_n 0, 1) := by decide +kernel
theorem dX7_part_29 : decode prog_9_method_13_code 29 = .ok (.getfield 9, 3) := by decide +kernel
theorem dX7_part_32 : decode prog_9_method_13_code 32 = .ok (.iload 4, 2) := by decide +kernel
theorem dX7_part_34 : decode prog_9_method_13_code 34 = .ok (.iaload, 1) := by decide +kernel
theorem dX7_part_35 : decode prog_9_method_13_code 35 = .ok (.iconst (-1), 1) := by decide +kernel
theorem dX7_part_36 : decode prog_9_method_13_code 36 = .ok (.if_icmp .eq 8, 3) := by decide +kernel
theorem dX7_part_39 : decode prog_9_method_13_code 39 = .ok (.iload_n 3, 1) := by decide +kernel
theorem dX7_part_40 : decode prog_9_method_13_code 40 = .ok (.iconst (-1), 1) := by decide +kernel
theorem dX7_part_41 : decode prog_9_method_13_code 41 = .ok (.if_icmp .ne 7, 3) := by decide +kernel
theorem dX7_part_44 : decode prog_9_method_13_code 44 = .ok (.iconst (-1), 1) := by decide +kernel
theorem dX7_part_45 : decode prog_9_method_13_code 45 = .ok (.goto 12, 3) := by decide +kernel
theorem dX7_part_48 : decode prog_9_method_13_code 48 = .ok (.aload_n 0, 1) := by decide +kernel
theorem dX7_part_49 : decode prog_9_method_13_code 49 = .ok (.getfield 9, 3) := by decide +kernel
theorem dX7_part_52 : decode prog_9_method_13_code 52 = .ok (.iload 4, 2) := by decide +kernel
theorem dX7_part_54 : decode prog_9_method_13_code 54 = .ok (.iaload, 1) := by decide +kernel
theorem dX7_part_55 : decode prog_9_method_13_code 55 = .ok (.iload_n 3, 1) := by decide +kernel
theorem dX7_part_56 : decode prog_9_method_13_code 56 = .ok (.iadd, 1) := by decide +kernel
theorem dX7_part_57 : decode prog_9_method_13_code 57 = .ok (.iastore, 1) := by decide +kernel
theorem dX7_part_58 : decode prog_9_method_13_code 58 = .ok (.return_, 1) := by decide +kernel
theorem sp_X7_part {a b s : Nat} {x due : Int} (cs : CS S R) (ha : a < 6) (hb2 : b < 6) (hs : I 293 a = (s : Int)) (hs2 : s < 64) (hx : I 292 (a * 6 + b) = x) (hxb : -1 ≤ x ∧ x ≤ 90000) (hd : -1 ≤ due ∧ due ≤ 9999) (hp : Post none S (uI (uI I 293 a (sdN s (2 ^ b) : Nat)) 292 (a * 6 + b) (if x = -1 ∨ due = -1 then -1 else x + due)) R) : Call n 0 0 mX7_part [.ref (S.2.1 291), .int (iI (a : Int)), .int (iI (b : Int)), .int (iI due)] S I R Post := by
  have hpb := pw5 hb2
  have hab : ((a : Int) * 6 + (b : Int)).toNat = a * 6 + b := by omega
  refine Call.of (by decide +kernel) (Nat.le_of_ble_eq_true rfl) ?_
  show WP _ _ _ _ _ 0 [(0, _), (1, _), (2, _), (3, _)] [] 0 0 _ _ _
  refine x_aload_n dX7_part_0 rfl ?_
  refine x_getR (b := 293) dX7_part_1 gf_RX7_15 (k_ob_291 cs) (fun _ _ => rfl) (k_r_291_3 cs) ?_
  refine x_iload_n dX7_part_4 rfl ?_
  refine x_dup2 dX7_part_5 rfl rfl ?_
  refine x_iaload dX7_part_6 (k_ar_293 cs) (by omega) (by omega) ?_
  rw [tN, hs]
  refine x_iconst dX7_part_7 ?_
  refine x_iload_n dX7_part_8 rfl ?_
  refine x_ishl dX7_part_9 ?_
  rw [shl1_n (by omega)]
  refine x_iconst dX7_part_10 ?_
  refine x_ixor dX7_part_11 ?_
  refine x_iand dX7_part_12 ?_
  rw [andnot_n (by omega) (by omega)]
  refine x_iastore dX7_part_13 (k_ar_293 cs) (by omega) (by omega) ?_
  rw [tN]
  refine x_iload_n dX7_part_14 rfl ?_
  refine x_bipush dX7_part_15 (by decide) ?_
  refine x_imul dX7_part_17 ?_
  refine x_iload_n dX7_part_18 rfl ?_
  refine x_iadd dX7_part_19 ?_
  refine x_istore (lv2 := [(4, _), (0, _), (1, _), (2, _), (3, _)]) dX7_part_20 (by decide) rfl ?_
  refine x_aload_n dX7_part_22 rfl ?_
  refine x_getR (b := 292) dX7_part_23 gf_RX7_9 (k_ob_291 cs) (fun _ _ => rfl) (k_r_291_2 cs) ?_
  refine x_iload dX7_part_26 rfl ?_
  refine x_aload_n dX7_part_28 rfl ?_
  refine x_getR (b := 292) dX7_part_29 gf_RX7_9 (k_ob_291 cs) (fun _ _ => rfl) (k_r_291_2 cs) ?_
  refine x_iload dX7_part_32 rfl ?_
  refine x_iaload dX7_part_34 (k_ar_292 cs) (by omega) (by omega) ?_
  rw [hab, uI_o (by omega), hx]
  refine x_iconst dX7_part_35 ?_
  refine x_icmp_eq 44 dX7_part_36 (by decide) ⟨(by omega), (by omega)⟩ (fun w36 => ?_) (fun w36 => ?_)
  · refine x_iconst dX7_part_44 ?_
    refine x_goto 57 dX7_part_45 (by decide) ?_
    refine x_iastore dX7_part_57 (k_ar_292 cs) (by omega) (by omega) ?_
    rw [hab]
    exact x_return dX7_part_58 rfl (by omega) (by omega) (by first | (rw [if_pos (by omega)] at hp; exact hp) | (rw [if_neg (by omega)] at hp; exact hp))
  · refine x_iload_n dX7_part_39 rfl ?_
    refine x_iconst dX7_part_40 ?_
    refine x_icmp_ne 48 dX7_part_41 (by decide) ⟨(by omega), (by omega)⟩ (fun w41 => ?_) (fun w41 => ?_)
    · refine x_aload_n dX7_part_48 rfl ?_
      refine x_getR (b := 292) dX7_part_49 gf_RX7_9 (k_ob_291 cs) (fun _ _ => rfl) (k_r_291_2 cs) ?_
      refine x_iload dX7_part_52 rfl ?_
      refine x_iaload dX7_part_54 (k_ar_292 cs) (by omega) (by omega) ?_
      rw [hab, uI_o (by omega), hx]
      refine x_iload_n dX7_part_55 rfl ?_
      refine x_iadd dX7_part_56 ?_
      refine x_iastore dX7_part_57 (k_ar_292 cs) (by omega) (by omega) ?_
      rw [hab]
      exact x_return dX7_part_58 rfl (by omega) (by omega) (by first | (rw [if_pos (by omega)] at hp; exact hp) | (rw [if_neg (by omega)] at hp; exact hp))
    · refine x_iconst dX7_part_44 ?_
      refine x_goto 57 dX7_part_45 (by decide) ?_
      refine x_iastore dX7_part_57 (k_ar_292 cs) (by omega) (by omega) ?_
      rw [hab]
      exact x_return dX7_part_58 rfl (by omega) (by omega) (by first | (rw [if_pos (by omega)] at hp; exact hp) | (rw [if_neg (by omega)] at hp; exact hp))
theorem dX7_listen_0 : decode prog_9_method_12_code 0 = .ok (.aload_n 0, 1) := by decide +kernel
theorem dX7_listen_1 : decode prog_9_method_12_code 1 = .ok (.getfield 9, 3) := by decide +kernel
theorem dX7_listen_4 : decode prog_9_method_12_code 4 = .ok (.iconst 0, 1) := by decide +kernel
theorem dX7_listen_5 : decode prog_9_method_12_code 5 = .ok (.invokestatic 70, 3) := by decide +kernel
theorem dX7_listen_8 : decode prog_9_method_12_code 8 = .ok (.iconst 0, 1) := by decide +kernel
theorem dX7_listen_9 : decode prog_9_method_12_code 9 = .ok (.istore_n 1, 1) := by decide +kernel
theorem dX7_listen_10 : decode prog_9_method_12_code 10 = .ok (.iload_n 1, 1) := by decide +kernel
theorem dX7_listen_11 : decode prog_9_method_12_code 11 = .ok (.bipush 6, 2) := by decide +kernel
theorem dX7_listen_13 : decode prog_9_method_12_code 13 = .ok (.if_icmp .ge 23, 3) := by decide +kernel
theorem dX7_listen_16 : decode prog_9_method_12_code 16 = .ok (.aload_n 0, 1) := by decide +kernel
theorem dX7_listen_17 : decode prog_9_method_12_code 17 = .ok (.getfield 15, 3) := by decide +kernel
theorem dX7_listen_20 : decode prog_9_method_12_code 20 = .ok (.iload_n 1, 1) := by decide +kernel
theorem dX7_listen_21 : decode prog_9_method_12_code 21 = .ok (.bipush 63, 2) := by decide +kernel
theorem dX7_listen_23 : decode prog_9_method_12_code 23 = .ok (.iconst 1, 1) := by decide +kernel
theorem dX7_listen_24 : decode prog_9_method_12_code 24 = .ok (.iload_n 1, 1) := by decide +kernel
theorem dX7_listen_25 : decode prog_9_method_12_code 25 = .ok (.ishl, 1) := by decide +kernel
theorem dX7_listen_26 : decode prog_9_method_12_code 26 = .ok (.iconst (-1), 1) := by decide +kernel
theorem dX7_listen_27 : decode prog_9_method_12_code 27 = .ok (.ixor, 1) := by decide +kernel
theorem dX7_listen_28 : decode prog_9_method_12_code 28 = .ok (.iand, 1) := by decide +kernel
theorem dX7_listen_29 : decode prog_9_method_12_code 29 = .ok (.iastore, 1) := by decide +kernel
theorem dX7_listen_30 : decode prog_9_method_12_code 30 = .ok (.iinc 1 1, 3) := by decide +kernel
theorem dX7_listen_33 : decode prog_9_method_12_code 33 = .ok (.goto (-23), 3) := by decide +kernel
theorem dX7_listen_36 : decode prog_9_method_12_code 36 = .ok (.iconst 0, 1) := by decide +kernel
theorem dX7_listen_37 : decode prog_9_method_12_code 37 = .ok (.istore_n 1, 1) := by decide +kernel
theorem dX7_listen_38 : decode prog_9_method_12_code 38 = .ok (.iload_n 1, 1) := by decide +kernel
theorem dX7_listen_39 : decode prog_9_method_12_code 39 = .ok (.bipush 6, 2) := by decide +kernel
theorem dX7_listen_41 : decode prog_9_method_12_code 41 = .ok (.if_icmp .ge 21, 3) := by decide +kernel
theorem dX7_listen_44 : decode prog_9_method_12_code 44 = .ok (.aload_n 0, 1) := by decide +kernel
theorem dX7_listen_45 : decode prog_9_method_12_code 45 = .ok (.getfield 9, 3) := by decide +kernel
theorem dX7_listen_48 : decode prog_9_method_12_code 48 = .ok (.iload_n 1, 1) := by decide +kernel
theorem dX7_listen_49 : decode prog_9_method_12_code 49 = .ok (.bipush 6, 2) := by decide +kernel
theorem dX7_listen_51 : decode prog_9_method_12_code 51 = .ok (.imul, 1) := by decide +kernel
theorem dX7_listen_52 : decode prog_9_method_12_code 52 = .ok (.iload_n 1, 1) := by decide +kernel
theorem dX7_listen_53 : decode prog_9_method_12_code 53 = .ok (.iadd, 1) := by decide +kernel
theorem dX7_listen_54 : decode prog_9_method_12_code 54 = .ok (.iconst (-1), 1) := by decide +kernel
theorem dX7_listen_55 : decode prog_9_method_12_code 55 = .ok (.iastore, 1) := by decide +kernel
theorem dX7_listen_56 : decode prog_9_method_12_code 56 = .ok (.iinc 1 1, 3) := by decide +kernel
theorem dX7_listen_59 : decode prog_9_method_12_code 59 = .ok (.goto (-21), 3) := by decide +kernel
theorem dX7_listen_62 : decode prog_9_method_12_code 62 = .ok (.iconst 0, 1) := by decide +kernel
theorem dX7_listen_63 : decode prog_9_method_12_code 63 = .ok (.istore_n 1, 1) := by decide +kernel
theorem dX7_listen_64 : decode prog_9_method_12_code 64 = .ok (.iload_n 1, 1) := by decide +kernel
theorem dX7_listen_65 : decode prog_9_method_12_code 65 = .ok (.aload_n 0, 1) := by decide +kernel
theorem dX7_listen_66 : decode prog_9_method_12_code 66 = .ok (.getfield 21, 3) := by decide +kernel
theorem dX7_listen_69 : decode prog_9_method_12_code 69 = .ok (.getfield 76, 3) := by decide +kernel
theorem dX7_listen_72 : decode prog_9_method_12_code 72 = .ok (.getfield 82, 3) := by decide +kernel
theorem dX7_listen_75 : decode prog_9_method_12_code 75 = .ok (.if_icmp .ge 100, 3) := by decide +kernel
theorem dX7_listen_78 : decode prog_9_method_12_code 78 = .ok (.aload_n 0, 1) := by decide +kernel
theorem dX7_listen_79 : decode prog_9_method_12_code 79 = .ok (.getfield 21, 3) := by decide +kernel
theorem dX7_listen_82 : decode prog_9_method_12_code 82 = .ok (.getfield 76, 3) := by decide +kernel
theorem dX7_listen_85 : decode prog_9_method_12_code 85 = .ok (.getfield 88, 3) := by decide +kernel
theorem dX7_listen_88 : decode prog_9_method_12_code 88 = .ok (.iload_n 1, 1) := by decide +kernel
theorem dX7_listen_89 : decode prog_9_method_12_code 89 = .ok (.iaload, 1) := by decide +kernel
theorem dX7_listen_90 : decode prog_9_method_12_code 90 = .ok (.iconst 2, 1) := by decide +kernel
theorem dX7_listen_91 : decode prog_9_method_12_code 91 = .ok (.if_icmp .eq 78, 3) := by decide +kernel
theorem dX7_listen_94 : decode prog_9_method_12_code 94 = .ok (.aload_n 0, 1) := by decide +kernel
theorem dX7_listen_95 : decode prog_9_method_12_code 95 = .ok (.getfield 21, 3) := by decide +kernel
theorem dX7_listen_98 : decode prog_9_method_12_code 98 = .ok (.getfield 76, 3) := by decide +kernel
theorem dX7_listen_101 : decode prog_9_method_12_code 101 = .ok (.getfield 88, 3) := by decide +kernel
theorem dX7_listen_104 : decode prog_9_method_12_code 104 = .ok (.iload_n 1, 1) := by decide +kernel
theorem dX7_listen_105 : decode prog_9_method_12_code 105 = .ok (.iaload, 1) := by decide +kernel
theorem dX7_listen_106 : decode prog_9_method_12_code 106 = .ok (.iconst 1, 1) := by decide +kernel
theorem dX7_listen_107 : decode prog_9_method_12_code 107 = .ok (.if_icmp .ne 14, 3) := by decide +kernel
theorem dX7_listen_110 : decode prog_9_method_12_code 110 = .ok (.aload_n 0, 1) := by decide +kernel
theorem dX7_listen_111 : decode prog_9_method_12_code 111 = .ok (.getfield 25, 3) := by decide +kernel
theorem dX7_listen_114 : decode prog_9_method_12_code 114 = .ok (.iload_n 1, 1) := by decide +kernel
theorem dX7_listen_115 : decode prog_9_method_12_code 115 = .ok (.invokevirtual 91, 3) := by decide +kernel
theorem dX7_listen_118 : decode prog_9_method_12_code 118 = .ok (.goto 4, 3) := by decide +kernel
theorem dX7_listen_121 : decode prog_9_method_12_code 121 = .ok (.iconst (-1), 1) := by decide +kernel
theorem dX7_listen_122 : decode prog_9_method_12_code 122 = .ok (.istore_n 2, 1) := by decide +kernel
theorem dX7_listen_123 : decode prog_9_method_12_code 123 = .ok (.aload_n 0, 1) := by decide +kernel
theorem dX7_listen_124 : decode prog_9_method_12_code 124 = .ok (.aload_n 0, 1) := by decide +kernel
theorem dX7_listen_125 : decode prog_9_method_12_code 125 = .ok (.getfield 21, 3) := by decide +kernel
theorem dX7_listen_128 : decode prog_9_method_12_code 128 = .ok (.getfield 96, 3) := by decide +kernel
theorem dX7_listen_131 : decode prog_9_method_12_code 131 = .ok (.iload_n 1, 1) := by decide +kernel
theorem dX7_listen_132 : decode prog_9_method_12_code 132 = .ok (.iaload, 1) := by decide +kernel
theorem dX7_listen_133 : decode prog_9_method_12_code 133 = .ok (.aload_n 0, 1) := by decide +kernel
theorem dX7_listen_134 : decode prog_9_method_12_code 134 = .ok (.getfield 21, 3) := by decide +kernel
theorem dX7_listen_137 : decode prog_9_method_12_code 137 = .ok (.getfield 99, 3) := by decide +kernel
theorem dX7_listen_140 : decode prog_9_method_12_code 140 = .ok (.iload_n 1, 1) := by decide +kernel
theorem dX7_listen_141 : decode prog_9_method_12_code 141 = .ok (.iaload, 1) := by decide +kernel
theorem dX7_listen_142 : decode prog_9_method_12_code 142 = .ok (.iload_n 2, 1) := by decide +kernel
theorem dX7_listen_143 : decode prog_9_method_12_code 143 = .ok (.invokevirtual 102, 3) := by decide +kernel
theorem dX7_listen_146 : decode prog_9_method_12_code 146 = .ok (.aload_n 0, 1) := by decide +kernel
theorem dX7_listen_147 : decode prog_9_method_12_code 147 = .ok (.aload_n 0, 1) := by decide +kernel
theorem dX7_listen_148 : decode prog_9_method_12_code 148 = .ok (.getfield 21, 3) := by decide +kernel
theorem dX7_listen_151 : decode prog_9_method_12_code 151 = .ok (.getfield 99, 3) := by decide +kernel
theorem dX7_listen_154 : decode prog_9_method_12_code 154 = .ok (.iload_n 1, 1) := by decide +kernel
theorem dX7_listen_155 : decode prog_9_method_12_code 155 = .ok (.iaload, 1) := by decide +kernel
theorem dX7_listen_156 : decode prog_9_method_12_code 156 = .ok (.aload_n 0, 1) := by decide +kernel
theorem dX7_listen_157 : decode prog_9_method_12_code 157 = .ok (.getfield 21, 3) := by decide +kernel
theorem dX7_listen_160 : decode prog_9_method_12_code 160 = .ok (.getfield 96, 3) := by decide +kernel
theorem dX7_listen_163 : decode prog_9_method_12_code 163 = .ok (.iload_n 1, 1) := by decide +kernel
theorem dX7_listen_164 : decode prog_9_method_12_code 164 = .ok (.iaload, 1) := by decide +kernel
theorem dX7_listen_165 : decode prog_9_method_12_code 165 = .ok (.iload_n 2, 1) := by decide +kernel
theorem dX7_listen_166 : decode prog_9_method_12_code 166 = .ok (.invokevirtual 102, 3) := by decide +kernel
theorem dX7_listen_169 : decode prog_9_method_12_code 169 = .ok (.iinc 1 1, 3) := by decide +kernel
theorem dX7_listen_172 : decode prog_9_method_12_code 172 = .ok (.goto (-108), 3) := by decide +kernel
theorem dX7_listen_175 : decode prog_9_method_12_code 175 = .ok (.return_, 1) := by decide +kernel
theorem lp4_X7_listen {k : Nat} {d : Int} (cs : CS S R) (hv : CIv S R I A tx) (hkA : (k : Int) < A 0) (hd : d = if A (12 + 3 * k) = 1 then duR A tx k else -1) (hM : LMt I A tx k) (hL : LSp I A k) (h2 : A (12 + 3 * k) ≠ 2) (hn : 1 ≤ n) (hK : ∀ I', CIv S R I' A tx → Fk I I' → LMt I' A tx (k + 1) → LSp I' A (k + 1) → WP n 0 0 mX7_listen Post 169 [(0, .ref (S.2.1 291)), (1, .int (iI (k : Int)))] [] 0 0 S I' R) : WP n 0 0 mX7_listen Post 122 [(0, .ref (S.2.1 291)), (1, .int (iI (k : Int)))] [.int (iI d)] 0 0 S I R := by
  obtain ⟨hc, hb, hw, hk⟩ := id hv
  obtain ⟨⟨⟨c0, c7, c8, c9, c10, c11⟩, cq⟩, ⟨⟨t1, t2, t3, t4, t5, t6, t7, t8, t9⟩, tq, th, tb, ts, td⟩, cb, cp⟩ := id hc
  dsimp only [Nat.reduceAdd] at c0 c7 c8 c9 c10 c11 cq t1 t2 t3 t4 t5 t6 t7 t8 t9 tq th tb ts td
  obtain ⟨⟨b0, b1, b2, b3, b4, bq, bl⟩, ⟨d1, d2, d3, d4, d5, d6, d7⟩, dq, dh, db, ds, dd, dp⟩ := id hb
  have b7 : 0 ≤ A 7 ∧ A 7 ≤ 9999 := b1
  have b8 : 0 ≤ A 8 ∧ A 8 ≤ 30870 := b2
  have b9 : 0 ≤ A 9 ∧ A 9 ≤ 9999 := b3
  have b10 : 0 ≤ A 10 ∧ A 10 ≤ 1 := b4
  have b11 : 0 ≤ A 11 ∧ A 11 ≤ 16 := by have h1 := lns_b (fun q => A (6 + 6 + 3 * q)) (A 0).toNat; have h2 : A 11 = _ := bl; omega
  have hq := dq k (by omega)
  obtain ⟨f, hf⟩ : ∃ f : Nat, A (36 + 2 * k) = (f : Int) := ⟨(A (36 + 2 * k)).toNat, by omega⟩
  obtain ⟨s, hs⟩ : ∃ s : Nat, A (37 + 2 * k) = (s : Int) := ⟨(A (37 + 2 * k)).toNat, by omega⟩
  have hne := hq.2.2.2.2 hkA
  have hfs : f ≠ s := by omega
  have hi2 : I 2 k = (f : Int) := by rw [← hf]; exact (tq k (by omega)).1.symm
  have hi3 : I 3 k = (s : Int) := by rw [← hs]; exact (tq k (by omega)).2.1.symm
  have hst := lst_step hf hs (by omega) (by omega) hfs h2 hd hM hL
  have hdb := duesP_b A tx (A 2) k 0 (A 9)
  have hde : duR A tx k = duesP A tx (A 2) k 0 (A 9) := rfl
  have hdr : -1 ≤ d ∧ d ≤ 9999 := by rw [hd]; split <;> omega
  have hcb := fun p r => cstK_b (A := A) (tx := tx) (p := p) (r := r) k
  have hsb := fun p => spK_lt (A := A) (p := p) k
  refine x_istore_n (lv2 := [(2, _), (0, _), (1, _)]) dX7_listen_122 (by decide) rfl ?_
  refine x_aload_n dX7_listen_123 rfl ?_
  refine x_aload_n dX7_listen_124 rfl ?_
  refine x_getR (b := 1) dX7_listen_125 gf_RX7_21 (k_ob_291 cs) (fun _ _ => rfl) (k_r_291_0 cs) ?_
  refine x_getR (b := 2) dX7_listen_128 gf_RX7_96 (k_ob_1 cs) (fun _ _ => rfl) (k_r_1_0 cs) ?_
  refine x_iload_n dX7_listen_131 rfl ?_
  refine x_iaload dX7_listen_132 (k_ar_2 cs) (by omega) (by omega) ?_
  rw [tN, hi2]
  refine x_aload_n dX7_listen_133 rfl ?_
  refine x_getR (b := 1) dX7_listen_134 gf_RX7_21 (k_ob_291 cs) (fun _ _ => rfl) (k_r_291_0 cs) ?_
  refine x_getR (b := 3) dX7_listen_137 gf_RX7_99 (k_ob_1 cs) (fun _ _ => rfl) (k_r_1_1 cs) ?_
  refine x_iload_n dX7_listen_140 rfl ?_
  refine x_iaload dX7_listen_141 (k_ar_3 cs) (by omega) (by omega) ?_
  rw [tN, hi3]
  refine x_iload_n dX7_listen_142 rfl ?_
  refine x_callV3 (mc1 := 0) (ms1 := 0) dX7_listen_143 cv_RX7_102 (ci := 7) (k_ob_291 cs) rfl (Nat.le_of_ble_eq_true rfl) (n1 := n - 1) (by omega) (by omega) (by omega) ?_
  refine sp_X7_part cs (by omega) (by omega) (hL f (by omega)) (hsb f) (hM f s (by omega) (by omega)) (by have := hcb f s; omega) hdr ?_
  refine x_aload_n dX7_listen_146 rfl ?_
  refine x_aload_n dX7_listen_147 rfl ?_
  refine x_getR (b := 1) dX7_listen_148 gf_RX7_21 (k_ob_291 cs) (fun _ _ => rfl) (k_r_291_0 cs) ?_
  refine x_getR (b := 3) dX7_listen_151 gf_RX7_99 (k_ob_1 cs) (fun _ _ => rfl) (k_r_1_1 cs) ?_
  refine x_iload_n dX7_listen_154 rfl ?_
  refine x_iaload dX7_listen_155 (k_ar_3 cs) (by omega) (by omega) ?_
  rw [tN, uI_o (by omega), uI_o (by omega), hi3]
  refine x_aload_n dX7_listen_156 rfl ?_
  refine x_getR (b := 1) dX7_listen_157 gf_RX7_21 (k_ob_291 cs) (fun _ _ => rfl) (k_r_291_0 cs) ?_
  refine x_getR (b := 2) dX7_listen_160 gf_RX7_96 (k_ob_1 cs) (fun _ _ => rfl) (k_r_1_0 cs) ?_
  refine x_iload_n dX7_listen_163 rfl ?_
  refine x_iaload dX7_listen_164 (k_ar_2 cs) (by omega) (by omega) ?_
  rw [tN, uI_o (by omega), uI_o (by omega), hi2]
  refine x_iload_n dX7_listen_165 rfl ?_
  refine x_callV3 (mc1 := 0) (ms1 := 0) dX7_listen_166 cv_RX7_102 (ci := 7) (k_ob_291 cs) rfl (Nat.le_of_ble_eq_true rfl) (n1 := n - 1) (by omega) (by omega) (by omega) ?_
  refine sp_X7_part cs (by omega) (by omega) ((uI_o (by omega)).trans ((uI_o (by omega)).trans (hL s (by omega)))) (hsb s) ((uI_o (by omega)).trans ((uI_o (by omega)).trans (hM s f (by omega) (by omega)))) (by have := hcb s f; omega) hdr ?_
  refine x_sub [1, 2] rfl ?_
  exact hK _ (hv.k1 (fun c h1 h2 h3 => by rw [uI_row h1, uI_row h2, uI_row h1, uI_row h2])) ((((Fk.rf.u (by omega)).u (by omega)).u (by omega)).u (by omega)) hst.1 hst.2
theorem lp3_X7_listen (cs : CS S R) (hn : 5 ≤ n) (hp : ∀ I', CIv S R I' A tx → Fk I I' → LMt I' A tx (A 0).toNat → LSp I' A (A 0).toNat → Post none S I' R) : ∀ (d k : Nat) (J : CI), (k : Int) ≤ A 0 → (A 0).toNat - k = d → CIv S R J A tx → Fk I J → LMt J A tx k → LSp J A k → WP n 0 0 mX7_listen Post 64 [(0, .ref (S.2.1 291)), (1, .int (iI (k : Int)))] [] 0 0 S J R := by
  intro d
  induction d using Nat.strongRecOn with
  | ind d ih =>
    intro k J k1 k2 hv hF hM hL
    obtain ⟨hc, hb, hw, hk⟩ := id hv
    obtain ⟨⟨⟨c0, c7, c8, c9, c10, c11⟩, cq⟩, ⟨⟨t1, t2, t3, t4, t5, t6, t7, t8, t9⟩, tq, th, tb, ts, td⟩, cb, cp⟩ := id hc
    dsimp only [Nat.reduceAdd] at c0 c7 c8 c9 c10 c11 cq t1 t2 t3 t4 t5 t6 t7 t8 t9 tq th tb ts td
    obtain ⟨⟨b0, b1, b2, b3, b4, bq, bl⟩, ⟨d1, d2, d3, d4, d5, d6, d7⟩, dq, dh, db, ds, dd, dp⟩ := id hb
    have b7 : 0 ≤ A 7 ∧ A 7 ≤ 9999 := b1
    have b8 : 0 ≤ A 8 ∧ A 8 ≤ 30870 := b2
    have b9 : 0 ≤ A 9 ∧ A 9 ≤ 9999 := b3
    have b10 : 0 ≤ A 10 ∧ A 10 ≤ 1 := b4
    have b11 : 0 ≤ A 11 ∧ A 11 ≤ 16 := by have h1 := lns_b (fun q => A (6 + 6 + 3 * q)) (A 0).toNat; have h2 : A 11 = _ := bl; omega
    refine x_iload_n dX7_listen_64 rfl ?_
    refine x_aload_n dX7_listen_65 rfl ?_
    refine x_getR (b := 1) dX7_listen_66 gf_RX7_21 (k_ob_291 cs) (fun _ _ => rfl) (k_r_291_0 cs) ?_
    refine x_getR (b := 6) dX7_listen_69 gf_RX7_76 (k_ob_1 cs) (fun _ _ => rfl) (k_r_1_4 cs) ?_
    refine x_getI dX7_listen_72 gf_RX7_82 (k_ob_6 cs) (fun _ _ => rfl) ?_
    refine x_icmp_ge 175 dX7_listen_75 (by decide) ⟨(by omega), (by omega)⟩ (fun w75 => ?_) (fun w75 => ?_)
    · exact x_return dX7_listen_175 rfl (by omega) (by omega) (by obtain rfl : k = (A 0).toNat := (by omega); exact hp _ hv hF hM hL)
    · refine x_aload_n dX7_listen_78 rfl ?_
      refine x_getR (b := 1) dX7_listen_79 gf_RX7_21 (k_ob_291 cs) (fun _ _ => rfl) (k_r_291_0 cs) ?_
      refine x_getR (b := 6) dX7_listen_82 gf_RX7_76 (k_ob_1 cs) (fun _ _ => rfl) (k_r_1_4 cs) ?_
      refine x_getR (b := 7) dX7_listen_85 gf_RX7_88 (k_ob_6 cs) (fun _ _ => rfl) (k_r_6_0 cs) ?_
      refine x_iload_n dX7_listen_88 rfl ?_
      refine x_iaload dX7_listen_89 (k_ar_7 cs) (by omega) (by omega) ?_
      have g1 := (cq k (by omega)).1
      have g2 := (bq k (by omega)).1
      rw [show 6 + 6 + 3 * k = 12 + 3 * k by omega] at g2
      rw [tN, ← g1]
      refine x_iconst dX7_listen_90 ?_
      refine x_icmp_eq 169 dX7_listen_91 (by decide) ⟨(by omega), (by omega)⟩ (fun w91 => ?_) (fun w91 => ?_)
      · refine x_iinc (lv2 := [(1, _), (0, _)]) dX7_listen_169 rfl (by decide) rfl ?_
        refine x_goto 64 dX7_listen_172 (by decide) ?_
        refine x_sub [1, 0] rfl ?_
        obtain ⟨hM9, hL9⟩ := lst_no (by omega) hM hL
        exact ih _ (by omega) (k + 1) J (by omega) rfl hv hF hM9 hL9
      · refine x_aload_n dX7_listen_94 rfl ?_
        refine x_getR (b := 1) dX7_listen_95 gf_RX7_21 (k_ob_291 cs) (fun _ _ => rfl) (k_r_291_0 cs) ?_
        refine x_getR (b := 6) dX7_listen_98 gf_RX7_76 (k_ob_1 cs) (fun _ _ => rfl) (k_r_1_4 cs) ?_
        refine x_getR (b := 7) dX7_listen_101 gf_RX7_88 (k_ob_6 cs) (fun _ _ => rfl) (k_r_6_0 cs) ?_
        refine x_iload_n dX7_listen_104 rfl ?_
        refine x_iaload dX7_listen_105 (k_ar_7 cs) (by omega) (by omega) ?_
        rw [tN, ← g1]
        refine x_iconst dX7_listen_106 ?_
        refine x_icmp_ne 121 dX7_listen_107 (by decide) ⟨(by omega), (by omega)⟩ (fun w107 => ?_) (fun w107 => ?_)
        · refine x_iconst dX7_listen_121 ?_
          refine x_sub [0, 1] rfl ?_
          first
            | (refine lp4_X7_listen cs (hv.l hF115 hS115) (by omega) (if_pos (by omega)).symm (fun p r h1 h2 => (congrFun (hF115 292 (by omega) (by omega)) _).trans (hM p r h1 h2)) (fun p h1 => (congrFun (hF115 293 (by omega) (by omega)) _).trans (hL p h1)) (by omega) (by omega) (fun I9 hv9 hF9 hM9 hL9 => ?_)
               refine x_iinc (lv2 := [(1, _), (0, _)]) dX7_listen_169 rfl (by decide) rfl ?_
               refine x_goto 64 dX7_listen_172 (by decide) ?_
               refine x_sub [1, 0] rfl ?_
               exact ih _ (by omega) (k + 1) I9 (by omega) rfl hv9 (hF.tr (hF115.k.tr hF9)) hM9 hL9)
            | (refine lp4_X7_listen cs hv (by omega) (if_neg (by omega)).symm hM hL (by omega) (by omega) (fun I9 hv9 hF9 hM9 hL9 => ?_)
               refine x_iinc (lv2 := [(1, _), (0, _)]) dX7_listen_169 rfl (by decide) rfl ?_
               refine x_goto 64 dX7_listen_172 (by decide) ?_
               refine x_sub [1, 0] rfl ?_
               exact ih _ (by omega) (k + 1) I9 (by omega) rfl hv9 (hF.tr hF9) hM9 hL9)
        · refine x_aload_n dX7_listen_110 rfl ?_
          refine x_getR (b := 279) dX7_listen_111 gf_RX7_25 (k_ob_291 cs) (fun _ _ => rfl) (k_r_291_1 cs) ?_
          refine x_iload_n dX7_listen_114 rfl ?_
          refine x_callV1 (mc1 := 0) (ms1 := 0) dX7_listen_115 cv_RX7_91 (ci := 3) (k_ob_279 cs) rfl (Nat.le_of_ble_eq_true rfl) (n1 := n - 1) (by omega) (by omega) (by omega) ?_
          refine sp_X3_dues cs hc hb hw hk (by omega) (by omega) (fun I115 hF115 hS115 => ?_)
          rw [tN]
          refine x_goto 122 dX7_listen_118 (by decide) ?_
          refine x_sub [0, 1] rfl ?_
          first
            | (refine lp4_X7_listen cs (hv.l hF115 hS115) (by omega) (if_pos (by omega)).symm (fun p r h1 h2 => (congrFun (hF115 292 (by omega) (by omega)) _).trans (hM p r h1 h2)) (fun p h1 => (congrFun (hF115 293 (by omega) (by omega)) _).trans (hL p h1)) (by omega) (by omega) (fun I9 hv9 hF9 hM9 hL9 => ?_)
               refine x_iinc (lv2 := [(1, _), (0, _)]) dX7_listen_169 rfl (by decide) rfl ?_
               refine x_goto 64 dX7_listen_172 (by decide) ?_
               refine x_sub [1, 0] rfl ?_
               exact ih _ (by omega) (k + 1) I9 (by omega) rfl hv9 (hF.tr (hF115.k.tr hF9)) hM9 hL9)
            | (refine lp4_X7_listen cs hv (by omega) (if_neg (by omega)).symm hM hL (by omega) (by omega) (fun I9 hv9 hF9 hM9 hL9 => ?_)
               refine x_iinc (lv2 := [(1, _), (0, _)]) dX7_listen_169 rfl (by decide) rfl ?_
               refine x_goto 64 dX7_listen_172 (by decide) ?_
               refine x_sub [1, 0] rfl ?_
               exact ih _ (by omega) (k + 1) I9 (by omega) rfl hv9 (hF.tr hF9) hM9 hL9)
theorem lp2_X7_listen (cs : CS S R) (hn : 5 ≤ n) (hp : ∀ I', CIv S R I' A tx → Fk I I' → LMt I' A tx (A 0).toNat → LSp I' A (A 0).toNat → Post none S I' R) : ∀ (d i : Nat) (J : CI), i ≤ 6 → 6 - i = d → CIv S R J A tx → Fk I J → (∀ p r : Nat, p < 6 → r < 6 → J 292 (p * 6 + r) = if p = r ∧ p < i then -1 else 0) → LSp J A 0 → WP n 0 0 mX7_listen Post 38 [(0, .ref (S.2.1 291)), (1, .int (iI (i : Int)))] [] 0 0 S J R := by
  intro d
  induction d using Nat.strongRecOn with
  | ind d ih =>
    intro i J k1 k2 hv hF hM hL
    have b0 := hv.2.1.1.1
    refine x_iload_n dX7_listen_38 rfl ?_
    refine x_bipush dX7_listen_39 (by decide) ?_
    refine x_icmp_ge 62 dX7_listen_41 (by decide) ⟨(by omega), (by omega)⟩ (fun w41 => ?_) (fun w41 => ?_)
    · refine x_iconst dX7_listen_62 ?_
      refine x_istore_n (lv2 := [(1, _), (0, _)]) dX7_listen_63 (by decide) rfl ?_
      refine x_sub [1, 0] rfl ?_
      obtain rfl : i = 6 := by omega
      refine lp3_X7_listen cs hn hp _ 0 J (by omega) rfl hv hF (fun p r hp hr => ?_) hL
      rw [hM p r hp hr]
      by_cases e : p = r
      · rw [if_pos (by omega)]; exact (if_pos e).symm
      · rw [if_neg (by omega)]; exact (if_neg e).symm
    · refine x_aload_n dX7_listen_44 rfl ?_
      refine x_getR (b := 292) dX7_listen_45 gf_RX7_9 (k_ob_291 cs) (fun _ _ => rfl) (k_r_291_2 cs) ?_
      refine x_iload_n dX7_listen_48 rfl ?_
      refine x_bipush dX7_listen_49 (by decide) ?_
      refine x_imul dX7_listen_51 ?_
      refine x_iload_n dX7_listen_52 rfl ?_
      refine x_iadd dX7_listen_53 ?_
      refine x_iconst dX7_listen_54 ?_
      refine x_iastore dX7_listen_55 (k_ar_292 cs) (by omega) (by omega) ?_
      refine x_iinc (lv2 := [(1, _), (0, _)]) dX7_listen_56 rfl (by decide) rfl ?_
      refine x_goto 38 dX7_listen_59 (by decide) ?_
      refine x_sub [1, 0] rfl ?_
      rw [show ((i : Int) * 6 + (i : Int)).toNat = i * 6 + i by omega]
      refine ih _ (by omega) (i + 1) _ (by omega) rfl (hv.k1 (fun c h1 h2 h3 => uI_row h1)) (hF.u (by omega)) (fun p r hp hr => ?_) (fun p hp => (uI_o (by omega)).trans (hL p hp))
      by_cases e : p = i ∧ r = i
      · obtain ⟨rfl, rfl⟩ := e
        rw [uI_s, if_pos (by omega)]
      · rw [uI_o (by omega), hM p r hp hr]
        by_cases e2 : p = r ∧ p < i
        · rw [if_pos e2, if_pos (by omega)]
        · rw [if_neg e2, if_neg (by omega)]
theorem lp1_X7_listen (cs : CS S R) (hn : 5 ≤ n) (hp : ∀ I', CIv S R I' A tx → Fk I I' → LMt I' A tx (A 0).toNat → LSp I' A (A 0).toNat → Post none S I' R) : ∀ (d i : Nat) (J : CI), i ≤ 6 → 6 - i = d → CIv S R J A tx → Fk I J → (∀ k, k < 36 → J 292 k = 0) → (∀ p : Nat, p < i → J 293 p = (spK A p 0 : Int)) → WP n 0 0 mX7_listen Post 10 [(0, .ref (S.2.1 291)), (1, .int (iI (i : Int)))] [] 0 0 S J R := by
  intro d
  induction d using Nat.strongRecOn with
  | ind d ih =>
    intro i J k1 k2 hv hF hM hL
    refine x_iload_n dX7_listen_10 rfl ?_
    refine x_bipush dX7_listen_11 (by decide) ?_
    refine x_icmp_ge 36 dX7_listen_13 (by decide) ⟨(by omega), (by omega)⟩ (fun w13 => ?_) (fun w13 => ?_)
    · refine x_iconst dX7_listen_36 ?_
      refine x_istore_n (lv2 := [(1, _), (0, _)]) dX7_listen_37 (by decide) rfl ?_
      refine x_sub [1, 0] rfl ?_
      obtain rfl : i = 6 := by omega
      exact lp2_X7_listen cs hn hp _ 0 J (by omega) rfl hv hF (fun p r hp hr => by rw [hM _ (by omega), if_neg (by omega)]) (fun p hp => hL p hp)
    · refine x_aload_n dX7_listen_16 rfl ?_
      refine x_getR (b := 293) dX7_listen_17 gf_RX7_15 (k_ob_291 cs) (fun _ _ => rfl) (k_r_291_3 cs) ?_
      refine x_iload_n dX7_listen_20 rfl ?_
      refine x_bipush dX7_listen_21 (by decide) ?_
      refine x_iconst dX7_listen_23 ?_
      refine x_iload_n dX7_listen_24 rfl ?_
      refine x_ishl dX7_listen_25 ?_
      have hpw := pw5 (k := i) (by omega)
      rw [shl1_n (by omega)]
      refine x_iconst dX7_listen_26 ?_
      refine x_ixor dX7_listen_27 ?_
      refine x_iand dX7_listen_28 ?_
      rw [show ((63 : Int)) = ((63 : Nat) : Int) from rfl, andnot_n (by omega) (by omega)]
      refine x_iastore dX7_listen_29 (k_ar_293 cs) (by omega) (by omega) ?_
      refine x_iinc (lv2 := [(1, _), (0, _)]) dX7_listen_30 rfl (by decide) rfl ?_
      refine x_goto 10 dX7_listen_33 (by decide) ?_
      refine x_sub [1, 0] rfl ?_
      rw [tN]
      refine ih _ (by omega) (i + 1) _ (by omega) rfl (hv.k1 (fun c h1 h2 h3 => uI_row h2)) (hF.u (by omega)) (fun k hk => (uI_o (by omega)).trans (hM k hk)) (fun p hp => ?_)
      by_cases e : p = i
      · subst e; rw [uI_s]; rfl
      · rw [uI_o (by omega)]; exact hL p (by omega)
theorem sp_X7_listen  (cs : CS S R) (hv : CIv S R I A tx) (hn : 5 ≤ n) (hp : ∀ I', CIv S R I' A tx → Fk I I' → LMt I' A tx (A 0).toNat → LSp I' A (A 0).toNat → Post none S I' R) : Call n 0 0 mX7_listen [.ref (S.2.1 291)] S I R Post := by
  refine Call.of (by decide +kernel) (Nat.le_of_ble_eq_true rfl) ?_
  show WP _ _ _ _ _ 0 [(0, _)] [] 0 0 _ _ _
  refine x_aload_n dX7_listen_0 rfl ?_
  refine x_getR (b := 292) dX7_listen_1 gf_RX7_9 (k_ob_291 cs) (fun _ _ => rfl) (k_r_291_2 cs) ?_
  refine x_iconst dX7_listen_4 ?_
  refine x_callS2 (mc1 := 0) (ms1 := 0) dX7_listen_5 cv_RX7_70 (Nat.le_of_ble_eq_true rfl) (n1 := n - 1) (by omega) (by omega) (by omega) ?_
  refine sp_fill (k_ar_292 cs) (by omega) (fun I5 h5 h5o => ?_)
  refine x_iconst dX7_listen_8 ?_
  refine x_istore_n (lv2 := [(1, _), (0, _)]) dX7_listen_9 (by decide) rfl ?_
  refine x_sub [1, 0] rfl ?_
  exact lp1_X7_listen cs hn hp _ 0 I5 (by omega) rfl (hv.k1 (fun c h1 _ _ => h5o c h1)) (fun c _ _ h3 _ _ => h5o c h3) h5 (fun p hp => by omega)
end Talk1
