section Ref26
variable {n mc ms : Nat} {M : Md} {pc : Nat} {lv : List (Nat × Value)} {st : List Value} {k j : Nat} {Post : PT} {S : Sh} {I : CI} {R : CR} {A : Nat → Int} {tx : Nat → Nat → Int}
def cB (f : Nat → Bool) : Nat → Nat
  | 0 => 0
  | b + 1 => cB f b + (f b).toNat
theorem cB_or {f g : Nat → Bool} : ∀ k : Nat, cB (fun b => f b || g b) k ≤ cB f k + cB g k := by
  intro k
  induction k with
  | zero => simp [cB]
  | succ k ih =>
    simp only [cB]
    have : (f k || g k).toNat ≤ (f k).toNat + (g k).toNat := by cases f k <;> cases g k <;> simp
    omega
theorem cB_mono {f g : Nat → Bool} : ∀ k : Nat, (∀ b, b < k → f b = true → g b = true) → cB f k ≤ cB g k := by
  intro k
  induction k with
  | zero => intro _; simp [cB]
  | succ k ih =>
    intro h
    have h1 := ih (fun b hb => h b (by omega))
    have h2 := h k (by omega)
    simp only [cB]
    have : (f k).toNat ≤ (g k).toNat := by
      cases hf : f k
      · simp
      · rw [h2 hf]; simp
    omega
/-- the fifteen pairs -/
def pr1 (b : Nat) : Nat := [0, 0, 0, 0, 0, 1, 1, 1, 1, 2, 2, 2, 3, 3, 4].getD b 0
def pr2 (b : Nat) : Nat := [1, 2, 3, 4, 5, 2, 3, 4, 5, 3, 4, 5, 4, 5, 5].getD b 0
def mtP (x y b : Nat) : Bool := (x == pr1 b && y == pr2 b) || (x == pr2 b && y == pr1 b)
def xrP (T b : Nat) : Bool := T.testBit (pr1 b) != T.testBit (pr2 b)
theorem mt_1 {x y : Nat} (hx : x < 6) (hy : y < 6) : cB (mtP x y) 15 ≤ 1 := by
  have h : ∀ x y : Fin 6, cB (mtP x.val y.val) 15 ≤ 1 := by decide +kernel
  exact h ⟨x, hx⟩ ⟨y, hy⟩
theorem xr_9 {s t : Nat} (hs : s < 64) (ht : t < 64) (h0 : s.testBit 0 = true) (hst : s ||| t = t) (hne : s ≠ t) (h63 : t ≠ 63) : 9 ≤ cB (fun b => xrP s b || xrP t b) 15 := by
  have h : ∀ s t : Fin 64, s.val.testBit 0 = true → s.val ||| t.val = t.val → s.val ≠ t.val → t.val ≠ 63 → 9 ≤ cB (fun b => xrP s.val b || xrP t.val b) 15 := by decide +kernel
  exact h ⟨s, hs⟩ ⟨t, ht⟩ h0 hst hne h63
theorem pr_b {b : Nat} (h : b < 15) : pr1 b < 6 ∧ pr2 b < 6 ∧ pr1 b ≠ pr2 b := by
  have h2 : ∀ b : Fin 15, pr1 b.val < 6 ∧ pr2 b.val < 6 ∧ pr1 b.val ≠ pr2 b.val := by decide +kernel
  exact h2 ⟨b, h⟩
def cvB (A : Nat → Int) : Nat → Nat → Bool
  | 0, _ => false
  | k + 1, b => cvB A k b || mtP (A (36 + 2 * k)).toNat (A (37 + 2 * k)).toNat b
theorem cv_le (hN : BN A) : ∀ k : Nat, k ≤ 8 → cB (cvB A k) 15 ≤ k := by
  intro k
  induction k with
  | zero => intro _; exact Nat.le_of_eq rfl
  | succ k ih =>
    intro hk
    have h1 := ih (by omega)
    have hq := hN.2.2.2.2.2.2.2 k (by omega)
    have h2 := mt_1 (x := (A (36 + 2 * k)).toNat) (y := (A (37 + 2 * k)).toNat) (by omega) (by omega)
    have h3 := cB_or (f := cvB A k) (g := mtP (A (36 + 2 * k)).toNat (A (37 + 2 * k)).toNat) 15
    have e : cvB A (k + 1) = fun b => cvB A k b || mtP (A (36 + 2 * k)).toNat (A (37 + 2 * k)).toNat b := rfl
    rw [e]
    omega
/-- a pair that costs has a quarrel -/
theorem cst_q (hN : BN A) {i j : Nat} (hij : i ≠ j) : ∀ k : Nat, k ≤ 8 → cstK A tx i j k ≠ 0 → ∃ q, q < k ∧ ofTwo A q i j := by
  intro k
  induction k with
  | zero => intro _ h; exact absurd (if_neg hij) h
  | succ k ih =>
    intro hk h
    by_cases hq : ofTwo A k i j
    · exact ⟨k, by omega, hq⟩
    · have e : cstK A tx i j (k + 1) = cstK A tx i j k := if_neg (fun hh => hq hh.2)
      rw [e] at h
      obtain ⟨q, h1, h2⟩ := ih (by omega) h
      exact ⟨q, by omega, h2⟩
theorem cv_of (hN : BN A) {b : Nat} (hb : b < 15) : ∀ k q : Nat, k ≤ 8 → q < k → (ofTwo A q (pr1 b) (pr2 b) ∨ ofTwo A q (pr2 b) (pr1 b)) → cvB A k b = true := by
  intro k
  induction k with
  | zero => intro q _ h; omega
  | succ k ih =>
    intro q hk hq h
    show (cvB A k b || mtP _ _ b) = true
    by_cases e : q = k
    · subst e
      have hqq := hN.2.2.2.2.2.2.2 q (by omega)
      have hm : mtP (A (36 + 2 * q)).toNat (A (37 + 2 * q)).toNat b = true := by
        unfold mtP
        rcases h with (h | h) | (h | h)
        · have e1 : (A (36 + 2 * q)).toNat = pr1 b := by omega
          have e2 : (A (37 + 2 * q)).toNat = pr2 b := by omega
          rw [e1, e2]; simp
        · have e1 : (A (36 + 2 * q)).toNat = pr2 b := by omega
          have e2 : (A (37 + 2 * q)).toNat = pr1 b := by omega
          rw [e1, e2]; simp
        · have e1 : (A (36 + 2 * q)).toNat = pr2 b := by omega
          have e2 : (A (37 + 2 * q)).toNat = pr1 b := by omega
          rw [e1, e2]; simp
        · have e1 : (A (36 + 2 * q)).toNat = pr1 b := by omega
          have e2 : (A (37 + 2 * q)).toNat = pr2 b := by omega
          rw [e1, e2]; simp
      rw [hm]; simp
    · rw [ih q (by omega) (by omega) h]; rfl
/-- no way out of a set that costs nothing -/
def ZC (c : Nat → Nat → Int) (T : Nat) : Prop := ∀ i j, i < 6 → j < 6 → T.testBit i = true → T.testBit j = false → c i j ≠ 0
theorem zc_x (hN : BN A) {s b : Nat} (hb : b < 15) (hz : ZC (cstA A tx) s) (hx : xrP s b = true) : cvB A (A 0).toNat b = true := by
  have b0 := hN.1
  obtain ⟨p1, p2, p3⟩ := pr_b hb
  unfold xrP at hx
  cases h1 : s.testBit (pr1 b)
  · cases h2 : s.testBit (pr2 b)
    · rw [h1, h2] at hx; exact absurd hx (by decide)
    · obtain ⟨q, hq1, hq2⟩ := cst_q (tx := tx) hN (Ne.symm p3) (A 0).toNat (by omega) (hz _ _ p2 p1 h2 h1)
      exact cv_of hN hb _ q (by omega) hq1 (Or.inr hq2)
  · cases h2 : s.testBit (pr2 b)
    · obtain ⟨q, hq1, hq2⟩ := cst_q (tx := tx) hN p3 (A 0).toNat (by omega) (hz _ _ p1 p2 h1 h2)
      exact cv_of hN hb _ q (by omega) hq1 (Or.inl hq2)
    · rw [h1, h2] at hx; exact absurd hx (by decide)
theorem zc_two (hN : BN A) {s t : Nat} (hs : s < 64) (ht : t < 64) (h0 : s.testBit 0 = true) (hst : Sub s t) (hne : s ≠ t) (h63 : t ≠ 63) (z1 : ZC (cstA A tx) s) (z2 : ZC (cstA A tx) t) : False := by
  have b0 := hN.1
  have h9 := xr_9 hs ht h0 (sub_or hst) hne h63
  have hm := cB_mono (f := fun b => xrP s b || xrP t b) (g := cvB A (A 0).toNat) 15 (fun b hb hx => by
    cases h1 : xrP s b
    · rw [h1] at hx
      exact zc_x hN hb z2 (by simpa using hx)
    · exact zc_x hN hb z1 h1)
  have hl := cv_le hN (A 0).toNat (by omega)
  omega
/-- with whom it costs nothing -/
def zsK (c : Nat → Nat → Int) (i : Nat) : Nat → Nat
  | 0 => 0
  | k + 1 => if c i k = 0 then zsK c i k ||| 2 ^ k else zsK c i k
theorem zsK_t {c : Nat → Nat → Int} {i b : Nat} : ∀ k : Nat, (zsK c i k).testBit b = true ↔ (b < k ∧ c i b = 0) := by
  intro k
  induction k with
  | zero => simp [zsK]
  | succ k ih =>
    simp only [zsK]
    by_cases h : c i k = 0
    · rw [if_pos h, Nat.testBit_or, Nat.testBit_two_pow]
      constructor
      · intro hh
        by_cases e : k = b
        · subst e; exact ⟨by omega, h⟩
        · have h2 : (zsK c i k).testBit b = true := by simpa [e] using hh
          have := ih.mp h2
          exact ⟨by omega, this.2⟩
      · intro hh
        by_cases e : k = b
        · subst e; simp
        · rw [ih.mpr ⟨by omega, hh.2⟩]; simp
    · rw [if_neg h, ih]
      constructor
      · intro hh; exact ⟨by omega, hh.2⟩
      · intro hh
        have : b ≠ k := fun e => h (by rw [← e]; exact hh.2)
        exact ⟨by omega, hh.2⟩
theorem zsK_lt {c : Nat → Nat → Int} {i : Nat} : ∀ k : Nat, zsK c i k < 2 ^ k := by
  intro k
  induction k with
  | zero => exact Nat.one_pos
  | succ k ih =>
    simp only [zsK]
    split
    · exact orb_lt ih
    · exact Nat.lt_trans ih (Nat.pow_lt_pow_right (by decide) (by omega))
def Z0 (c : Nat → Nat → Int) : Nat := rch (fun i => zsK c i 6) 63 0
theorem Z0_s {c : Nat → Nat → Int} : Z0 c < 64 ∧ (Z0 c).testBit 0 = true ∧ ZC c (Z0 c) ∧ ∀ D, D.testBit 0 = true → ZC c D → Sub (Z0 c) D := by
  have h63 : ∀ x : Fin 6, (63 : Nat).testBit x.val = true := by decide
  have hs : ∀ i, i < 6 → (fun i => zsK c i 6) i < 64 := fun i _ => zsK_lt 6
  refine ⟨rch_lt hs (by decide), rch_p, fun i j hi hj h1 h2 h3 => ?_, fun D hD hz => rch_min hs hD (fun i j hi hj h1 h2 => ?_)⟩
  · have := rch_cl (am := 63) hs (p := 0) (by decide) i j hi hj h1 ⟨(zsK_t 6).mpr ⟨hj, h3⟩, h63 ⟨j, hj⟩⟩
    rw [show (rch (fun i => zsK c i 6) 63 0).testBit j = false from h2] at this
    exact absurd this (by decide)
  · cases h3 : D.testBit j
    · exact absurd ((zsK_t 6).mp h2.1).2 (hz i j hi hj h1 h3)
    · rfl
def StpA (c : Nat → Nat → Int) (T : Nat) (w : Int) (r : Nat) : Prop := r < 6 ∧ T.testBit r = false ∧ (∃ p, p < 6 ∧ T.testBit p = true ∧ c p r = w) ∧ w ≠ -1 ∧ ∀ i j, i < 6 → j < 6 → T.testBit i = true → T.testBit j = false → c i j = -1 ∨ w ≤ c i j
def NoC (c : Nat → Nat → Int) (T : Nat) : Prop := ∀ i j, i < 6 → j < 6 → T.testBit i = true → T.testBit j = false → c i j = -1
def AnsA (c : Nat → Nat → Int) (x : Int) : Prop := (Z0 c = 63 ∧ x = 0) ∨ (Z0 c ≠ 63 ∧ NoC c (Z0 c) ∧ x = -1) ∨ (Z0 c ≠ 63 ∧ ∃ r, StpA c (Z0 c) x r)
theorem Stp_u {c : Nat → Nat → Int} {T r r' : Nat} {w w' : Int} (h : StpA c T w r) (h' : StpA c T w' r') : w = w' := by
  obtain ⟨a1, a2, ⟨p, a3, a4, a5⟩, a6, a7⟩ := h
  obtain ⟨b1, b2, ⟨p', b3, b4, b5⟩, b6, b7⟩ := h'
  have h1 := a7 p' r' b3 b1 b4 b2
  have h2 := b7 p r a3 a1 a4 a2
  omega
theorem Stp_n {c : Nat → Nat → Int} {T r : Nat} {w : Int} (h : StpA c T w r) (h' : NoC c T) : False := by
  obtain ⟨a1, a2, ⟨p, a3, a4, a5⟩, a6, a7⟩ := h
  have := h' p r a3 a1 a4 a2
  omega
theorem Ans_u {c : Nat → Nat → Int} {x y : Int} (h : AnsA c x) (h' : AnsA c y) : x = y := by
  rcases h with h | h | ⟨h, r, hr⟩ <;> rcases h' with h' | h' | ⟨h', r', hr'⟩
  · omega
  · exact absurd h.1 h'.1
  · exact absurd h.1 h'
  · exact absurd h'.1 h.1
  · omega
  · exact (Stp_n hr' h.2.1).elim
  · exact absurd h'.1 h
  · exact (Stp_n hr h'.2.1).elim
  · exact Stp_u hr hr'
def InvA (c : Nat → Nat → Int) (k T : Nat) (s : Int) : Prop := T < 64 ∧ T.testBit 0 = true ∧ bcN T = k + 1 ∧ ((Sub T (Z0 c) ∧ s = 0) ∨ (Sub (Z0 c) T ∧ T ≠ Z0 c ∧ ∃ r, StpA c (Z0 c) s r))
theorem bc_or6 {T r : Nat} (hT : T < 64) (hr : r < 6) (h : T.testBit r = false) : bcN (T ||| 2 ^ r) = bcN T + 1 ∧ T ||| 2 ^ r < 64 := by
  have h0 : ∀ T : Fin 64, ∀ r : Fin 6, T.val.testBit r.val = false → bcN (T.val ||| 2 ^ r.val) = bcN T.val + 1 := by decide +kernel
  exact ⟨h0 ⟨T, hT⟩ ⟨r, hr⟩ h, or_lt64 hT hr⟩
theorem bc_63 {T : Nat} (hT : T < 64) : bcN T = 6 ↔ T = 63 := by
  have h0 : ∀ T : Fin 64, bcN T.val = 6 ↔ T.val = 63 := by decide +kernel
  exact h0 ⟨T, hT⟩
theorem Inv_0 {c : Nat → Nat → Int} : InvA c 0 1 0 := by
  refine ⟨by decide, by decide, by decide, Or.inl ⟨fun b hb => ?_, rfl⟩⟩
  have e : b = 0 := by
    by_cases e : b = 0
    · exact e
    · have : (2 ^ 0).testBit b = true := hb
      rw [Nat.testBit_two_pow] at this
      exact absurd (by simpa using this) (Ne.symm e)
  rw [e]; exact Z0_s.2.1
theorem Inv_s (hN : BN A) {k T r : Nat} {s w : Int} (hc : ∀ p r, -1 ≤ cstA A tx p r ∧ cstA A tx p r ≤ 79992) (hk : k < 5) (h : InvA (cstA A tx) k T s) (hs : StpA (cstA A tx) T w r) : InvA (cstA A tx) (k + 1) (T ||| 2 ^ r) (s + w) := by
  obtain ⟨i1, i2, i3, i4⟩ := h
  obtain ⟨z1, z2, z3, z4⟩ := Z0_s (c := cstA A tx)
  obtain ⟨a1, a2, ⟨p, a3, a4, a5⟩, a6, a7⟩ := id hs
  obtain ⟨e1, e2⟩ := bc_or6 i1 a1 a2
  have hcp := hc p r
  have hT63 : T ≠ 63 := fun e => by have := (bc_63 i1).mpr e; omega
  have hbits : ∀ b, (T ||| 2 ^ r).testBit b = (T.testBit b || decide (r = b)) := fun b => by rw [Nat.testBit_or, Nat.testBit_two_pow]
  refine ⟨e2, by rw [hbits, i2]; rfl, by omega, ?_⟩
  -- a step that costs leaves a set with no way out that costs nothing
  have hzc : w ≠ 0 → ZC (cstA A tx) T := fun hw i j hi hj h1 h2 h3 => by
    have := a7 i j hi hj h1 h2
    omega
  rcases i4 with ⟨j1, j2⟩ | ⟨j1, j2, r0, j3⟩
  · by_cases hw : w = 0
    · left
      refine ⟨fun b hb => ?_, by omega⟩
      rw [hbits] at hb
      by_cases e : r = b
      · subst e
        cases h3 : (Z0 (cstA A tx)).testBit r
        · exact absurd (by omega) (z3 p r a3 a1 (j1 p a4) h3)
        · rfl
      · exact j1 b (by simpa [e] using hb)
    · have hZT := z4 T i2 (hzc hw)
      have eT : T = Z0 (cstA A tx) := sub_eq j1 hZT
      right
      rw [← eT]
      refine ⟨fun b hb => by rw [hbits, hb]; rfl, fun e => ?_, r, ?_⟩
      · have h4 : (T ||| 2 ^ r).testBit r = true := by rw [hbits]; simp
        rw [e, a2] at h4
        exact absurd h4 (by decide)
      · rw [j2, Int.zero_add]; exact hs
  · have hw : w = 0 := by
      by_cases hw : w = 0
      · exact hw
      · exact (zc_two hN z1 i1 z2 j1 (Ne.symm j2) hT63 z3 (hzc hw)).elim
    right
    refine ⟨fun b hb => by rw [hbits, j1 b hb]; rfl, fun e => ?_, r0, by rw [hw, Int.add_zero]; exact j3⟩
    have h4 : (T ||| 2 ^ r).testBit r = true := by rw [hbits]; simp
    rw [e] at h4
    have := j1 r h4
    rw [a2] at this
    exact absurd this (by decide)
theorem Inv_n (hN : BN A) {k T : Nat} {s : Int} (hk : k < 5) (h : InvA (cstA A tx) k T s) (hn : NoC (cstA A tx) T) : AnsA (cstA A tx) (-1) := by
  obtain ⟨i1, i2, i3, i4⟩ := h
  obtain ⟨z1, z2, z3, z4⟩ := Z0_s (c := cstA A tx)
  have hT63 : T ≠ 63 := fun e => by have := (bc_63 i1).mpr e; omega
  have hzc : ZC (cstA A tx) T := fun i j hi hj h1 h2 h3 => by have := hn i j hi hj h1 h2; omega
  have hZT := z4 T i2 hzc
  rcases i4 with ⟨j1, j2⟩ | ⟨j1, j2, r0, j3⟩
  · have eT : T = Z0 (cstA A tx) := sub_eq j1 hZT
    exact Or.inr (Or.inl ⟨by rw [← eT]; exact hT63, by rw [← eT]; exact hn, rfl⟩)
  · exact (zc_two hN z1 i1 z2 j1 (Ne.symm j2) hT63 z3 hzc).elim
theorem Inv_e {c : Nat → Nat → Int} {T : Nat} {s : Int} (h : InvA c 5 T s) : AnsA c s := by
  obtain ⟨i1, i2, i3, i4⟩ := h
  obtain ⟨z1, z2, z3, z4⟩ := Z0_s (c := c)
  have e := (bc_63 i1).mp i3
  rcases i4 with ⟨j1, j2⟩ | ⟨j1, j2, r0, j3⟩
  · have h1 := sub_le j1
    exact Or.inl ⟨by omega, j2⟩
  · exact Or.inr (Or.inr ⟨fun e2 => j2 (by omega), r0, j3⟩)
/-- the class's sums -/
theorem cj_s {c : Nat → Nat → Int} {j p : Nat} (hc : ∀ p r, -1 ≤ c p r ∧ c p r ≤ 79992) : ∀ i : Nat, (∀ x, x < i → j.testBit x = true → c x p ≠ -1 → cjK c j p i ≤ c x p) ∧ ((cjK c j p i = 10000000 ∧ ∀ x, x < i → j.testBit x = true → c x p = -1) ∨ ∃ x, x < i ∧ j.testBit x = true ∧ c x p ≠ -1 ∧ cjK c j p i = c x p) := by
  intro i
  induction i with
  | zero => exact ⟨fun x h => by omega, Or.inl ⟨rfl, fun x h => by omega⟩⟩
  | succ i ih =>
    obtain ⟨h1, h2⟩ := ih
    have hci := hc i p
    simp only [cjK]
    by_cases h : j.testBit i = true ∧ c i p ≠ -1
    · rw [if_pos h]
      refine ⟨fun x hx hb hne => ?_, ?_⟩
      · by_cases e : x = i
        · rw [e]; split <;> omega
        · have := h1 x (by omega) hb hne
          split <;> omega
      · right
        by_cases hle : cjK c j p i ≤ c i p
        · rw [if_pos hle]
          rcases h2 with h2 | ⟨x, x1, x2, x3, x4⟩
          · omega
          · exact ⟨x, by omega, x2, x3, x4⟩
        · rw [if_neg hle]
          exact ⟨i, by omega, h.1, h.2, rfl⟩
    · rw [if_neg h]
      refine ⟨fun x hx hb hne => ?_, ?_⟩
      · by_cases e : x = i
        · subst e; exact absurd ⟨hb, hne⟩ h
        · exact h1 x (by omega) hb hne
      · rcases h2 with h2 | ⟨x, x1, x2, x3, x4⟩
        · left
          refine ⟨h2.1, fun x hx hb => ?_⟩
          by_cases e : x = i
          · subst e
            by_cases e2 : c x p = -1
            · exact e2
            · exact absurd ⟨hb, e2⟩ h
          · exact h2.2 x (by omega) hb
        · exact Or.inr ⟨x, by omega, x2, x3, x4⟩
theorem co_s {c : Nat → Nat → Int} {j : Nat} (hc : ∀ p r, -1 ≤ c p r ∧ c p r ≤ 79992) : ∀ p : Nat, (∀ x, x < p → j.testBit x = false → (coK c j p).2 ≤ cjK c j x 6) ∧ (((coK c j p).1 = -1 ∧ (coK c j p).2 = 10000000) ∨ (0 ≤ (coK c j p).1 ∧ (coK c j p).1 < p ∧ j.testBit (coK c j p).1.toNat = false ∧ (coK c j p).2 = cjK c j (coK c j p).1.toNat 6 ∧ (coK c j p).2 < 10000000)) := by
  intro p
  induction p with
  | zero => exact ⟨fun x h => by omega, Or.inl ⟨rfl, rfl⟩⟩
  | succ p ih =>
    obtain ⟨h1, h2⟩ := ih
    simp only [coK]
    by_cases h : j.testBit p = false ∧ cjK c j p 6 < (coK c j p).2
    · rw [if_pos h]
      refine ⟨fun x hx hb => ?_, Or.inr ⟨by dsimp only; omega, by dsimp only; omega, ?_, ?_, ?_⟩⟩
      · dsimp only
        by_cases e : x = p
        · rw [e]; exact Int.le_refl _
        · have := h1 x (by omega) hb; omega
      · dsimp only; rw [tN]; exact h.1
      · dsimp only; rw [tN]
      · dsimp only; rcases h2 with h2 | h2 <;> omega
    · rw [if_neg h]
      refine ⟨fun x hx hb => ?_, ?_⟩
      · by_cases e : x = p
        · rw [e]
          by_cases hlt : cjK c j p 6 < (coK c j p).2
          · exact absurd ⟨by rw [← e]; exact hb, hlt⟩ h
          · omega
        · exact h1 x (by omega) hb
      · rcases h2 with h2 | h2
        · exact Or.inl h2
        · exact Or.inr ⟨h2.1, by omega, h2.2.2⟩
theorem all_ans (hN : BN A) (hc : ∀ p r, -1 ≤ cstA A tx p r ∧ cstA A tx p r ≤ 79992) : AnsA (cstA A tx) (allP (cstA A tx)) := by
  have step : ∀ k, k < 5 → InvA (cstA A tx) k (caK (cstA A tx) k).1 (caK (cstA A tx) k).2 → ((coK (cstA A tx) (caK (cstA A tx) k).1 6).1 = -1 ∧ AnsA (cstA A tx) (-1)) ∨ ((coK (cstA A tx) (caK (cstA A tx) k).1 6).1 ≠ -1 ∧ InvA (cstA A tx) (k + 1) (caK (cstA A tx) (k + 1)).1 (caK (cstA A tx) (k + 1)).2) := by
    intro k hk hI
    obtain ⟨h1, h2⟩ := co_s (c := cstA A tx) (j := (caK (cstA A tx) k).1) hc 6
    rcases h2 with h2 | h2
    · left
      refine ⟨h2.1, Inv_n hN hk hI (fun i j hi hj b1 b2 => ?_)⟩
      have h3 := h1 j (by omega) b2
      have h4 := (cj_s (c := cstA A tx) (j := (caK (cstA A tx) k).1) (p := j) hc 6).1 i hi b1
      have h5 := hc i j
      by_cases e : cstA A tx i j = -1
      · exact e
      · have := h4 e; omega
    · right
      refine ⟨by omega, ?_⟩
      obtain ⟨c1, c2⟩ := cj_s (c := cstA A tx) (j := (caK (cstA A tx) k).1) (p := (coK (cstA A tx) (caK (cstA A tx) k).1 6).1.toNat) hc 6
      have hst : StpA (cstA A tx) (caK (cstA A tx) k).1 (cjK (cstA A tx) (caK (cstA A tx) k).1 (coK (cstA A tx) (caK (cstA A tx) k).1 6).1.toNat 6) (coK (cstA A tx) (caK (cstA A tx) k).1 6).1.toNat := by
        refine ⟨by omega, h2.2.2.1, ?_, ?_, fun i j hi hj b1 b2 => ?_⟩
        · rcases c2 with c2 | ⟨x, x1, x2, x3, x4⟩
          · omega
          · exact ⟨x, x1, x2, x4.symm⟩
        · rcases c2 with c2 | ⟨x, x1, x2, x3, x4⟩ <;> omega
        · have h3 := h1 j (by omega) b2
          have h4 := (cj_s (c := cstA A tx) (j := (caK (cstA A tx) k).1) (p := j) hc 6).1 i hi b1
          by_cases e : cstA A tx i j = -1
          · exact Or.inl e
          · have := h4 e; right; omega
      exact Inv_s hN hc hk hI hst
  have run : ∀ k, k ≤ 5 → (caP (cstA A tx) k ∧ InvA (cstA A tx) k (caK (cstA A tx) k).1 (caK (cstA A tx) k).2) ∨ (¬ caP (cstA A tx) k ∧ AnsA (cstA A tx) (-1)) := by
    intro k
    induction k with
    | zero => intro _; exact Or.inl ⟨trivial, Inv_0⟩
    | succ k ih =>
      intro hk
      rcases ih (by omega) with ⟨h1, h2⟩ | ⟨h1, h2⟩
      · rcases step k (by omega) h2 with ⟨g1, g2⟩ | ⟨g1, g2⟩
        · exact Or.inr ⟨fun h => h.2 g1, g2⟩
        · exact Or.inl ⟨⟨h1, g1⟩, g2⟩
      · exact Or.inr ⟨fun h => h1 h.1, h2⟩
  unfold allP
  rcases run 5 (by omega) with ⟨h1, h2⟩ | ⟨h1, h2⟩
  · rw [@if_pos _ (Classical.propDecidable _) h1]; exact Inv_e h2
  · rw [@if_neg _ (Classical.propDecidable _) h1]; exact h2
end Ref26
