section BAs
variable {A : Nat → Int}
theorem BA_now {A B : Nat → Int} (hb : BA A) (h0 : ∀ i : Nat, i < 7 ∨ (36 ≤ i ∧ i < 2815) → B i = A i) (h1 : ∀ i : Nat, (i : Int) < A 11 → B (2815 + i) = A (2815 + i) ∧ B (2845 + i) = A (2845 + i)) (hs : BS B 0 6) (h11 : A 11 ≤ B 11) : BA B := by
  obtain ⟨bs, ⟨d1, d2, d3, d4, d5, d6, d7⟩, dq, dh, db, ds, dd, dp⟩ := hb
  refine ⟨hs, ⟨?_, ?_, ?_, ?_, ?_, ?_, ?_⟩, fun q hq => ?_, fun i hj => ?_, fun i hj => ?_, fun i hj => ?_, fun i hj => ?_, fun j hj => ?_⟩
  · rw [h0 1 (by omega)]; exact d1
  · rw [h0 2 (by omega), h0 1 (by omega)]; exact d2
  · rw [h0 3 (by omega)]; exact d3
  · rw [h0 4 (by omega)]; exact d4
  · rw [h0 5 (by omega)]; exact d5
  · rw [h0 6 (by omega)]; exact d6
  · rw [h0 114 (by omega)]; exact d7
  · rw [h0 _ (by omega), h0 (37 + 2 * q) (by omega), h0 (52 + q) (by omega), h0 (60 + q) (by omega), h0 0 (by omega)]; exact dq q hq
  · rw [h0 _ (by omega)]; exact dh i hj
  · rw [h0 _ (by omega), h0 (75 + 2 * i) (by omega)]; exact db i hj
  · rw [h0 6 (by omega)] at hj
    rw [h0 _ (by omega), h0 (95 + 2 * i) (by omega), h0 0 (by omega)]; exact ds i hj
  · rw [h0 _ (by omega)]; exact dd i hj
  · rw [h0 3 (by omega)] at hj
    obtain ⟨p1, p2, p3, p4, p5⟩ := dp j hj
    have hj30 : j < 30 := by omega
    have l16 : A (120 + 90 * j) ≤ 16 := by
      have e : A (115 + 90 * j + 5) = _ := p1.2.2.2.2.2.2
      have e2 := lns_b (fun q => A (115 + 90 * j + 6 + 3 * q)) (A (115 + 90 * j)).toNat
      have e3 := p1.1
      rw [show 115 + 90 * j + 5 = 120 + 90 * j by omega] at e
      omega
    refine ⟨BS_of p1 (h0 _ (by omega)) (fun d e1 e2 => h0 _ (by omega)), by rw [h0 _ (by omega), h0 0 (by omega)]; exact p2, by rw [h0 _ (by omega)]; omega, fun i hi => ?_, fun k k1 k2 => ?_⟩
    · rw [h0 (120 + 90 * j) (by omega)] at hi
      have hq := p4 i hi
      have hr := h1 i (by omega)
      rw [h0 _ (by omega), h0 (175 + 90 * j + i) (by omega), hr.1, hr.2]
      exact hq
    · rw [h0 3 (by omega)] at k2
      rw [h0 (120 + 90 * j) (by omega), h0 (120 + 90 * k) (by omega)]
      exact p5 k k1 k2
theorem lns_up {f : Nat → Int} {q : Nat} {v : Int} : ∀ {n : Nat}, q < n → lns (fun i => if i = q then v else f i) n = lns f n - lnf (f q) + lnf v := by
  intro n
  induction n with
  | zero => intro h; omega
  | succ n ih =>
    intro h
    simp only [lns]
    by_cases e : n = q
    · subst e
      rw [if_pos rfl, lns_congr (g := f) (fun i hi => if_neg (by omega))]
      omega
    · rw [if_neg e, ih (by omega)]; omega
/-- how one quarrel is changes: the lines' sum -/
theorem lns_how {A B : Nat → Int} {q : Nat} {v : Int} (hq : (q : Int) < A 0) (h : ∀ i, i < 8 → B (6 + 6 + 3 * i) = if i = q then v else A (6 + 6 + 3 * i)) (h8 : 0 ≤ A 0 ∧ A 0 ≤ 8) : lns (fun i => B (6 + 6 + 3 * i)) (A 0).toNat = lns (fun i => A (6 + 6 + 3 * i)) (A 0).toNat - lnf (A (6 + 6 + 3 * q)) + lnf v := by
  rw [← lns_up (f := fun i => A (6 + 6 + 3 * i)) (q := q) (v := v) (by omega)]
  exact lns_congr (fun i hi => h i (by omega))
theorem BA_x (hb : BA A) {v : Int} (hv : 0 ≤ v ∧ v ≤ 30870) : BA (upA A 8 v) := by
  refine BA_now hb (fun i h => upA_o (by omega)) (fun i h => ⟨upA_o (by omega), upA_o (by omega)⟩) ?_ (by rw [upA_o (by omega)]; exact Int.le_refl _)
  obtain ⟨s0, s1, s2, s3, s4, sq, sl⟩ := hb.1
  refine ⟨by rw [upA_o (by omega)]; exact s0, by rw [upA_o (by omega)]; exact s1, by rw [show 6 + 2 = 8 by rfl, upA_s]; exact hv, by rw [upA_o (by omega)]; exact s3, by rw [upA_o (by omega)]; exact s4, fun q hq => by rw [upA_o (by omega), upA_o (by omega), upA_o (by omega), upA_o (by omega)]; exact sq q hq, ?_⟩
  rw [upA_o (by omega), upA_o (by omega), sl]
  exact lns_congr (fun i hi => (upA_o (by omega)).symm)
theorem BA_rain (hb : BA A) {v : Int} (hv : 0 ≤ v ∧ v ≤ 1) : BA (upA A 10 v) := by
  refine BA_now hb (fun i h => upA_o (by omega)) (fun i h => ⟨upA_o (by omega), upA_o (by omega)⟩) ?_ (by rw [upA_o (by omega)]; exact Int.le_refl _)
  obtain ⟨s0, s1, s2, s3, s4, sq, sl⟩ := hb.1
  refine ⟨by rw [upA_o (by omega)]; exact s0, by rw [upA_o (by omega)]; exact s1, by rw [upA_o (by omega)]; exact s2, by rw [upA_o (by omega)]; exact s3, by rw [show 6 + 4 = 10 by rfl, upA_s]; exact hv, fun q hq => by rw [upA_o (by omega), upA_o (by omega), upA_o (by omega), upA_o (by omega)]; exact sq q hq, ?_⟩
  rw [upA_o (by omega), upA_o (by omega), sl]
  exact lns_congr (fun i hi => (upA_o (by omega)).symm)
theorem BA_purse (hb : BA A) {v : Int} (hv : 0 ≤ v ∧ v ≤ 9999) : BA (upA A 9 v) := by
  refine BA_now hb (fun i h => upA_o (by omega)) (fun i h => ⟨upA_o (by omega), upA_o (by omega)⟩) ?_ (by rw [upA_o (by omega)]; exact Int.le_refl _)
  obtain ⟨s0, s1, s2, s3, s4, sq, sl⟩ := hb.1
  refine ⟨by rw [upA_o (by omega)]; exact s0, by rw [upA_o (by omega)]; exact s1, by rw [upA_o (by omega)]; exact s2, by rw [show 6 + 3 = 9 by rfl, upA_s]; exact hv, by rw [upA_o (by omega)]; exact s4, fun q hq => by rw [upA_o (by omega), upA_o (by omega), upA_o (by omega), upA_o (by omega)]; exact sq q hq, ?_⟩
  rw [upA_o (by omega), upA_o (by omega), sl]
  exact lns_congr (fun i hi => (upA_o (by omega)).symm)
theorem BA_day (hb : BA A) {v : Int} (hv : A 7 ≤ v ∧ v ≤ 9999) : BA (upA A 7 v) := by
  refine BA_now hb (fun i h => upA_o (by omega)) (fun i h => ⟨upA_o (by omega), upA_o (by omega)⟩) ?_ (by rw [upA_o (by omega)]; exact Int.le_refl _)
  obtain ⟨s0, s1, s2, s3, s4, sq, sl⟩ := hb.1
  have s1' : 0 ≤ A 7 ∧ A 7 ≤ 9999 := s1
  refine ⟨by rw [upA_o (by omega)]; exact s0, by rw [show 6 + 1 = 7 by rfl, upA_s]; omega, by rw [upA_o (by omega)]; exact s2, by rw [upA_o (by omega)]; exact s3, by rw [upA_o (by omega)]; exact s4, fun q hq => ?_, ?_⟩
  · rw [upA_o (show 6 + 6 + 3 * q ≠ 7 by omega), upA_o (show 6 + 7 + 3 * q ≠ 7 by omega), upA_o (show 6 + 8 + 3 * q ≠ 7 by omega), show 6 + 1 = 7 by rfl, upA_s]
    have h := sq q hq
    rw [show 6 + 1 = 7 by rfl] at h
    omega
  · rw [upA_o (by omega), upA_o (by omega), sl]
    exact lns_congr (fun i hi => (upA_o (by omega)).symm)
theorem BA_heat (hb : BA A) {q : Nat} {v : Int} (hq : q < 8) (hv : 0 ≤ v ∧ v ≤ 9) : BA (upA A (14 + 3 * q) v) := by
  refine BA_now hb (fun i h => upA_o (by omega)) (fun i h => ⟨upA_o (by omega), upA_o (by omega)⟩) ?_ (by rw [upA_o (by omega)]; exact Int.le_refl _)
  obtain ⟨s0, s1, s2, s3, s4, sq, sl⟩ := hb.1
  refine ⟨by rw [upA_o (by omega)]; exact s0, by rw [upA_o (by omega)]; exact s1, by rw [upA_o (by omega)]; exact s2, by rw [upA_o (by omega)]; exact s3, by rw [upA_o (by omega)]; exact s4, fun z hz => ?_, ?_⟩
  · rw [upA_o (by omega), upA_o (by omega), upA_o (show 6 + 1 ≠ _ by omega)]
    have h := sq z hz
    by_cases e : z = q
    · subst e; rw [show 6 + 8 + 3 * z = 14 + 3 * z by omega, upA_s]; exact ⟨h.1, h.2.1, hv⟩
    · rw [upA_o (by omega)]; exact h
  · rw [upA_o (by omega), upA_o (by omega), sl]
    exact lns_congr (fun i hi => (upA_o (by omega)).symm)
theorem BA_warm (hb : BA A) {q : Int} (hq : 0 ≤ q ∧ q < 8) : BA (warmA A q) := by
  have h := (hb.1.2.2.2.2.2.1 q.toNat (by omega)).2.2
  rw [show 6 + 8 + 3 * q.toNat = 14 + 3 * q.toNat by omega] at h
  unfold warmA
  split
  · exact BA_heat hb (by omega) (by split <;> omega)
  · split
    · exact BA_heat hb (by omega) (by split <;> omega)
    · exact hb
/-- one quarrel changes how it is, since when and the purse, and a line is written -/
theorem BA_deed {A : Nat → Int} (hb : BA A) {q : Nat} {v s p w : Int} (hq : (q : Int) < A 0) (hv : 0 ≤ v ∧ v ≤ 3) (hl : lnf v = lnf (A (12 + 3 * q)) + 1) (hs : 0 ≤ s ∧ s ≤ A 7) (hp : 0 ≤ p ∧ p ≤ 9999) {B : Nat → Int} (hB : ∀ i : Nat, i ≠ 12 + 3 * q → i ≠ 13 + 3 * q → i ≠ 9 → B i = A i) (h12 : B (12 + 3 * q) = v) (h13 : B (13 + 3 * q) = s) (h9 : B 9 = p) (z : Int) : BA (wrA B z w) := by
  have b0 := hb.1.1
  have b11 : 0 ≤ A 11 ∧ A 11 ≤ 16 := by
    have h1 := lns_b (fun q => A (6 + 6 + 3 * q)) (A 0).toNat
    have h2 : A 11 = _ := hb.1.2.2.2.2.2.2
    omega
  have e11 : B 11 = A 11 := hB 11 (by omega) (by omega) (by omega)
  have wlo : ∀ i : Nat, i < 2815 → i ≠ 11 → wrA B z w i = B i := fun i h1 h2 => by unfold wrA; rw [upA_o h2, upA_o (by omega), upA_o (by omega)]
  have w11 : wrA B z w 11 = A 11 + 1 := by unfold wrA; rw [upA_s, e11]
  refine BA_now hb (fun i h => ?_) (fun i h => ?_) ?_ (by rw [w11]; omega)
  · rw [wlo i (by omega) (by omega)]; exact hB i (by omega) (by omega) (by omega)
  · unfold wrA
    rw [e11, upA_o (by omega), upA_o (by omega), upA_o (by omega), upA_o (by omega), upA_o (by omega), upA_o (by omega)]
    exact ⟨hB _ (by omega) (by omega) (by omega), hB _ (by omega) (by omega) (by omega)⟩
  · obtain ⟨s0, s1, s2, s3, s4, sq, sl⟩ := hb.1
    refine ⟨?_, ?_, ?_, ?_, ?_, fun y hy => ?_, ?_⟩
    · rw [wlo _ (by omega) (by omega), hB _ (by omega) (by omega) (by omega)]; exact s0
    · rw [wlo _ (by omega) (by omega), hB _ (by omega) (by omega) (by omega)]; exact s1
    · rw [wlo _ (by omega) (by omega), hB _ (by omega) (by omega) (by omega)]; exact s2
    · rw [wlo _ (by omega) (by omega), show 6 + 3 = 9 by rfl, h9]; exact hp
    · rw [wlo _ (by omega) (by omega), hB _ (by omega) (by omega) (by omega)]; exact s4
    · have h := sq y hy
      rw [wlo _ (by omega) (by omega), wlo _ (by omega) (by omega), wlo _ (by omega) (by omega), wlo _ (by omega) (by omega), hB (6 + 8 + 3 * y) (by omega) (by omega) (by omega), hB (6 + 1) (by omega) (by omega) (by omega)]
      by_cases e : y = q
      · subst e
        rw [show 6 + 6 + 3 * y = 12 + 3 * y by omega, show 6 + 7 + 3 * y = 13 + 3 * y by omega, h12, h13]
        exact ⟨hv, hs, h.2.2⟩
      · rw [hB _ (by omega) (by omega) (by omega), hB _ (by omega) (by omega) (by omega)]; exact h
    · rw [show 6 + 5 = 11 by rfl, w11, wlo 0 (by omega) (by omega), hB 0 (by omega) (by omega) (by omega)]
      have e := lns_how (A := A) (B := wrA B z w) (q := q) (v := v) hq (fun i hi => by
        rw [wlo _ (by omega) (by omega)]
        by_cases e : i = q
        · subst e; rw [if_pos rfl, show 6 + 6 + 3 * i = 12 + 3 * i by omega]; exact h12
        · rw [if_neg e]; exact hB _ (by omega) (by omega) (by omega)) b0
      rw [e]
      have sl' : A 11 = _ := sl
      rw [show 6 + 6 + 3 * q = 12 + 3 * q by omega]
      omega
theorem BA_pawn (hb : BA A) {q : Int} (hq : 0 ≤ q ∧ q < A 0) (h0 : A (12 + 3 * q.toNat) = 0) : BA (pawnA A q) := by
  have b0 := hb.1.1
  have b9 : 0 ≤ A 9 ∧ A 9 ≤ 9999 := hb.1.2.2.2.1
  have b7 : 0 ≤ A 7 ∧ A 7 ≤ 9999 := hb.1.2.1
  have hw := (hb.2.2.1 q.toNat (by omega)).2.2.1
  refine BA_deed hb (q := q.toNat) (v := 1) (s := A 7) (p := capP (A 9 + A (52 + q.toNat) / 2)) (by omega) (by omega) (by rw [h0]; rfl) (by omega) (by unfold capP; split <;> omega) (fun i h1 h2 h3 => ?_) ?_ ?_ ?_ q
  · rw [upA_o h3, upA_o h2, upA_o h1]
  · rw [upA_o (by omega), upA_o (by omega), upA_s]
  · rw [upA_o (by omega), upA_s]
  · rw [upA_s]
theorem BA_redeem (hb : BA A) {q p : Int} (hq : 0 ≤ q ∧ q < A 0) (h1 : A (12 + 3 * q.toNat) = 1) (hp : 0 ≤ p ∧ p ≤ A 9) : BA (redeemA A q p) := by
  have b0 := hb.1.1
  have b9 : 0 ≤ A 9 ∧ A 9 ≤ 9999 := hb.1.2.2.2.1
  have w4 := (hb.1.2.2.2.2.2.1 q.toNat (by omega)).2.1
  rw [show 6 + 7 + 3 * q.toNat = 13 + 3 * q.toNat by omega, show 6 + 1 = 7 by rfl] at w4
  refine BA_deed hb (q := q.toNat) (v := 2) (s := A (13 + 3 * q.toNat)) (p := A 9 - p) (by omega) (by omega) (by rw [h1]; rfl) w4 (by omega) (fun i h1 h2 h3 => ?_) ?_ ?_ ?_ q
  · rw [upA_o h1, upA_o h3]
  · rw [upA_s]
  · rw [upA_o (by omega), upA_o (by omega)]
  · rw [upA_o (by omega), upA_s]
theorem BA_sale (hb : BA A) {q : Nat} (hq : (q : Int) < A 0) (h1 : A (12 + 3 * q) = 1) : BA (wrA (upA A (12 + 3 * q) 3) q 2) := by
  have b0 := hb.1.1
  have b9 : 0 ≤ A 9 ∧ A 9 ≤ 9999 := hb.1.2.2.2.1
  have w4 := (hb.1.2.2.2.2.2.1 q (by omega)).2.1
  rw [show 6 + 7 + 3 * q = 13 + 3 * q by omega, show 6 + 1 = 7 by rfl] at w4
  refine BA_deed hb (q := q) (v := 3) (s := A (13 + 3 * q)) (p := A 9) hq (by omega) (by rw [h1]; rfl) w4 b9 (fun i h1 h2 h3 => upA_o h1) (upA_s _ _ _) (upA_o (by omega)) (upA_o (by omega)) q
end BAs
