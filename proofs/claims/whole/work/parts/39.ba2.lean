section Ba2
variable {A : Nat → Int}
/-- the bounds, where only what is told has changed (and a quarrel may have come) -/
theorem BA_told {A B : Nat → Int} (hb : BA A) (hs : BS B 0 6) (h0 : A 0 ≤ B 0) (h3 : B 3 = A 3) (h11 : B 11 = A 11) (hst : ∀ i, 115 ≤ i → B i = A i) (k1 : (0 ≤ B 1 ∧ B 1 ≤ 4) ∧ (-1 ≤ B 2 ∧ B 2 < B 1) ∧ (0 ≤ B 4 ∧ B 4 ≤ 6) ∧ (0 ≤ B 5 ∧ B 5 ≤ 10) ∧ (0 ≤ B 6 ∧ B 6 ≤ 8) ∧ (0 ≤ B 114 ∧ B 114 ≤ 99)) (kq : ∀ q : Nat, q < 8 → (0 ≤ B (36 + 2 * q) ∧ B (36 + 2 * q) ≤ 5) ∧ (0 ≤ B (37 + 2 * q) ∧ B (37 + 2 * q) ≤ 5) ∧ (0 ≤ B (52 + q) ∧ B (52 + q) ≤ 99) ∧ (0 ≤ B (60 + q) ∧ B (60 + q) ≤ 9) ∧ ((q : Int) < B 0 → B (36 + 2 * q) ≠ B (37 + 2 * q))) (kh : ∀ i, i < 6 → 0 ≤ B (68 + i) ∧ B (68 + i) ≤ 99) (kb : ∀ i, i < 10 → (0 ≤ B (74 + 2 * i) ∧ B (74 + 2 * i) ≤ 99) ∧ (B (75 + 2 * i) = 0 ∨ B (75 + 2 * i) = 1)) (ks : ∀ i : Nat, (i : Int) < B 6 → (0 ≤ B (94 + 2 * i) ∧ B (94 + 2 * i) < B 0) ∧ (0 ≤ B (95 + 2 * i) ∧ B (95 + 2 * i) ≤ 9999)) (kd : ∀ i, i < 4 → -1 ≤ B (110 + i) ∧ B (110 + i) ≤ 9) : BA B := by
  obtain ⟨⟨b0, b1, b2, b3, b4, bq, bl⟩, ⟨d1, d2, d3, d4, d5, d6, d7⟩, dq, dh, db, ds, dd, dp⟩ := hb
  refine ⟨hs, ⟨k1.1, k1.2.1, by rw [h3]; exact d3, k1.2.2.1, k1.2.2.2.1, k1.2.2.2.2.1, k1.2.2.2.2.2⟩, kq, kh, kb, ks, kd, fun z hz => ?_⟩
  rw [h3] at hz
  obtain ⟨⟨a0, a1, a2, a3, a4, aq, al⟩, g2, g3, g4, g5⟩ := dp z hz
  have u := hst
  refine ⟨⟨by rw [u _ (by omega)]; exact a0, by rw [u _ (by omega)]; exact a1, by rw [u _ (by omega)]; exact a2, by rw [u _ (by omega)]; exact a3, by rw [u _ (by omega)]; exact a4, fun q hq => by rw [u _ (by omega), u _ (by omega), u _ (by omega), u _ (by omega)]; exact aq q hq, ?_⟩, by rw [u _ (by omega)]; omega, by rw [u _ (by omega), h11]; exact g3, fun i hi => by rw [u _ (by omega)] at hi; rw [u _ (by omega), u _ (by omega), u _ (by omega), u _ (by omega)]; exact g4 i hi, fun k h1 h2 => by rw [h3] at h2; rw [u _ (by omega), u _ (by omega)]; exact g5 k h1 h2⟩
  rw [u _ (by omega), u _ (by omega), al]; exact lns_congr (fun i hi => (u _ (by omega)).symm)
theorem BS_same {A B : Nat → Int} (hs : BS A 0 6) (h : ∀ i, (i = 0 ∨ (7 ≤ i ∧ i < 36)) → B i = A i) : BS B 0 6 := by
  obtain ⟨a0, a1, a2, a3, a4, aq, al⟩ := hs
  refine ⟨by rw [h _ (by omega)]; exact a0, by rw [h _ (by omega)]; exact a1, by rw [h _ (by omega)]; exact a2, by rw [h _ (by omega)]; exact a3, by rw [h _ (by omega)]; exact a4, fun q hq => by rw [h _ (by omega), h _ (by omega), h _ (by omega), h _ (by omega)]; exact aq q hq, ?_⟩
  rw [h _ (by omega), h 0 (by omega), al]; exact lns_congr (fun i hi => (h _ (by omega)).symm)
theorem BA_wage (hb : BA A) {v : Int} (hv : 0 ≤ v ∧ v ≤ 99) : BA (upA A 114 v) := by
  obtain ⟨hs, ⟨d1, d2, d3, d4, d5, d6, d7⟩, dq, dh, db, ds, dd, dp⟩ := id hb
  have u : ∀ i, i ≠ 114 → upA A 114 v i = A i := fun i h => upA_o h
  exact BA_told hb (BS_same hs (fun i hi => u i (by omega))) (by rw [u _ (by omega)]; omega) (u _ (by omega)) (u _ (by omega)) (fun i hi => u i (by omega)) ⟨by rw [u _ (by omega)]; exact d1, by rw [u _ (by omega), u _ (by omega)]; exact d2, by rw [u _ (by omega)]; exact d4, by rw [u _ (by omega)]; exact d5, by rw [u _ (by omega)]; exact d6, by rw [upA_s]; exact hv⟩ (fun q hq => by rw [u _ (by omega), u _ (by omega), u _ (by omega), u _ (by omega), u _ (by omega)]; exact dq q hq) (fun i hi => by rw [u _ (by omega)]; exact dh i hi) (fun i hi => by rw [u _ (by omega), u _ (by omega)]; exact db i hi) (fun i hi => by rw [u _ (by omega)] at hi; rw [u _ (by omega), u _ (by omega), u _ (by omega)]; exact ds i hi) (fun i hi => by rw [u _ (by omega)]; exact dd i hi)
theorem BA_earns (hb : BA A) {q : Int} : BA (f_earns A q).2 := by
  unfold f_earns
  split
  · rename_i h; exact BA_wage hb h
  · exact hb
theorem BA_digit (hb : BA A) {q d : Int} : BA (f_digit A q d).2 := by
  unfold f_digit
  split
  · rename_i h
    dsimp only
    obtain ⟨hs, ⟨d1, d2, d3, d4, d5, d6, d7⟩, dq, dh, db, ds, dd, dp⟩ := id hb
    have u : ∀ i, i ≠ 110 + q.toNat → upA A (110 + q.toNat) d i = A i := fun i h => upA_o h
    refine BA_told hb (BS_same hs (fun i hi => u i (by omega))) (by rw [u _ (by omega)]; omega) (u _ (by omega)) (u _ (by omega)) (fun i hi => u i (by omega)) ⟨by rw [u _ (by omega)]; exact d1, by rw [u _ (by omega), u _ (by omega)]; exact d2, by rw [u _ (by omega)]; exact d4, by rw [u _ (by omega)]; exact d5, by rw [u _ (by omega)]; exact d6, by rw [u _ (by omega)]; exact d7⟩ (fun z hq => by rw [u _ (by omega), u _ (by omega), u _ (by omega), u _ (by omega), u _ (by omega)]; exact dq z hq) (fun i hi => by rw [u _ (by omega)]; exact dh i hi) (fun i hi => by rw [u _ (by omega), u _ (by omega)]; exact db i hi) (fun i hi => by rw [u _ (by omega)] at hi; have h6 := d6; rw [u _ (by omega), u _ (by omega), u _ (by omega)]; exact ds i hi) (fun i hi => ?_)
    by_cases e : i = q.toNat
    · subst e; rw [upA_s]; omega
    · rw [u _ (by omega)]; exact dd i hi
  · exact hb
theorem BA_hook (hb : BA A) {q : Int} : BA (f_hook A q).2 := by
  obtain ⟨hs, ⟨d1, d2, d3, d4, d5, d6, d7⟩, dq, dh, db, ds, dd, dp⟩ := id hb
  unfold f_hook
  split
  · dsimp only
    have u : ∀ i, i ≠ 4 → upA A 4 0 i = A i := fun i h => upA_o h
    exact BA_told hb (BS_same hs (fun i hi => u i (by omega))) (by rw [u _ (by omega)]; omega) (u _ (by omega)) (u _ (by omega)) (fun i hi => u i (by omega)) ⟨by rw [u _ (by omega)]; exact d1, by rw [u _ (by omega), u _ (by omega)]; exact d2, by rw [upA_s]; omega, by rw [u _ (by omega)]; exact d5, by rw [u _ (by omega)]; exact d6, by rw [u _ (by omega)]; exact d7⟩ (fun z hq => by rw [u _ (by omega), u _ (by omega), u _ (by omega), u _ (by omega), u _ (by omega)]; exact dq z hq) (fun i hi => by rw [u _ (by omega)]; exact dh i hi) (fun i hi => by rw [u _ (by omega), u _ (by omega)]; exact db i hi) (fun i hi => by rw [u _ (by omega)] at hi; rw [u _ (by omega), u _ (by omega), u _ (by omega)]; exact ds i hi) (fun i hi => by rw [u _ (by omega)]; exact dd i hi)
  · split
    · rename_i h1 h
      dsimp only
      have u : ∀ i, i ≠ 4 → i ≠ 68 + (A 4).toNat → upA (upA A (68 + (A 4).toNat) q) 4 (A 4 + 1) i = A i := fun i h h2 => by rw [upA_o h, upA_o h2]
      refine BA_told hb (BS_same hs (fun i hi => u i (by omega) (by omega))) (by rw [u _ (by omega) (by omega)]; omega) (u _ (by omega) (by omega)) (u _ (by omega) (by omega)) (fun i hi => u i (by omega) (by omega)) ⟨by rw [u _ (by omega) (by omega)]; exact d1, by rw [u _ (by omega) (by omega), u _ (by omega) (by omega)]; exact d2, by rw [upA_s]; omega, by rw [u _ (by omega) (by omega)]; exact d5, by rw [u _ (by omega) (by omega)]; exact d6, by rw [u _ (by omega) (by omega)]; exact d7⟩ (fun z hq => by rw [u _ (by omega) (by omega), u _ (by omega) (by omega), u _ (by omega) (by omega), u _ (by omega) (by omega), u _ (by omega) (by omega)]; exact dq z hq) (fun i hi => ?_) (fun i hi => by rw [u _ (by omega) (by omega), u _ (by omega) (by omega)]; exact db i hi) (fun i hi => by rw [u _ (by omega) (by omega)] at hi; rw [u _ (by omega) (by omega), u _ (by omega) (by omega), u _ (by omega) (by omega)]; exact ds i hi) (fun i hi => by rw [u _ (by omega) (by omega)]; exact dd i hi)
      by_cases e : i = (A 4).toNat
      · subst e; rw [upA_o (by omega), upA_s]; omega
      · rw [u _ (by omega) (by omega)]; exact dh i hi
    · exact hb
theorem BA_bid (hb : BA A) {q d : Int} (hd : d = 0 ∨ d = 1) : BA (f_bid A q d).2 := by
  obtain ⟨hs, ⟨d1, d2, d3, d4, d5, d6, d7⟩, dq, dh, db, ds, dd, dp⟩ := id hb
  unfold f_bid
  split
  · dsimp only
    have u : ∀ i, i ≠ 5 → upA A 5 0 i = A i := fun i h => upA_o h
    exact BA_told hb (BS_same hs (fun i hi => u i (by omega))) (by rw [u _ (by omega)]; omega) (u _ (by omega)) (u _ (by omega)) (fun i hi => u i (by omega)) ⟨by rw [u _ (by omega)]; exact d1, by rw [u _ (by omega), u _ (by omega)]; exact d2, by rw [u _ (by omega)]; exact d4, by rw [upA_s]; omega, by rw [u _ (by omega)]; exact d6, by rw [u _ (by omega)]; exact d7⟩ (fun z hq => by rw [u _ (by omega), u _ (by omega), u _ (by omega), u _ (by omega), u _ (by omega)]; exact dq z hq) (fun i hi => by rw [u _ (by omega)]; exact dh i hi) (fun i hi => by rw [u _ (by omega), u _ (by omega)]; exact db i hi) (fun i hi => by rw [u _ (by omega)] at hi; rw [u _ (by omega), u _ (by omega), u _ (by omega)]; exact ds i hi) (fun i hi => by rw [u _ (by omega)]; exact dd i hi)
  · split
    · rename_i h1 h
      dsimp only
      have u : ∀ i, i ≠ 5 → i ≠ 74 + 2 * (A 5).toNat → i ≠ 75 + 2 * (A 5).toNat → upA (upA (upA A (74 + 2 * (A 5).toNat) q) (75 + 2 * (A 5).toNat) d) 5 (A 5 + 1) i = A i := fun i h h2 h3 => by rw [upA_o h, upA_o h3, upA_o h2]
      refine BA_told hb (BS_same hs (fun i hi => u i (by omega) (by omega) (by omega))) (by rw [u _ (by omega) (by omega) (by omega)]; omega) (u _ (by omega) (by omega) (by omega)) (u _ (by omega) (by omega) (by omega)) (fun i hi => u i (by omega) (by omega) (by omega)) ⟨by rw [u _ (by omega) (by omega) (by omega)]; exact d1, by rw [u _ (by omega) (by omega) (by omega), u _ (by omega) (by omega) (by omega)]; exact d2, by rw [u _ (by omega) (by omega) (by omega)]; exact d4, by rw [upA_s]; omega, by rw [u _ (by omega) (by omega) (by omega)]; exact d6, by rw [u _ (by omega) (by omega) (by omega)]; exact d7⟩ (fun z hq => by rw [u _ (by omega) (by omega) (by omega), u _ (by omega) (by omega) (by omega), u _ (by omega) (by omega) (by omega), u _ (by omega) (by omega) (by omega), u _ (by omega) (by omega) (by omega)]; exact dq z hq) (fun i hi => by rw [u _ (by omega) (by omega) (by omega)]; exact dh i hi) (fun i hi => ?_) (fun i hi => by rw [u _ (by omega) (by omega) (by omega)] at hi; rw [u _ (by omega) (by omega) (by omega), u _ (by omega) (by omega) (by omega), u _ (by omega) (by omega) (by omega)]; exact ds i hi) (fun i hi => by rw [u _ (by omega) (by omega) (by omega)]; exact dd i hi)
      by_cases e : i = (A 5).toNat
      · subst e; rw [upA_o (by omega), upA_o (by omega), upA_s, upA_o (by omega), upA_s]; omega
      · rw [u _ (by omega) (by omega) (by omega), u _ (by omega) (by omega) (by omega)]; exact db i hi
    · exact hb
theorem BA_said (hb : BA A) {q d : Int} : BA (f_said A q d).2 := by
  obtain ⟨hs, ⟨d1, d2, d3, d4, d5, d6, d7⟩, dq, dh, db, ds, dd, dp⟩ := id hb
  unfold f_said
  split
  · dsimp only
    have u : ∀ i, i ≠ 6 → upA A 6 0 i = A i := fun i h => upA_o h
    exact BA_told hb (BS_same hs (fun i hi => u i (by omega))) (by rw [u _ (by omega)]; omega) (u _ (by omega)) (u _ (by omega)) (fun i hi => u i (by omega)) ⟨by rw [u _ (by omega)]; exact d1, by rw [u _ (by omega), u _ (by omega)]; exact d2, by rw [u _ (by omega)]; exact d4, by rw [u _ (by omega)]; exact d5, by rw [upA_s]; omega, by rw [u _ (by omega)]; exact d7⟩ (fun z hq => by rw [u _ (by omega), u _ (by omega), u _ (by omega), u _ (by omega), u _ (by omega)]; exact dq z hq) (fun i hi => by rw [u _ (by omega)]; exact dh i hi) (fun i hi => by rw [u _ (by omega), u _ (by omega)]; exact db i hi) (fun i hi => by rw [upA_s] at hi; omega) (fun i hi => by rw [u _ (by omega)]; exact dd i hi)
  · split
    · rename_i h1 h
      dsimp only
      have u : ∀ i, i ≠ 6 → i ≠ 94 + 2 * (A 6).toNat → i ≠ 95 + 2 * (A 6).toNat → upA (upA (upA A (94 + 2 * (A 6).toNat) q) (95 + 2 * (A 6).toNat) d) 6 (A 6 + 1) i = A i := fun i h h2 h3 => by rw [upA_o h, upA_o h3, upA_o h2]
      refine BA_told hb (BS_same hs (fun i hi => u i (by omega) (by omega) (by omega))) (by rw [u _ (by omega) (by omega) (by omega)]; omega) (u _ (by omega) (by omega) (by omega)) (u _ (by omega) (by omega) (by omega)) (fun i hi => u i (by omega) (by omega) (by omega)) ⟨by rw [u _ (by omega) (by omega) (by omega)]; exact d1, by rw [u _ (by omega) (by omega) (by omega), u _ (by omega) (by omega) (by omega)]; exact d2, by rw [u _ (by omega) (by omega) (by omega)]; exact d4, by rw [u _ (by omega) (by omega) (by omega)]; exact d5, by rw [upA_s]; omega, by rw [u _ (by omega) (by omega) (by omega)]; exact d7⟩ (fun z hq => by rw [u _ (by omega) (by omega) (by omega), u _ (by omega) (by omega) (by omega), u _ (by omega) (by omega) (by omega), u _ (by omega) (by omega) (by omega), u _ (by omega) (by omega) (by omega)]; exact dq z hq) (fun i hi => by rw [u _ (by omega) (by omega) (by omega)]; exact dh i hi) (fun i hi => by rw [u _ (by omega) (by omega) (by omega), u _ (by omega) (by omega) (by omega)]; exact db i hi) (fun i hi => ?_) (fun i hi => by rw [u _ (by omega) (by omega) (by omega)]; exact dd i hi)
      rw [upA_s] at hi
      rw [u 0 (by omega) (by omega) (by omega)]
      by_cases e : i = (A 6).toNat
      · subst e; rw [upA_o (by omega), upA_o (by omega), upA_s, upA_o (by omega), upA_s]; omega
      · rw [u _ (by omega) (by omega) (by omega), u _ (by omega) (by omega) (by omega)]; exact ds i (by omega)
    · exact hb
theorem BA_quarrel (hb : BA A) {a b w h : Int} : BA (f_quarrel A a b w h).2 := by
  obtain ⟨hs, ⟨d1, d2, d3, d4, d5, d6, d7⟩, dq, dh, db, ds, dd, dp⟩ := id hb
  unfold f_quarrel
  split
  · rename_i hh
    have b0 := hs.1
    obtain ⟨m, hm⟩ : ∃ m : Nat, A 0 = (m : Int) := ⟨(A 0).toNat, by omega⟩
    have hm8 : m < 8 := by omega
    rw [hm, show ((m : Nat) : Int).toNat = m by omega]
    have u : ∀ i, i ≠ 0 → i ≠ 12 + 3 * m → i ≠ 13 + 3 * m → i ≠ 14 + 3 * m → i ≠ 36 + 2 * m → i ≠ 37 + 2 * m → i ≠ 52 + m → i ≠ 60 + m → upA (upA (upA (upA (upA (upA (upA (upA A (36 + 2 * m) a) (37 + 2 * m) b) (52 + m) w) (60 + m) h) (12 + 3 * m) 0) (13 + 3 * m) 0) (14 + 3 * m) h) 0 ((m : Int) + 1) i = A i := fun i q1 q2 q3 q4 q5 q6 q7 q8 => by
      rw [upA_o q1, upA_o q4, upA_o q3, upA_o q2, upA_o q8, upA_o q7, upA_o q6, upA_o q5]
    have e0 : upA (upA (upA (upA (upA (upA (upA (upA A (36 + 2 * m) a) (37 + 2 * m) b) (52 + m) w) (60 + m) h) (12 + 3 * m) 0) (13 + 3 * m) 0) (14 + 3 * m) h) 0 ((m : Int) + 1) 0 = (m : Int) + 1 := upA_s _ _ _
    have f1 : upA (upA (upA (upA (upA (upA (upA (upA A (36 + 2 * m) a) (37 + 2 * m) b) (52 + m) w) (60 + m) h) (12 + 3 * m) 0) (13 + 3 * m) 0) (14 + 3 * m) h) 0 ((m : Int) + 1) (12 + 3 * m) = 0 := by rw [upA_o (by omega), upA_o (by omega), upA_o (by omega), upA_s]
    have f2 : upA (upA (upA (upA (upA (upA (upA (upA A (36 + 2 * m) a) (37 + 2 * m) b) (52 + m) w) (60 + m) h) (12 + 3 * m) 0) (13 + 3 * m) 0) (14 + 3 * m) h) 0 ((m : Int) + 1) (13 + 3 * m) = 0 := by rw [upA_o (by omega), upA_o (by omega), upA_s]
    have f3 : upA (upA (upA (upA (upA (upA (upA (upA A (36 + 2 * m) a) (37 + 2 * m) b) (52 + m) w) (60 + m) h) (12 + 3 * m) 0) (13 + 3 * m) 0) (14 + 3 * m) h) 0 ((m : Int) + 1) (14 + 3 * m) = h := by rw [upA_o (by omega), upA_s]
    have f4 : upA (upA (upA (upA (upA (upA (upA (upA A (36 + 2 * m) a) (37 + 2 * m) b) (52 + m) w) (60 + m) h) (12 + 3 * m) 0) (13 + 3 * m) 0) (14 + 3 * m) h) 0 ((m : Int) + 1) (36 + 2 * m) = a := by rw [upA_o (by omega), upA_o (by omega), upA_o (by omega), upA_o (by omega), upA_o (by omega), upA_o (by omega), upA_o (by omega), upA_s]
    have f5 : upA (upA (upA (upA (upA (upA (upA (upA A (36 + 2 * m) a) (37 + 2 * m) b) (52 + m) w) (60 + m) h) (12 + 3 * m) 0) (13 + 3 * m) 0) (14 + 3 * m) h) 0 ((m : Int) + 1) (37 + 2 * m) = b := by rw [upA_o (by omega), upA_o (by omega), upA_o (by omega), upA_o (by omega), upA_o (by omega), upA_o (by omega), upA_s]
    have f6 : upA (upA (upA (upA (upA (upA (upA (upA A (36 + 2 * m) a) (37 + 2 * m) b) (52 + m) w) (60 + m) h) (12 + 3 * m) 0) (13 + 3 * m) 0) (14 + 3 * m) h) 0 ((m : Int) + 1) (52 + m) = w := by rw [upA_o (by omega), upA_o (by omega), upA_o (by omega), upA_o (by omega), upA_o (by omega), upA_s]
    have f7 : upA (upA (upA (upA (upA (upA (upA (upA A (36 + 2 * m) a) (37 + 2 * m) b) (52 + m) w) (60 + m) h) (12 + 3 * m) 0) (13 + 3 * m) 0) (14 + 3 * m) h) 0 ((m : Int) + 1) (60 + m) = h := by rw [upA_o (by omega), upA_o (by omega), upA_o (by omega), upA_o (by omega), upA_s]
    show BA (upA (upA (upA (upA (upA (upA (upA (upA A (36 + 2 * m) a) (37 + 2 * m) b) (52 + m) w) (60 + m) h) (12 + 3 * m) 0) (13 + 3 * m) 0) (14 + 3 * m) h) 0 ((m : Int) + 1))
    generalize upA (upA (upA (upA (upA (upA (upA (upA A (36 + 2 * m) a) (37 + 2 * m) b) (52 + m) w) (60 + m) h) (12 + 3 * m) 0) (13 + 3 * m) 0) (14 + 3 * m) h) 0 ((m : Int) + 1) = B at *
    have u' : ∀ i, (i ≠ 0 ∧ i < 12) ∨ (68 ≤ i) → B i = A i := fun i hi => u i (by omega) (by omega) (by omega) (by omega) (by omega) (by omega) (by omega) (by omega)
    obtain ⟨a0, a1, a2, a3, a4, aq, al⟩ := hs
    refine BA_told hb ⟨by rw [e0]; omega, by rw [u' _ (by omega)]; exact a1, by rw [u' _ (by omega)]; exact a2, by rw [u' _ (by omega)]; exact a3, by rw [u' _ (by omega)]; exact a4, fun q hq => ?_, ?_⟩ (by rw [e0]; omega) (u' _ (by omega)) (u' _ (by omega)) (fun i hi => u' i (by omega)) ⟨by rw [u' _ (by omega)]; exact d1, by rw [u' _ (by omega), u' _ (by omega)]; exact d2, by rw [u' _ (by omega)]; exact d4, by rw [u' _ (by omega)]; exact d5, by rw [u' _ (by omega)]; exact d6, by rw [u' _ (by omega)]; exact d7⟩ (fun q hq => ?_) (fun i hi => by rw [u' _ (by omega)]; exact dh i hi) (fun i hi => by rw [u' _ (by omega), u' _ (by omega)]; exact db i hi) (fun i hi => ?_) (fun i hi => by rw [u' _ (by omega)]; exact dd i hi)
    · rw [u' (6 + 1) (by omega), show 6 + 6 + 3 * q = 12 + 3 * q by omega, show 6 + 7 + 3 * q = 13 + 3 * q by omega, show 6 + 8 + 3 * q = 14 + 3 * q by omega]
      by_cases e : q = m
      · subst e; rw [f1, f2, f3]; have h7 := a1; omega
      · rw [u (12 + 3 * q) (by omega) (by omega) (by omega) (by omega) (by omega) (by omega) (by omega) (by omega), u (13 + 3 * q) (by omega) (by omega) (by omega) (by omega) (by omega) (by omega) (by omega) (by omega), u (14 + 3 * q) (by omega) (by omega) (by omega) (by omega) (by omega) (by omega) (by omega) (by omega)]
        have := aq q hq
        rw [show 6 + 6 + 3 * q = 12 + 3 * q by omega, show 6 + 7 + 3 * q = 13 + 3 * q by omega, show 6 + 8 + 3 * q = 14 + 3 * q by omega] at this
        exact this
    · rw [u' (6 + 5) (by omega), e0, show ((m : Int) + 1).toNat = m + 1 by omega, al, hm, show ((m : Nat) : Int).toNat = m by omega]
      refine (lns_ext (fun i hi => ?_) 1 (fun i h1 h2 => ?_)).symm
      · show B (6 + 6 + 3 * i) = A (6 + 6 + 3 * i)
        rw [show 6 + 6 + 3 * i = 12 + 3 * i by omega]
        exact u _ (by omega) (by omega) (by omega) (by omega) (by omega) (by omega) (by omega) (by omega)
      · show B (6 + 6 + 3 * i) = 0
        obtain rfl : i = m := by omega
        rw [show 6 + 6 + 3 * i = 12 + 3 * i by omega]; exact f1
    · by_cases e : q = m
      · subst e; rw [f4, f5, f6, f7]; omega
      · rw [u (36 + 2 * q) (by omega) (by omega) (by omega) (by omega) (by omega) (by omega) (by omega) (by omega), u (37 + 2 * q) (by omega) (by omega) (by omega) (by omega) (by omega) (by omega) (by omega) (by omega), u (52 + q) (by omega) (by omega) (by omega) (by omega) (by omega) (by omega) (by omega) (by omega), u (60 + q) (by omega) (by omega) (by omega) (by omega) (by omega) (by omega) (by omega) (by omega), e0]
        have := dq q hq
        exact ⟨this.1, this.2.1, this.2.2.1, this.2.2.2.1, fun h => this.2.2.2.2 (by omega)⟩
    · rw [u' _ (by omega)] at hi
      rw [e0, u' _ (by omega), u' _ (by omega)]
      have := ds i hi
      omega
  · exact hb
theorem BA_earn (hb : BA A) {s : Int} : BA (f_earn A s).2 := by
  unfold f_earn
  split
  · rename_i h
    have b9 : 0 ≤ A 9 ∧ A 9 ≤ 9999 := hb.1.2.2.2.1
    exact BA_purse (BA_keep hb) (by omega)
  · exact hb
theorem BA_fpawn (hb : BA A) {q : Int} : BA (f_pawn A q).2 := by
  unfold f_pawn
  split
  · rename_i h
    have b0 := hb.1.1
    exact BA_pawn (BA_keep hb) (by rw [kp_lo (by omega) (by omega)]; omega) (by rw [kp_lo (by omega) (by omega)]; exact h.2.2)
  · exact hb
end Ba2
