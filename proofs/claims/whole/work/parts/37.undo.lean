section Undo
variable {n : Nat} {Post : PT} {S : Sh} {I : CI} {R : CR} {A : Nat → Int} {tx : Nat → Nat → Int}
/-- where the latest step lies -/
def uX (A : Nat → Int) : Nat := 115 + 90 * (A 3 - 1).toNat
def undX (A : Nat → Int) : Nat → Int := fun i => if i = 0 then A (uX A) else if i = 3 then A 3 - 1 else if 7 ≤ i ∧ i ≤ 35 then A (uX A + (i - 6)) else if 2815 ≤ i ∧ i < 2875 then A (uX A + (i - 2785)) else A i
def goA (B : Nat → Int) (q : Nat) : Nat → Int := upA (upA (upA B (12 + 3 * q) 0) (13 + 3 * q) 0) (14 + 3 * q) (B (60 + q))
def goL (B : Nat → Int) (q0 : Nat) : Nat → (Nat → Int)
  | 0 => B
  | k + 1 => goA (goL B q0 k) (q0 + k)
def undoA (A : Nat → Int) : Nat → Int := upA (goL (undX A) (A (uX A)).toNat (A 0 - A (uX A)).toNat) 0 (A 0)
def f_undo (A : Nat → Int) : Int × (Nat → Int) := if A 3 = 0 then (-1, A) else (A 3 - 1, undoA A)
theorem goL_o {B : Nat → Int} {q0 i : Nat} : ∀ k : Nat, q0 + k ≤ 8 → (i < 12 + 3 * q0 ∨ 12 + 3 * (q0 + k) ≤ i) → goL B q0 k i = B i := by
  intro k
  induction k with
  | zero => intro _ _; rfl
  | succ k ih =>
    intro h1 h2
    show goA (goL B q0 k) (q0 + k) i = B i
    unfold goA
    rw [upA_o (by omega), upA_o (by omega), upA_o (by omega)]
    exact ih (by omega) (by omega)
theorem goL_i {B : Nat → Int} {q0 q : Nat} : ∀ k : Nat, q0 + k ≤ 8 → q0 ≤ q → q < q0 + k → goL B q0 k (12 + 3 * q) = 0 ∧ goL B q0 k (13 + 3 * q) = 0 ∧ goL B q0 k (14 + 3 * q) = B (60 + q) := by
  intro k
  induction k with
  | zero => intro _ _ h; omega
  | succ k ih =>
    intro h1 h2 h3
    show goA (goL B q0 k) (q0 + k) (12 + 3 * q) = 0 ∧ goA (goL B q0 k) (q0 + k) (13 + 3 * q) = 0 ∧ goA (goL B q0 k) (q0 + k) (14 + 3 * q) = B (60 + q)
    unfold goA
    by_cases e : q = q0 + k
    · subst e
      refine ⟨?_, ?_, ?_⟩
      · rw [upA_o (by omega), upA_o (by omega), upA_s]
      · rw [upA_o (by omega), upA_s]
      · rw [upA_s]; exact goL_o k (by omega) (by omega)
    · have := ih (by omega) h2 (by omega)
      refine ⟨?_, ?_, ?_⟩
      · rw [upA_o (by omega), upA_o (by omega), upA_o (by omega)]; exact this.1
      · rw [upA_o (by omega), upA_o (by omega), upA_o (by omega)]; exact this.2.1
      · rw [upA_o (by omega), upA_o (by omega), upA_o (by omega)]; exact this.2.2
theorem lns_ext {f g : Nat → Int} {m : Nat} (h : ∀ i, i < m → f i = g i) : ∀ d : Nat, (∀ i, m ≤ i → i < m + d → f i = 0) → lns f (m + d) = lns g m := by
  intro d
  induction d with
  | zero => intro _; exact lns_congr h
  | succ d ih =>
    intro h2
    rw [← Nat.add_assoc]
    show lns f (m + d) + lnf (f (m + d)) = _
    rw [ih (fun i h3 h4 => h2 i h3 (by omega)), h2 (m + d) (by omega) (by omega)]
    show _ + (0 : Int) = _
    omega
theorem undX_lo {i : Nat} (h : i ≠ 0 ∧ i ≠ 3 ∧ (i < 7 ∨ 35 < i) ∧ i < 2815) : undX A i = A i := by unfold undX; rw [if_neg (by omega), if_neg (by omega), if_neg (by omega), if_neg (by omega)]
theorem undX_now {d : Nat} (h : 1 ≤ d ∧ d < 30) : undX A (6 + d) = A (uX A + d) := by unfold undX; rw [if_neg (by omega), if_neg (by omega), if_pos (by omega)]; congr 1; omega
theorem undX_bk {i : Nat} (h : i < 60) : undX A (2815 + i) = A (uX A + 30 + i) := by unfold undX; rw [if_neg (by omega), if_neg (by omega), if_neg (by omega), if_pos (by omega), show uX A + (2815 + i - 2785) = uX A + 30 + i by omega]
theorem cu_und {I : CI} {v w : Int} (hc : ClW I 1 A) (hb : BA A) (h3 : 0 < A 3) (hv : v = (I 1 10 + 30 - 1) % 30) (hw : w = I 1 9 - 1) : ClW (stCp (uI (uI I 1 10 v) 1 9 w) 6 (20 + 4 * v.toNat)) 1 (undX A) := by
  obtain ⟨⟨⟨c0, c7, c8, c9, c10, c11⟩, cq⟩, ⟨⟨t1, t2, t3, t4, t5, t6, t7, t8, t9⟩, tq, th, tb, ts, td⟩, cb, cp⟩ := id hc
  dsimp only [Nat.reduceAdd] at c0 c7 c8 c9 c10 c11 cq t1 t2 t3 t4 t5 t6 t7 t8 t9 tq th tb ts td
  have b3 := hb.2.1.2.2.1
  have hs := cp (A 3 - 1).toNat (by omega)
  have hd := hb.2.2.2.2.2.2.2 (A 3 - 1).toNat (by omega)
  have eX : uX A = 115 + 90 * (A 3 - 1).toNat := rfl
  have hid : stId 1 I (A 3 - 1).toNat = 20 + 4 * v.toNat := by unfold stId; omega
  rw [hid, ← eX] at hs
  obtain ⟨⟨s1, s2, s3, s4, s5, s6⟩, s7⟩ := hs
  have hv30 : v.toNat < 30 := by omega
  have ho : ∀ c i : Nat, (c < 6 ∨ 9 < c) → (c ≠ 1 ∨ (i ≠ 9 ∧ i ≠ 10)) → stCp (uI (uI I 1 10 v) 1 9 w) 6 (20 + 4 * v.toNat) c i = I c i := fun c i h1 h2 => by rw [stCp_o (by omega), uI_o (by omega), uI_o (by omega)]
  have hh : ∀ i : Nat, 3 ≤ i ∧ i ≤ 8 → stCp (uI (uI I 1 10 v) 1 9 w) 6 (20 + 4 * v.toNat) 6 i = I (20 + 4 * v.toNat) i := fun i h1 => by rw [stCp_h h1, uI_o (by omega), uI_o (by omega)]
  have hr : ∀ k i : Nat, 1 ≤ k ∧ k ≤ 3 → i < 8 → stCp (uI (uI I 1 10 v) 1 9 w) 6 (20 + 4 * v.toNat) (6 + k) i = I (20 + 4 * v.toNat + k) i := fun k i h1 h2 => by rw [stCp_r h1 h2, uI_o (by omega), uI_o (by omega)]
  have e9 : stCp (uI (uI I 1 10 v) 1 9 w) 6 (20 + 4 * v.toNat) 1 9 = w := by rw [stCp_o (by omega), uI_s]
  have e10 : stCp (uI (uI I 1 10 v) 1 9 w) 6 (20 + 4 * v.toNat) 1 10 = v := by rw [stCp_o (by omega), uI_o (by omega), uI_s]
  have u3 : undX A 3 = A 3 - 1 := by unfold undX; rw [if_neg (by omega), if_pos rfl]
  have u0 : undX A 0 = A (uX A) := by unfold undX; rw [if_pos rfl]
  generalize hJ : stCp (uI (uI I 1 10 v) 1 9 w) 6 (20 + 4 * v.toNat) = J at *
  refine ⟨⟨⟨?_, ?_, ?_, ?_, ?_, ?_⟩, fun z hz => ?_⟩, ⟨⟨?_, ?_, ?_, ?_, ?_, ?_, ?_, ?_, ?_⟩, fun z hz => ?_, fun i hi => ?_, fun i hi => ?_, fun i hi => ?_, fun i hi => ?_⟩, fun i hi => ?_, fun z hz => ?_⟩ <;> (try dsimp only [Nat.reduceAdd])
  · rw [u0, hh 3 (by omega)]; exact s1
  · rw [show (7 : Nat) = 6 + 1 from rfl, undX_now (by omega), hh 6 (by omega)]; exact s2
  · rw [show (8 : Nat) = 6 + 2 from rfl, undX_now (by omega), hh 7 (by omega)]; exact s3
  · rw [show (9 : Nat) = 6 + 3 from rfl, undX_now (by omega), hh 4 (by omega)]; exact s4
  · rw [show (10 : Nat) = 6 + 4 from rfl, undX_now (by omega), hh 5 (by omega)]; exact s5
  · rw [show (11 : Nat) = 6 + 5 from rfl, undX_now (by omega), hh 8 (by omega)]; exact s6
  · have h7 := s7 z hz
    rw [show 12 + 3 * z = 6 + (6 + 3 * z) by omega, show 13 + 3 * z = 6 + (7 + 3 * z) by omega, show 14 + 3 * z = 6 + (8 + 3 * z) by omega, undX_now (by omega), undX_now (by omega), undX_now (by omega), hr 1 z (by omega) hz, hr 2 z (by omega) hz, hr 3 z (by omega) hz, ← Nat.add_assoc, ← Nat.add_assoc, ← Nat.add_assoc]
    exact h7
  · rw [undX_lo (by omega), ho _ _ (by omega) (by omega)]; exact t1
  · rw [undX_lo (by omega), ho _ _ (by omega) (by omega)]; exact t2
  · rw [u3, e9, hw, t3]
  · rw [undX_lo (by omega), ho _ _ (by omega) (by omega)]; exact t4
  · rw [undX_lo (by omega), ho _ _ (by omega) (by omega)]; exact t5
  · rw [undX_lo (by omega), ho _ _ (by omega) (by omega)]; exact t6
  · rw [undX_lo (by omega), ho _ _ (by omega) (by omega)]; exact t7
  · rw [e10]; omega
  · rw [e10]; omega
  · rw [undX_lo (by omega), undX_lo (by omega), undX_lo (by omega), undX_lo (by omega), ho _ _ (by omega) (by omega), ho _ _ (by omega) (by omega), ho _ _ (by omega) (by omega), ho _ _ (by omega) (by omega)]; exact tq z hz
  · rw [undX_lo (by omega), ho _ _ (by omega) (by omega)]; exact th i hi
  · rw [undX_lo (by omega), undX_lo (by omega), ho _ _ (by omega) (by omega), ho _ _ (by omega) (by omega)]; exact tb i hi
  · rw [undX_lo (by omega), undX_lo (by omega), ho _ _ (by omega) (by omega), ho _ _ (by omega) (by omega)]; exact ts i hi
  · rw [undX_lo (by omega), ho _ _ (by omega) (by omega)]; exact td i hi
  · rw [show (11 : Nat) = 6 + 5 from rfl, undX_now (by omega)] at hi
    have hl := lns_b (fun q => A (6 + 6 + 3 * q)) (A 0).toNat
    have bl : A 11 = _ := hb.1.2.2.2.2.2.2
    have b0 := hb.1.1
    obtain ⟨d1, d2, d3, d4, d5⟩ := hd
    have hi2 : (i : Int) < A (120 + 90 * (A 3 - 1).toNat) := by rw [show 120 + 90 * (A 3 - 1).toNat = uX A + 5 by omega]; exact hi
    have h45 := d4 i hi2
    have hcb := cb i (by omega)
    rw [show 2845 + i = 2815 + (30 + i) by omega, undX_bk (by omega), undX_bk (by omega), show uX A + 30 + i = 145 + 90 * (A 3 - 1).toNat + i by omega, show uX A + 30 + (30 + i) = 175 + 90 * (A 3 - 1).toNat + i by omega, h45.1, h45.2, ho _ _ (by omega) (by omega), ho _ _ (by omega) (by omega), ho _ _ (by omega) (by omega), ho _ _ (by omega) (by omega)]
    exact hcb
  · rw [u3] at hz
    have e : stId 1 J z = stId 1 I z := by unfold stId; rw [e9, e10]; omega
    rw [e]
    have hs1 : 20 ≤ stId 1 I z := by unfold stId; omega
    have hz30 : z < 30 := by omega
    obtain ⟨⟨q1, q2, q3, q4, q5, q6⟩, q7⟩ := cp z (by omega)
    refine ⟨⟨?_, ?_, ?_, ?_, ?_, ?_⟩, fun q hq => ⟨?_, ?_, ?_⟩⟩
    · rw [undX_lo (by omega), ho _ _ (by omega) (by omega)]; exact q1
    · rw [undX_lo (by omega), ho _ _ (by omega) (by omega)]; exact q2
    · rw [undX_lo (by omega), ho _ _ (by omega) (by omega)]; exact q3
    · rw [undX_lo (by omega), ho _ _ (by omega) (by omega)]; exact q4
    · rw [undX_lo (by omega), ho _ _ (by omega) (by omega)]; exact q5
    · rw [undX_lo (by omega), ho _ _ (by omega) (by omega)]; exact q6
    · rw [undX_lo (by omega), ho _ _ (by omega) (by omega)]; exact (q7 q hq).1
    · rw [undX_lo (by omega), ho _ _ (by omega) (by omega)]; exact (q7 q hq).2.1
    · rw [undX_lo (by omega), ho _ _ (by omega) (by omega)]; exact (q7 q hq).2.2
theorem undo_rows (hb : BA A) (h3 : 0 < A 3) : (undoA A 0 = A 0 ∧ undoA A 3 = A 3 - 1) ∧ (∀ i : Nat, i ≠ 0 → i ≠ 3 → (i < 7 ∨ 35 < i) → i < 2815 → undoA A i = A i) ∧ (∀ d : Nat, 1 ≤ d → d < 6 → undoA A (6 + d) = A (uX A + d)) ∧ (∀ i : Nat, i < 60 → undoA A (2815 + i) = A (uX A + 30 + i)) ∧ (∀ q : Nat, q < 8 → ((q : Int) < A (uX A) ∨ A 0 ≤ q) → undoA A (12 + 3 * q) = A (uX A + 6 + 3 * q) ∧ undoA A (13 + 3 * q) = A (uX A + 7 + 3 * q) ∧ undoA A (14 + 3 * q) = A (uX A + 8 + 3 * q)) ∧ (∀ q : Nat, A (uX A) ≤ (q : Int) → (q : Int) < A 0 → undoA A (12 + 3 * q) = 0 ∧ undoA A (13 + 3 * q) = 0 ∧ undoA A (14 + 3 * q) = A (60 + q)) := by
  have b3 := hb.2.1.2.2.1
  have b0 := hb.1.1
  have hd := hb.2.2.2.2.2.2.2 (A 3 - 1).toNat (by omega)
  have eX : uX A = 115 + 90 * (A 3 - 1).toNat := rfl
  have d1 := hd.1.1
  have d2 := hd.2.1
  rw [← eX] at d1 d2
  unfold undoA
  have hk : (A (uX A)).toNat + (A 0 - A (uX A)).toNat = (A 0).toNat := by omega
  have ho : ∀ i : Nat, i ≠ 0 → (i < 12 + 3 * (A (uX A)).toNat ∨ 12 + 3 * (A 0).toNat ≤ i) → upA (goL (undX A) (A (uX A)).toNat (A 0 - A (uX A)).toNat) 0 (A 0) i = undX A i := fun i h1 h2 => by
    rw [upA_o h1, goL_o _ (by omega) (by omega)]
  refine ⟨⟨upA_s _ _ _, ?_⟩, fun i h0 h1 h2 h4 => ?_, fun d h1 h2 => ?_, fun i hi => ?_, fun q hq h1 => ?_, fun q h1 h2 => ?_⟩
  · rw [ho 3 (by omega) (by omega)]; unfold undX; rw [if_neg (by omega), if_pos rfl]
  · rw [ho i h0 (by omega), undX_lo (by omega)]
  · rw [ho _ (by omega) (by omega), undX_now (by omega)]
  · rw [ho _ (by omega) (by omega), undX_bk hi]
  · rw [ho _ (by omega) (by omega), ho _ (by omega) (by omega), ho _ (by omega) (by omega), show 12 + 3 * q = 6 + (6 + 3 * q) by omega, show 13 + 3 * q = 6 + (7 + 3 * q) by omega, show 14 + 3 * q = 6 + (8 + 3 * q) by omega, undX_now (by omega), undX_now (by omega), undX_now (by omega), ← Nat.add_assoc, ← Nat.add_assoc, ← Nat.add_assoc]
    exact ⟨rfl, rfl, rfl⟩
  · have := goL_i (B := undX A) (q0 := (A (uX A)).toNat) (q := q) (A 0 - A (uX A)).toNat (by omega) (by omega) (by omega)
    rw [upA_o (by omega), upA_o (by omega), upA_o (by omega)]
    rw [undX_lo (by omega)] at this
    exact this
theorem BA_undo (hb : BA A) (h3 : 0 < A 3) : BA (undoA A) := by
  obtain ⟨⟨r0, r3⟩, rl, rn, rb, rq, rg⟩ := undo_rows hb h3
  obtain ⟨⟨b0, b1, b2, b3, b4, bq, bl⟩, ⟨d1, d2, d3, d4, d5, d6, d7⟩, dq, dh, db, ds, dd, dp⟩ := id hb
  have eX : uX A = 115 + 90 * (A 3 - 1).toNat := rfl
  obtain ⟨⟨p0, p1, p2, p3, p4, pq, pl⟩, p5, p6, p7, p8⟩ := dp (A 3 - 1).toNat (by omega)
  rw [← eX] at p0 p1 p2 p3 p4 pq pl p5
  rw [show 120 + 90 * (A 3 - 1).toNat = uX A + 5 by omega] at p6 p7 p8
  refine ⟨⟨?_, ?_, ?_, ?_, ?_, fun q hq => ?_, ?_⟩, ⟨?_, ?_, ?_, ?_, ?_, ?_, ?_⟩, fun q hq => ?_, fun i hi => ?_, fun i hi => ?_, fun i hi => ?_, fun i hi => ?_, fun z hz => ?_⟩
  · rw [r0]; exact b0
  · rw [rn 1 (by omega) (by omega)]; exact p1
  · rw [rn 2 (by omega) (by omega)]; exact p2
  · rw [rn 3 (by omega) (by omega)]; exact p3
  · rw [rn 4 (by omega) (by omega)]; exact p4
  · rw [rn 1 (by omega) (by omega), show 6 + 6 + 3 * q = 12 + 3 * q by omega, show 6 + 7 + 3 * q = 13 + 3 * q by omega, show 6 + 8 + 3 * q = 14 + 3 * q by omega]
    by_cases e : A (uX A) ≤ (q : Int) ∧ (q : Int) < A 0
    · have g := rg q e.1 e.2
      rw [g.1, g.2.1, g.2.2]
      have := (dq q hq).2.2.2.1
      omega
    · have g := rq q hq (by omega)
      rw [g.1, g.2.1, g.2.2]; exact pq q hq
  · rw [rn 5 (by omega) (by omega), r0, pl]
    have hk : (A 0).toNat = (A (uX A)).toNat + (A 0 - A (uX A)).toNat := by omega
    rw [hk]
    refine (lns_ext (fun i hi => ?_) _ (fun i hi h2 => ?_)).symm
    · show undoA A (6 + 6 + 3 * i) = A (uX A + 6 + 3 * i)
      rw [show 6 + 6 + 3 * i = 12 + 3 * i by omega]; exact (rq i (by omega) (by omega)).1
    · show undoA A (6 + 6 + 3 * i) = 0
      rw [show 6 + 6 + 3 * i = 12 + 3 * i by omega]; exact (rg i (by omega) (by omega)).1
  · rw [rl 1 (by omega) (by omega) (by omega) (by omega)]; exact d1
  · rw [rl 1 (by omega) (by omega) (by omega) (by omega), rl 2 (by omega) (by omega) (by omega) (by omega)]; exact d2
  · rw [r3]; omega
  · rw [rl 4 (by omega) (by omega) (by omega) (by omega)]; exact d4
  · rw [rl 5 (by omega) (by omega) (by omega) (by omega)]; exact d5
  · rw [rl 6 (by omega) (by omega) (by omega) (by omega)]; exact d6
  · rw [rl 114 (by omega) (by omega) (by omega) (by omega)]; exact d7
  · rw [r0, rl _ (by omega) (by omega) (by omega) (by omega), rl _ (by omega) (by omega) (by omega) (by omega), rl _ (by omega) (by omega) (by omega) (by omega), rl _ (by omega) (by omega) (by omega) (by omega)]; exact dq q hq
  · rw [rl _ (by omega) (by omega) (by omega) (by omega)]; exact dh i hi
  · rw [rl _ (by omega) (by omega) (by omega) (by omega), rl _ (by omega) (by omega) (by omega) (by omega)]; exact db i hi
  · rw [rl 6 (by omega) (by omega) (by omega) (by omega)] at hi
    rw [r0, rl _ (by omega) (by omega) (by omega) (by omega), rl _ (by omega) (by omega) (by omega) (by omega)]; exact ds i hi
  · rw [rl _ (by omega) (by omega) (by omega) (by omega)]; exact dd i hi
  · rw [r3] at hz
    obtain ⟨g1, g2, g3, g4, g5⟩ := dp z (by omega)
    have hz30 : z < 30 := by omega
    have g6 := g5 (A 3 - 1).toNat (by omega) (by omega)
    rw [show 120 + 90 * (A 3 - 1).toNat = uX A + 5 by omega] at g6
    have rr : ∀ i, 115 ≤ i → i < 2815 → undoA A i = A i := fun i h1 h2 => rl i (by omega) (by omega) (by omega) h2
    have e11 : undoA A 11 = A (uX A + 5) := rn 5 (by omega) (by omega)
    refine ⟨?_, ?_, ?_, fun i hi => ?_, fun k h1 h2 => ?_⟩
    · obtain ⟨a0, a1, a2, a3, a4, aq, al⟩ := g1
      refine ⟨?_, ?_, ?_, ?_, ?_, fun q hq => ?_, ?_⟩
      · rw [rr _ (by omega) (by omega)]; exact a0
      · rw [rr _ (by omega) (by omega)]; exact a1
      · rw [rr _ (by omega) (by omega)]; exact a2
      · rw [rr _ (by omega) (by omega)]; exact a3
      · rw [rr _ (by omega) (by omega)]; exact a4
      · rw [rr _ (by omega) (by omega), rr _ (by omega) (by omega), rr _ (by omega) (by omega), rr _ (by omega) (by omega)]; exact aq q hq
      · rw [rr _ (by omega) (by omega), rr _ (by omega) (by omega), al]
        exact lns_congr (fun i hi => (rr _ (by omega) (by omega)).symm)
    · rw [r0, rr _ (by omega) (by omega)]; exact g2
    · rw [rr _ (by omega) (by omega), e11]; omega
    · rw [rr _ (by omega) (by omega)] at hi
      have h30 : i < 30 := by
        have hl := lns_b (fun q => A (6 + 6 + 3 * q)) (A 0).toNat
        have bl2 : A 11 = _ := bl
        omega
      have k1 := g4 i hi
      have k2 := p7 i (by omega)
      rw [rr (145 + 90 * z + i) (by omega) (by omega), rr (175 + 90 * z + i) (by omega) (by omega), rb i (by omega), show 2845 + i = 2815 + (30 + i) by omega, rb (30 + i) (by omega)]
      rw [show 145 + 90 * (A 3 - 1).toNat + i = uX A + 30 + i by omega, show 175 + 90 * (A 3 - 1).toNat + i = uX A + 30 + (30 + i) by omega] at k2
      exact ⟨k1.1.trans k2.1.symm, k1.2.trans k2.2.symm⟩
    · rw [r3] at h2
      rw [rr _ (by omega) (by omega), rr _ (by omega) (by omega)]; exact g5 k h1 (by omega)
theorem dX10_takeStepBack_0 : decode prog_12_method_8_code 0 = .ok (.aload_n 0, 1) := by decide +kernel
theorem dX10_takeStepBack_1 : decode prog_12_method_8_code 1 = .ok (.getfield 68, 3) := by decide +kernel
theorem dX10_takeStepBack_4 : decode prog_12_method_8_code 4 = .ok (.ifCond .ne 5, 3) := by decide +kernel
theorem dX10_takeStepBack_7 : decode prog_12_method_8_code 7 = .ok (.iconst 0, 1) := by decide +kernel
theorem dX10_takeStepBack_8 : decode prog_12_method_8_code 8 = .ok (.ireturn, 1) := by decide +kernel
theorem dX10_takeStepBack_9 : decode prog_12_method_8_code 9 = .ok (.aload_n 0, 1) := by decide +kernel
theorem dX10_takeStepBack_10 : decode prog_12_method_8_code 10 = .ok (.getfield 27, 3) := by decide +kernel
theorem dX10_takeStepBack_13 : decode prog_12_method_8_code 13 = .ok (.getfield 77, 3) := by decide +kernel
theorem dX10_takeStepBack_16 : decode prog_12_method_8_code 16 = .ok (.istore_n 1, 1) := by decide +kernel
theorem dX10_takeStepBack_17 : decode prog_12_method_8_code 17 = .ok (.aload_n 0, 1) := by decide +kernel
theorem dX10_takeStepBack_18 : decode prog_12_method_8_code 18 = .ok (.aload_n 0, 1) := by decide +kernel
theorem dX10_takeStepBack_19 : decode prog_12_method_8_code 19 = .ok (.getfield 71, 3) := by decide +kernel
theorem dX10_takeStepBack_22 : decode prog_12_method_8_code 22 = .ok (.bipush 30, 2) := by decide +kernel
theorem dX10_takeStepBack_24 : decode prog_12_method_8_code 24 = .ok (.iadd, 1) := by decide +kernel
theorem dX10_takeStepBack_25 : decode prog_12_method_8_code 25 = .ok (.iconst 1, 1) := by decide +kernel
theorem dX10_takeStepBack_26 : decode prog_12_method_8_code 26 = .ok (.isub, 1) := by decide +kernel
theorem dX10_takeStepBack_27 : decode prog_12_method_8_code 27 = .ok (.bipush 30, 2) := by decide +kernel
theorem dX10_takeStepBack_29 : decode prog_12_method_8_code 29 = .ok (.irem, 1) := by decide +kernel
theorem dX10_takeStepBack_30 : decode prog_12_method_8_code 30 = .ok (.putfield 71, 3) := by decide +kernel
theorem dX10_takeStepBack_33 : decode prog_12_method_8_code 33 = .ok (.aload_n 0, 1) := by decide +kernel
theorem dX10_takeStepBack_34 : decode prog_12_method_8_code 34 = .ok (.dup, 1) := by decide +kernel
theorem dX10_takeStepBack_35 : decode prog_12_method_8_code 35 = .ok (.getfield 68, 3) := by decide +kernel
theorem dX10_takeStepBack_38 : decode prog_12_method_8_code 38 = .ok (.iconst 1, 1) := by decide +kernel
theorem dX10_takeStepBack_39 : decode prog_12_method_8_code 39 = .ok (.isub, 1) := by decide +kernel
theorem dX10_takeStepBack_40 : decode prog_12_method_8_code 40 = .ok (.putfield 68, 3) := by decide +kernel
theorem dX10_takeStepBack_43 : decode prog_12_method_8_code 43 = .ok (.aload_n 0, 1) := by decide +kernel
theorem dX10_takeStepBack_44 : decode prog_12_method_8_code 44 = .ok (.getfield 27, 3) := by decide +kernel
theorem dX10_takeStepBack_47 : decode prog_12_method_8_code 47 = .ok (.aload_n 0, 1) := by decide +kernel
theorem dX10_takeStepBack_48 : decode prog_12_method_8_code 48 = .ok (.getfield 31, 3) := by decide +kernel
theorem dX10_takeStepBack_51 : decode prog_12_method_8_code 51 = .ok (.aload_n 0, 1) := by decide +kernel
theorem dX10_takeStepBack_52 : decode prog_12_method_8_code 52 = .ok (.getfield 71, 3) := by decide +kernel
theorem dX10_takeStepBack_55 : decode prog_12_method_8_code 55 = .ok (.aaload, 1) := by decide +kernel
theorem dX10_takeStepBack_56 : decode prog_12_method_8_code 56 = .ok (.invokevirtual 61, 3) := by decide +kernel
theorem dX10_takeStepBack_59 : decode prog_12_method_8_code 59 = .ok (.aload_n 0, 1) := by decide +kernel
theorem dX10_takeStepBack_60 : decode prog_12_method_8_code 60 = .ok (.getfield 27, 3) := by decide +kernel
theorem dX10_takeStepBack_63 : decode prog_12_method_8_code 63 = .ok (.getfield 77, 3) := by decide +kernel
theorem dX10_takeStepBack_66 : decode prog_12_method_8_code 66 = .ok (.istore_n 2, 1) := by decide +kernel
theorem dX10_takeStepBack_67 : decode prog_12_method_8_code 67 = .ok (.iload_n 2, 1) := by decide +kernel
theorem dX10_takeStepBack_68 : decode prog_12_method_8_code 68 = .ok (.iload_n 1, 1) := by decide +kernel
theorem dX10_takeStepBack_69 : decode prog_12_method_8_code 69 = .ok (.if_icmp .ge 23, 3) := by decide +kernel
theorem dX10_takeStepBack_72 : decode prog_12_method_8_code 72 = .ok (.aload_n 0, 1) := by decide +kernel
theorem dX10_takeStepBack_73 : decode prog_12_method_8_code 73 = .ok (.getfield 27, 3) := by decide +kernel
theorem dX10_takeStepBack_76 : decode prog_12_method_8_code 76 = .ok (.iload_n 2, 1) := by decide +kernel
theorem dX10_takeStepBack_77 : decode prog_12_method_8_code 77 = .ok (.aload_n 0, 1) := by decide +kernel
theorem dX10_takeStepBack_78 : decode prog_12_method_8_code 78 = .ok (.getfield 21, 3) := by decide +kernel
theorem dX10_takeStepBack_81 : decode prog_12_method_8_code 81 = .ok (.iload_n 2, 1) := by decide +kernel
theorem dX10_takeStepBack_82 : decode prog_12_method_8_code 82 = .ok (.iaload, 1) := by decide +kernel
theorem dX10_takeStepBack_83 : decode prog_12_method_8_code 83 = .ok (.invokevirtual 84, 3) := by decide +kernel
theorem dX10_takeStepBack_86 : decode prog_12_method_8_code 86 = .ok (.iinc 2 1, 3) := by decide +kernel
theorem dX10_takeStepBack_89 : decode prog_12_method_8_code 89 = .ok (.goto (-22), 3) := by decide +kernel
theorem dX10_takeStepBack_92 : decode prog_12_method_8_code 92 = .ok (.aload_n 0, 1) := by decide +kernel
theorem dX10_takeStepBack_93 : decode prog_12_method_8_code 93 = .ok (.getfield 27, 3) := by decide +kernel
theorem dX10_takeStepBack_96 : decode prog_12_method_8_code 96 = .ok (.iload_n 1, 1) := by decide +kernel
theorem dX10_takeStepBack_97 : decode prog_12_method_8_code 97 = .ok (.putfield 77, 3) := by decide +kernel
theorem dX10_takeStepBack_100 : decode prog_12_method_8_code 100 = .ok (.iconst 1, 1) := by decide +kernel
theorem dX10_takeStepBack_101 : decode prog_12_method_8_code 101 = .ok (.ireturn, 1) := by decide +kernel
theorem lp_X10_takeStepBack (cs : CS S R) (hb : BA A) (h3 : 0 < A 3) (hn : 1 ≤ n) (hp : ∀ I', ClW I' 1 (undoA A) → Fw I I' → Post (some (.int (iI 1))) S I' R) : ∀ (d k : Nat) (J : CI), A (uX A) + (k : Int) ≤ A 0 → (A 0 - A (uX A)).toNat - k = d → ClW J 1 (goL (undX A) (A (uX A)).toNat k) → Fw I J → WP n 0 0 mX10_takeStepBack Post 67 [(0, .ref (S.2.1 1)), (1, .int (iI (A 0))), (2, .int (iI (A (uX A) + (k : Int))))] [] 0 0 S J R := by
  obtain ⟨⟨b0, b1, b2, b3, b4, bq, bl⟩, ⟨d1, d2, d3, d4, d5, d6, d7⟩, dq, dh, db, ds, dd, dp⟩ := id hb
  have hd := dp (A 3 - 1).toNat (by omega)
  have eX : uX A = 115 + 90 * (A 3 - 1).toNat := rfl
  have e1 := hd.1.1
  have e2 := hd.2.1
  rw [← eX] at e1 e2
  intro d
  induction d using Nat.strongRecOn with
  | ind d ih =>
    intro k J k1 k2 hc hF
    refine x_iload_n dX10_takeStepBack_67 rfl ?_
    refine x_iload_n dX10_takeStepBack_68 rfl ?_
    refine x_icmp_ge 92 dX10_takeStepBack_69 (by decide) ⟨(by omega), (by omega)⟩ (fun w69 => ?_) (fun w69 => ?_)
    · refine x_aload_n dX10_takeStepBack_92 rfl ?_
      refine x_getR (b := 6) dX10_takeStepBack_93 gf_RX10_27 (k_ob_1 cs) (fun _ _ => rfl) (k_r_1_4 cs) ?_
      refine x_iload_n dX10_takeStepBack_96 rfl ?_
      refine x_putI dX10_takeStepBack_97 gf_RX10_77 (k_ob_6 cs) rfl ?_
      refine x_iconst dX10_takeStepBack_100 ?_
      exact x_zreturn (by omega) dX10_takeStepBack_101 rfl (by omega) (by omega) (hp _ (by
        have hk : k = (A 0 - A (uX A)).toNat := by omega
        have g := cu_quarrels (A 0) hc
        dsimp only [Nat.reduceAdd] at g
        rw [hk] at g
        exact g) (hF.u (by omega)))
    · refine x_aload_n dX10_takeStepBack_72 rfl ?_
      refine x_getR (b := 6) dX10_takeStepBack_73 gf_RX10_27 (k_ob_1 cs) (fun _ _ => rfl) (k_r_1_4 cs) ?_
      refine x_iload_n dX10_takeStepBack_76 rfl ?_
      refine x_aload_n dX10_takeStepBack_77 rfl ?_
      refine x_getR (b := 5) dX10_takeStepBack_78 gf_RX10_21 (k_ob_1 cs) (fun _ _ => rfl) (k_r_1_3 cs) ?_
      refine x_iload_n dX10_takeStepBack_81 rfl ?_
      refine x_iaload dX10_takeStepBack_82 (k_ar_5 cs) (by omega) (by omega) ?_
      have e60 := (hc.2.1.2.1 ((A (uX A)).toNat + k) (by omega)).2.2.2
      dsimp only [Nat.reduceAdd] at e60
      rw [show (A (uX A) + (k : Int)).toNat = (A (uX A)).toNat + k by omega]
      refine x_callV2 (mc1 := 0) (ms1 := 0) dX10_takeStepBack_83 cv_RX10_84 (ci := 6) (k_ob_6 cs) rfl (Nat.le_of_ble_eq_true rfl) (by omega) (by omega) (by omega) ?_
      refine sp_X6_goOn (k_st_6 cs) (by omega) ?_
      refine x_iinc (lv2 := [(2, _), (0, _), (1, _)]) dX10_takeStepBack_86 rfl (by decide) rfl ?_
      refine x_goto 67 dX10_takeStepBack_89 (by decide) ?_
      refine x_sub [1, 2, 0] rfl ?_
      rw [show A (uX A) + (k : Int) + 1 = A (uX A) + ((k + 1 : Nat) : Int) by omega]
      refine ih _ (by omega) (k + 1) _ (by omega) rfl ?_ (((hF.u (by omega)).u (by omega)).u (by omega))
      rw [show (A (uX A) + (k : Int)).toNat = (A (uX A)).toNat + k by omega]
      have g := cu_heat (goL (undX A) (A (uX A)).toNat k (60 + ((A (uX A)).toNat + k))) (cu_since 0 (cu_how 0 hc (k := (A (uX A)).toNat + k) (by omega)) (k := (A (uX A)).toNat + k) (by omega)) (k := (A (uX A)).toNat + k) (by omega)
      rw [e60] at g
      dsimp only [Nat.reduceAdd] at g
      show ClW _ 1 (goA (goL (undX A) (A (uX A)).toNat k) ((A (uX A)).toNat + k))
      unfold goA
      rw [e60]
      exact g
theorem sp_X10_takeStepBack  (cs : CS S R) (hc : ClW I 1 A) (hb : BA A) (hn : 2 ≤ n) (hp : ∀ I', ClW I' 1 (f_undo A).2 → Fw I I' → Post (some (.int (iI (if A 3 = 0 then 0 else 1)))) S I' R) : Call n 0 0 mX10_takeStepBack [.ref (S.2.1 1)] S I R Post := by
  obtain ⟨⟨⟨c0, c7, c8, c9, c10, c11⟩, cq⟩, ⟨⟨t1, t2, t3, t4, t5, t6, t7, t8, t9⟩, tq, th, tb, ts, td⟩, cb, cp⟩ := id hc
  dsimp only [Nat.reduceAdd] at c0 c7 c8 c9 c10 c11 cq t1 t2 t3 t4 t5 t6 t7 t8 t9 tq th tb ts td
  obtain ⟨⟨b0, b1, b2, b3, b4, bq, bl⟩, ⟨d1, d2, d3, d4, d5, d6, d7⟩, dq, dh, db, ds, dd, dp⟩ := id hb
  have b7 : 0 ≤ A 7 ∧ A 7 ≤ 9999 := b1
  have b8 : 0 ≤ A 8 ∧ A 8 ≤ 30870 := b2
  have b9 : 0 ≤ A 9 ∧ A 9 ≤ 9999 := b3
  have b10 : 0 ≤ A 10 ∧ A 10 ≤ 1 := b4
  have b11 : 0 ≤ A 11 ∧ A 11 ≤ 16 := by have h1 := lns_b (fun q => A (6 + 6 + 3 * q)) (A 0).toNat; have h2 : A 11 = _ := bl; omega
  refine Call.of (by decide +kernel) (Nat.le_of_ble_eq_true rfl) ?_
  show WP _ _ _ _ _ 0 [(0, _)] [] 0 0 _ _ _
  refine x_aload_n dX10_takeStepBack_0 rfl ?_
  refine x_getI dX10_takeStepBack_1 gf_RX10_68 (k_ob_1 cs) (fun _ _ => rfl) ?_
  refine x_if_ne 9 dX10_takeStepBack_4 (by decide) (by omega) (fun w4 => ?_) (fun w4 => ?_)
  · refine x_aload_n dX10_takeStepBack_9 rfl ?_
    refine x_getR (b := 6) dX10_takeStepBack_10 gf_RX10_27 (k_ob_1 cs) (fun _ _ => rfl) (k_r_1_4 cs) ?_
    refine x_getI dX10_takeStepBack_13 gf_RX10_77 (k_ob_6 cs) (fun _ _ => rfl) ?_
    refine x_istore_n (lv2 := [(1, _), (0, _)]) dX10_takeStepBack_16 (by decide) rfl ?_
    refine x_aload_n dX10_takeStepBack_17 rfl ?_
    refine x_aload_n dX10_takeStepBack_18 rfl ?_
    refine x_getI dX10_takeStepBack_19 gf_RX10_71 (k_ob_1 cs) (fun _ _ => rfl) ?_
    refine x_bipush dX10_takeStepBack_22 (by decide) ?_
    refine x_iadd dX10_takeStepBack_24 ?_
    refine x_iconst dX10_takeStepBack_25 ?_
    refine x_isub dX10_takeStepBack_26 ?_
    refine x_bipush dX10_takeStepBack_27 (by decide) ?_
    refine x_irem dX10_takeStepBack_29 (by omega) ?_
    refine x_putI dX10_takeStepBack_30 gf_RX10_71 (k_ob_1 cs) rfl ?_
    refine x_aload_n dX10_takeStepBack_33 rfl ?_
    refine x_dup dX10_takeStepBack_34 rfl ?_
    refine x_getIv (z := I 1 9) dX10_takeStepBack_35 gf_RX10_68 (k_ob_1 cs) (fun _ _ => rfl) (by first | (rw [uI_o (by omega)]; done) | (rw [uI_o (by omega), uI_s])) ?_
    refine x_iconst dX10_takeStepBack_38 ?_
    refine x_isub dX10_takeStepBack_39 ?_
    refine x_putI dX10_takeStepBack_40 gf_RX10_68 (k_ob_1 cs) rfl ?_
    refine x_aload_n dX10_takeStepBack_43 rfl ?_
    refine x_getR (b := 6) dX10_takeStepBack_44 gf_RX10_27 (k_ob_1 cs) (fun _ _ => rfl) (k_r_1_4 cs) ?_
    refine x_aload_n dX10_takeStepBack_47 rfl ?_
    refine x_getR (b := 10) dX10_takeStepBack_48 gf_RX10_31 (k_ob_1 cs) (fun _ _ => rfl) (k_r_1_5 cs) ?_
    refine x_aload_n dX10_takeStepBack_51 rfl ?_
    refine x_getIv (z := (I 1 10 + 30 - 1) % 30) dX10_takeStepBack_52 gf_RX10_71 (k_ob_1 cs) (fun _ _ => rfl) (by first | (rw [uI_o (by omega)]; done) | (rw [uI_o (by omega), uI_s])) ?_
    refine x_aaload_s dX10_takeStepBack_55 (k_ar_10 cs) (by omega) (v := .ref (S.2.1 (20 + 4 * ((I 1 10 + 30 - 1) % 30).toNat))) (by rw [(k_sp cs (i := ((I 1 10 + 30 - 1) % 30).toNat) (by omega)).1]; rfl) (by omega) ?_
    refine x_callV1 (mc1 := 0) (ms1 := 0) dX10_takeStepBack_56 cv_RX10_61 (ci := 6) (k_ob_6 cs) rfl (Nat.le_of_ble_eq_true rfl) (n1 := n - 1) (by omega) (by omega) (by omega) ?_
    refine sp_X6_take (k_st_6 cs) (k_sp cs (i := ((I 1 10 + 30 - 1) % 30).toNat) (by omega)).2 (by omega) (by omega) ?_
    refine x_aload_n dX10_takeStepBack_59 rfl ?_
    refine x_getR (b := 6) dX10_takeStepBack_60 gf_RX10_27 (k_ob_1 cs) (fun _ _ => rfl) (k_r_1_4 cs) ?_
    refine x_getI dX10_takeStepBack_63 gf_RX10_77 (k_ob_6 cs) (fun _ _ => rfl) ?_
    refine x_istore_n (lv2 := [(2, _), (1, _), (0, _)]) dX10_takeStepBack_66 (by decide) rfl ?_
    refine x_sub [2, 1, 0] rfl ?_
    have h3 : 0 < A 3 := by omega
    rw [show (f_undo A).2 = undoA A by unfold f_undo; rw [if_neg (by omega)], if_neg (by omega)] at hp
    have hd := dp (A 3 - 1).toNat (by omega)
    have eX : uX A = 115 + 90 * (A 3 - 1).toNat := rfl
    have e1 := hd.1.1
    have e2 := hd.2.1
    rw [← eX] at e1 e2
    have g := cu_und hc hb h3 (v := (I 1 10 + 30 - 1) % 30) (w := I 1 9 - 1) rfl rfl
    have hq := g.1.1.1
    dsimp only [Nat.reduceAdd] at hq
    rw [show undX A 0 = A (uX A) by unfold undX; rw [if_pos rfl]] at hq
    rw [← hq, ← c0]
    have hl := lp_X10_takeStepBack (n := n) cs hb h3 (by omega) hp _ 0 _ (by omega) rfl g (fun c h => by rw [stCp_row (by omega), uI_row (by omega), uI_row (by omega)])
    rw [show A (uX A) + ((0 : Nat) : Int) = A (uX A) by omega] at hl
    exact hl
  · refine x_iconst dX10_takeStepBack_7 ?_
    exact x_zreturn (by omega) dX10_takeStepBack_8 rfl (by omega) (by omega) (by rw [show (f_undo A).2 = A by unfold f_undo; rw [if_pos (by omega)], if_pos (by omega)] at hp; exact hp _ hc Fw.rf)
theorem dX11_undo_0 : decode prog_1_method_14_code 0 = .ok (.aload_n 0, 1) := by decide +kernel
theorem dX11_undo_1 : decode prog_1_method_14_code 1 = .ok (.getfield 10, 3) := by decide +kernel
theorem dX11_undo_4 : decode prog_1_method_14_code 4 = .ok (.invokevirtual 158, 3) := by decide +kernel
theorem dX11_undo_7 : decode prog_1_method_14_code 7 = .ok (.ifCond .eq 13, 3) := by decide +kernel
theorem dX11_undo_10 : decode prog_1_method_14_code 10 = .ok (.aload_n 0, 1) := by decide +kernel
theorem dX11_undo_11 : decode prog_1_method_14_code 11 = .ok (.getfield 10, 3) := by decide +kernel
theorem dX11_undo_14 : decode prog_1_method_14_code 14 = .ok (.getfield 162, 3) := by decide +kernel
theorem dX11_undo_17 : decode prog_1_method_14_code 17 = .ok (.goto 4, 3) := by decide +kernel
theorem dX11_undo_20 : decode prog_1_method_14_code 20 = .ok (.iconst (-1), 1) := by decide +kernel
theorem dX11_undo_21 : decode prog_1_method_14_code 21 = .ok (.ireturn, 1) := by decide +kernel
theorem sp_X11_undo  (cs : CS S R) (hc : ClW I 1 A) (hb : BA A) (hn : 3 ≤ n) (hp : ∀ I', ClW I' 1 (f_undo A).2 → Fw I I' → Post (some (.int (iI (f_undo A).1))) S I' R) : Call n 0 0 mX11_undo [.ref (S.2.1 0)] S I R Post := by
  obtain ⟨⟨⟨c0, c7, c8, c9, c10, c11⟩, cq⟩, ⟨⟨t1, t2, t3, t4, t5, t6, t7, t8, t9⟩, tq, th, tb, ts, td⟩, cb, cp⟩ := id hc
  dsimp only [Nat.reduceAdd] at c0 c7 c8 c9 c10 c11 cq t1 t2 t3 t4 t5 t6 t7 t8 t9 tq th tb ts td
  obtain ⟨⟨b0, b1, b2, b3, b4, bq, bl⟩, ⟨d1, d2, d3, d4, d5, d6, d7⟩, dq, dh, db, ds, dd, dp⟩ := id hb
  have b7 : 0 ≤ A 7 ∧ A 7 ≤ 9999 := b1
  have b8 : 0 ≤ A 8 ∧ A 8 ≤ 30870 := b2
  have b9 : 0 ≤ A 9 ∧ A 9 ≤ 9999 := b3
  have b10 : 0 ≤ A 10 ∧ A 10 ≤ 1 := b4
  have b11 : 0 ≤ A 11 ∧ A 11 ≤ 16 := by have h1 := lns_b (fun q => A (6 + 6 + 3 * q)) (A 0).toNat; have h2 : A 11 = _ := bl; omega
  refine Call.of (by decide +kernel) (Nat.le_of_ble_eq_true rfl) ?_
  show WP _ _ _ _ _ 0 [(0, _)] [] 0 0 _ _ _
  refine x_aload_n dX11_undo_0 rfl ?_
  refine x_getR (b := 1) dX11_undo_1 gf_RX11_10 (k_ob_0 cs) (fun _ _ => rfl) (k_r_0_0 cs) ?_
  refine x_callV0 (mc1 := 0) (ms1 := 0) dX11_undo_4 cv_RX11_158 (ci := 10) (k_ob_1 cs) rfl (Nat.le_of_ble_eq_true rfl) (n1 := n - 1) (by omega) (by omega) (by omega) ?_
  refine sp_X10_takeStepBack cs hc hb (by omega) (fun I4 hI4 hF4 => ?_)
  generalize hr : (if A 3 = 0 then (0 : Int) else 1) = r4
  have hr4 : (r4 = 0 ∧ A 3 = 0) ∨ (r4 = 1 ∧ A 3 ≠ 0) := by split at hr <;> omega
  refine x_if_eq 20 dX11_undo_7 (by decide) (by omega) (fun w7 => ?_) (fun w7 => ?_)
  · refine x_iconst dX11_undo_20 ?_
    exact x_ireturn dX11_undo_21 rfl (by omega) (by omega) (by first | (have e : (f_undo A).1 = -1 := (by unfold f_undo; rw [if_pos (by omega)]); rw [e] at hp; exact hp _ hI4 hF4) | (have e : (f_undo A).1 = A 3 - 1 := (by unfold f_undo; rw [if_neg (by omega)]); rw [e] at hp; exact hp _ hI4 hF4))
  · refine x_aload_n dX11_undo_10 rfl ?_
    refine x_getR (b := 1) dX11_undo_11 gf_RX11_10 (k_ob_0 cs) (fun _ _ => rfl) (k_r_0_0 cs) ?_
    refine x_getIv (z := A 3 - 1) dX11_undo_14 gf_RX11_162 (k_ob_1 cs) (fun _ _ => rfl) (by have q := hI4.2.1.1.2.2.1; (try dsimp only [Nat.reduceAdd] at q); rw [← q, show (f_undo A).2 = undoA A by unfold f_undo; rw [if_neg (by omega)]]; exact (undo_rows hb (by omega)).1.2) ?_
    refine x_goto 21 dX11_undo_17 (by decide) ?_
    exact x_ireturn dX11_undo_21 rfl (by omega) (by omega) (by first | (have e : (f_undo A).1 = -1 := (by unfold f_undo; rw [if_pos (by omega)]); rw [e] at hp; exact hp _ hI4 hF4) | (have e : (f_undo A).1 = A 3 - 1 := (by unfold f_undo; rw [if_neg (by omega)]); rw [e] at hp; exact hp _ hI4 hF4))
end Undo
