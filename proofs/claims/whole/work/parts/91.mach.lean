section Mach
/-- how closely what waits binds; what is written of it, as the class writes it -/
def rk (o : Int) : Int := if 40 ≤ o then 0 else if o = 22 then 1 else if o = 21 then 2 else if o = 20 then 3 else if 10 ≤ o then 4 else if o = 5 ∨ o = 2 ∨ o = 4 then 7 else if 8 ≤ o then 6 else 5
def ivm (o : Int) : Int := if o = 5 then 2 else if o = 2 then 3 else if o = 20 then 4 else if o = 6 then 5 else if o = 7 then 6 else if o = 8 then 7 else if o = 9 then 8 else if o = 4 then 9 else if o = 21 then 16 else if o = 22 then 17 else o
def stl (k : Int) : List Int → List Int → List Int × List Int
  | [], c => ([], c)
  | o :: p, c => if k ≤ rk o then stl k p (c ++ [ivm o * 16384]) else (o :: p, c)
theorem stl_no {k o : Int} {p c : List Int} (h : rk o < k) : stl k (o :: p) c = (o :: p, c) := by
  show (if k ≤ rk o then _ else _) = _
  rw [if_neg (by omega)]
theorem stl_go {k o : Int} {p c : List Int} (h : k ≤ rk o) : stl k (o :: p) c = stl k p (c ++ [ivm o * 16384]) := by
  show (if k ≤ rk o then _ else _) = _
  rw [if_pos h]
theorem stl_stl {k i : Int} (h : k ≤ i) : ∀ (p c : List Int), stl k (stl i p c).1 (stl i p c).2 = stl k p c := by
  intro p
  induction p with
  | nil => intro c; rfl
  | cons o p ih =>
    intro c
    by_cases ho : i ≤ rk o
    · rw [stl_go ho, ih, stl_go (k := k) (by omega)]
    · rw [stl_no (k := i) (by omega)]
theorem stl_mono {k i : Int} {p p' c c' : List Int} (h : k ≤ i) (e : stl i p' c' = stl i p c) : stl k p' c' = stl k p c := by
  rw [← stl_stl h p' c', e, stl_stl h]
def opn : List Int → Int
  | [] => -1
  | o :: p => if 40 ≤ o then o else opn p
def cmpd : List Int → Bool
  | [] => false
  | o :: p => if 4 < rk o then cmpd p else decide (rk o = 4)
def hdA : List Int → Bool
  | [] => false
  | o :: _ => decide (40 ≤ o ∨ (1 ≤ rk o ∧ rk o ≤ 3))
def askA (p : List Int) : Bool := decide (opn p = 42) && hdA p
def opT (o : Int) : Bool := decide (40 ≤ o ∨ rk o = 7 ∨ o = 20)
def nOp : List Int → Nat
  | [] => 0
  | o :: p => (if opT o then 1 else 0) + nOp p
theorem rk_b (o : Int) : 0 ≤ rk o ∧ rk o ≤ 7 := by
  unfold rk
  repeat' split
  all_goals omega
theorem rk_40 {o : Int} (h : 1 ≤ rk o) : o < 40 := by
  apply Classical.byContradiction
  intro h2
  have : rk o = 0 := if_pos (by omega)
  omega
theorem opn_stl {k : Int} (h : 1 ≤ k) : ∀ (p c : List Int), opn (stl k p c).1 = opn p := by
  intro p
  induction p with
  | nil => intro c; rfl
  | cons o p ih =>
    intro c
    by_cases ho : k ≤ rk o
    · rw [stl_go ho, ih]
      have := rk_40 (o := o) (by omega)
      show _ = (if 40 ≤ o then o else opn p)
      rw [if_neg (by omega)]
    · rw [stl_no (k := k) (by omega)]
theorem cmpd_stl {k : Int} (h : 5 ≤ k) : ∀ (p c : List Int), cmpd (stl k p c).1 = cmpd p := by
  intro p
  induction p with
  | nil => intro c; rfl
  | cons o p ih =>
    intro c
    by_cases ho : k ≤ rk o
    · rw [stl_go ho, ih]
      show _ = (if 4 < rk o then cmpd p else _)
      rw [if_pos (by omega)]
    · rw [stl_no (k := k) (by omega)]
theorem opn_e {k : Int} {p p' c c' : List Int} (h : 1 ≤ k) (e : stl k p' c' = stl k p c) : opn p' = opn p := by
  rw [← opn_stl h p' c', e, opn_stl h]
theorem cmpd_e {k : Int} {p p' c c' : List Int} (h : 5 ≤ k) (e : stl k p' c' = stl k p c) : cmpd p' = cmpd p := by
  rw [← cmpd_stl h p' c', e, cmpd_stl h]
/-- a state: what waits, whether one is whole, the cursor, what is written; a step gives 0 and the next, -1 at the end, else a fault -/
abbrev MS : Type := List Int × Bool × Cu × List Int
variable (t : Nat → Int) (l : Nat)
def endO (p : List Int) (cu : Cu) (c : List Int) : Int × MS :=
  match stl 7 p c with
  | (q, c2) => if q.head? = some 41 then (if cu.2.2.1 = 139 then (0, (4 :: q.tail, false, adv t l cu.1, c2)) else (1, (q, true, cu, c2))) else (0, (q, true, cu, c2))
def opO (o : Int) (p : List Int) (cu : Cu) (c : List Int) : Int × MS := if nOp p = 8 then (3, (p, false, cu, c)) else (0, (o :: p, false, adv t l cu.1, c))
def begO (sl : Bool) (p : List Int) (cu : Cu) (c : List Int) : Int × MS :=
  if cu.2.2.1 = 2 ∧ 9999 < cu.2.2.2 then (2, (p, false, cu, c))
  else if (cu.2.2.1 = 134 ∧ sl = true) ∨ (cu.2.2.1 = 135 ∧ sl = false) then (5, (p, false, cu, c))
  else if cu.2.2.1 = 2 then endO t l p (adv t l cu.1) (c ++ [cu.2.2.2])
  else if 128 ≤ cu.2.2.1 ∧ cu.2.2.1 < 136 then endO t l p (adv t l cu.1) (c ++ [16384 + (cu.2.2.1 - 128)])
  else if cu.2.2.1 = 40 then opO t l 40 p cu c
  else if cu.2.2.1 = 45 then opO t l 5 p cu c
  else if cu.2.2.1 = 143 then opO t l 41 p cu c
  else if cu.2.2.1 = 144 then opO t l 2 p cu c
  else if cu.2.2.1 = 145 then opO t l 42 p cu c
  else if cu.2.2.1 = 149 ∧ askA p = true then opO t l 20 p cu c
  else (1, (p, false, cu, c))
def cmpO (k : Int) : Int := if k = 60 then 10 else if k = 3 then 11 else if k = 62 then 12 else if k = 4 then 13 else if k = 61 then 14 else if k = 35 then 15 else -1
def btw (p : List Int) (k : Int) : Int := if k = 43 then 6 else if k = 45 then 7 else if k = 42 then 8 else if k = 47 then 9 else if opn p ≠ 42 then -1 else if cmpd p = false then cmpO k else if k = 150 then 21 else if k = 151 then 22 else -1
def prt (p : List Int) (k : Int) : Int := if opn p = 40 then (if k = 41 then 0 else -1) else if opn p = 42 then (if k = 146 ∧ cmpd p = true then 43 else -1) else if opn p = 43 then (if k = 147 then 44 else -1) else if opn p = 44 then (if k = 148 then 0 else -1) else -1
def behO (p : List Int) (cu : Cu) (c : List Int) : Int × MS :=
  if 0 ≤ btw p cu.2.2.1 then
    (match stl (if rk (btw p cu.2.2.1) = 4 then 5 else rk (btw p cu.2.2.1)) p c with
     | (q, c2) => (0, (btw p cu.2.2.1 :: q, false, adv t l cu.1, c2)))
  else if prt p cu.2.2.1 < 0 then (if 0 ≤ opn p then (1, (p, true, cu, c)) else (-1, (p, true, cu, c)))
  else
    (match stl 1 p c with
     | (q, c2) => if prt p cu.2.2.1 = 0 then endO t l q.tail (adv t l cu.1) (if opn p = 44 then c2 ++ [294912] else c2) else (0, (prt p cu.2.2.1 :: q.tail, false, adv t l cu.1, c2)))
def stp (sl : Bool) (s : MS) : Int × MS := match s with
  | (p, true, cu, c) => behO t l p cu c
  | (p, false, cu, c) => begO t l sl p cu c
/-- from s on a state is reached whose step gives r -/
def Rch (sl : Bool) (s : MS) (r : Int × MS) : Prop := ∀ Q : MS → Prop, (∀ x, stp t l sl x = r → Q x) → (∀ x y, stp t l sl x = (0, y) → Q y → Q x) → Q s
def Go (sl : Bool) (s s' : MS) : Prop := ∀ Q : MS → Prop, (∀ x y, stp t l sl x = (0, y) → Q y → Q x) → Q s' → Q s
def Fal (sl : Bool) (s : MS) (f : Int) (pl : Nat) : Prop := ∀ Q : MS → Prop, (∀ x y, stp t l sl x = (0, y) → Q y → Q x) → (∀ x y, stp t l sl x = (f, y) → y.2.2.1.2.1 = pl → Q x) → Q s
variable {t : Nat → Int} {l : Nat} {sl : Bool} {s s' s'' : MS} {r : Int × MS} {f : Int} {pl : Nat}
theorem Go.rf : Go t l sl s s := fun _ _ h => h
theorem Go.tr (h : Go t l sl s s') (h2 : Go t l sl s' s'') : Go t l sl s s'' := fun Q hQ h3 => h Q hQ (h2 Q hQ h3)
theorem Go.one (h : stp t l sl s = (0, s')) : Go t l sl s s' := fun _ hQ h3 => hQ _ _ h h3
theorem Go.rch (h : Go t l sl s s') (h2 : Rch t l sl s' r) : Rch t l sl s r := fun Q hr hQ => h Q hQ (h2 Q hr hQ)
theorem Go.fal (h : Go t l sl s s') (h2 : Fal t l sl s' f pl) : Fal t l sl s f pl := fun Q hQ hf => h Q hQ (h2 Q hQ hf)
theorem Rch.one (h : stp t l sl s = r) : Rch t l sl s r := fun _ hr _ => hr _ h
theorem Rch.go (h : Rch t l sl s (0, s')) : Go t l sl s s' := fun Q hQ h3 => h Q (fun _ hx => hQ _ _ hx h3) hQ
theorem Rch.fal {y : MS} (h : Rch t l sl s (f, y)) (hy : y.2.2.1.2.1 = pl) : Fal t l sl s f pl := fun Q hQ hf => h Q (fun _ hx => hf _ _ hx hy) hQ
theorem Fal.one {y : MS} (h : stp t l sl s = (f, y)) (hy : y.2.2.1.2.1 = pl) : Fal t l sl s f pl := fun _ _ hf => hf _ _ h hy
theorem Go.stp (h : stp t l sl s = (0, s')) (h2 : Go t l sl s' s'') : Go t l sl s s'' := (Go.one h).tr h2
/-- one whole behind what waits for it -/
theorem endO_go {o : Int} {p : List Int} {cu : Cu} {c : List Int} (h : rk o = 7) : endO t l (o :: p) cu c = endO t l p cu (c ++ [ivm o * 16384]) := by
  unfold endO
  rw [stl_go (by omega)]
theorem endO_no {p : List Int} {cu : Cu} {c : List Int} (h : stl 7 p c = (p, c)) (h2 : p.head? ≠ some 41) : endO t l p cu c = (0, (p, true, cu, c)) := by
  unfold endO
  rw [h]
  exact if_neg h2
theorem endO_41 {p : List Int} {cu : Cu} {c : List Int} : endO t l (41 :: p) cu c = if cu.2.2.1 = 139 then (0, (4 :: p, false, adv t l cu.1, c)) else (1, (41 :: p, true, cu, c)) := by
  unfold endO
  rw [stl_no (show rk 41 < 7 by decide)]
  exact if_pos rfl
end Mach
