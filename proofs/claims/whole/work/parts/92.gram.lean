section Gram
variable {t : Nat → Int} {l : Nat} {sl : Bool} {d : Nat} {cu cu1 cu2 cu3 : Cu} {c c1 c2 c3 : List Int} {f : Int} {pl : Nat}
def CuOK (l : Nat) (cu : Cu) : Prop := cu.2.1 ≤ cu.1 ∧ cu.1 ≤ l ∧ (cu.2.2.1 ≠ 0 → cu.2.1 < cu.1) ∧ (cu.2.2.1 = 0 ↔ cu.2.1 = l) ∧ (0 ≤ cu.2.2.1 ∧ cu.2.2.1 ≤ 151) ∧ (0 ≤ cu.2.2.2 ∧ cu.2.2.2 ≤ 10000)
theorem adv_ok {p : Nat} (h : p ≤ l) (h3 : l ≤ 300) : CuOK l (adv t l p) ∧ p ≤ (adv t l p).2.1 := by
  obtain ⟨a1, a2, a3, a4, a5, a6, a7⟩ := adv_b (t := t) h h3
  exact ⟨⟨a2, a3, a5, a4, a6, a7⟩, a1⟩
theorem cu_adv (h : CuOK l cu) (h3 : l ≤ 300) : CuOK l (adv t l cu.1) ∧ (cu.2.2.1 ≠ 0 → cu.2.1 < (adv t l cu.1).2.1) ∧ cu.2.1 ≤ (adv t l cu.1).2.1 := by
  obtain ⟨a1, a2⟩ := adv_ok (t := t) h.2.1 h3
  refine ⟨a1, fun h1 => ?_, ?_⟩
  · have := h.2.2.1 h1; omega
  · have := h.1; omega
def tyL : List Int → List Bool → Option (List Bool)
  | [], r => some r
  | x :: w, r => match tyS (x / 16384) r with | none => none | some q => tyL w q
theorem tyL_app : ∀ (w v : List Int) (r q : List Bool), tyL w r = some q → tyL (w ++ v) r = tyL v q := by
  intro w
  induction w with
  | nil => intro v r q h; cases h; rfl
  | cons x w ih =>
    intro v r q h
    simp only [tyL, List.cons_append] at h ⊢
    split at h
    · cases h
    · exact ih v _ q h
def WdOK (sl : Bool) (x : Int) : Prop := (0 ≤ x ∧ x < 311296) ∧ (x / 16384 = 1 → x % 16384 < 8 ∧ x % 16384 ≠ (if sl = true then 6 else 7))
def Ap (sl ty : Bool) (c c1 : List Int) : Prop := ∃ w, c1 = c ++ w ∧ (∀ x ∈ w, WdOK sl x) ∧ ∀ r, tyL w r = some (ty :: r)
theorem Ap0 {x : Int} (hx : WdOK sl x) (ht : ∀ r, tyS (x / 16384) r = some (false :: r)) : Ap sl false c (c ++ [x]) :=
  ⟨[x], rfl, fun y hy => by rw [List.mem_singleton.mp hy]; exact hx, fun r => by simp only [tyL, ht r]⟩
theorem Ap1 {x : Int} {a b : Bool} (h : Ap sl a c c1) (hx : WdOK sl x) (ht : ∀ r, tyS (x / 16384) (a :: r) = some (b :: r)) : Ap sl b c (c1 ++ [x]) := by
  obtain ⟨w, rfl, h1, h2⟩ := h
  refine ⟨w ++ [x], by rw [List.append_assoc], fun y hy => ?_, fun r => ?_⟩
  · rcases List.mem_append.mp hy with h3 | h3
    · exact h1 y h3
    · rw [List.mem_singleton.mp h3]; exact hx
  · rw [tyL_app _ _ _ _ (h2 r)]
    simp only [tyL, ht r]
theorem Ap2 {x : Int} {a a2 b : Bool} (h : Ap sl a c c1) (g : Ap sl a2 c1 c2) (hx : WdOK sl x) (ht : ∀ r, tyS (x / 16384) (a2 :: a :: r) = some (b :: r)) : Ap sl b c (c2 ++ [x]) := by
  obtain ⟨w, rfl, h1, h2⟩ := h
  obtain ⟨v, rfl, g1, g2⟩ := g
  refine ⟨w ++ v ++ [x], by simp only [List.append_assoc], fun y hy => ?_, fun r => ?_⟩
  · rcases List.mem_append.mp hy with h3 | h3
    · rcases List.mem_append.mp h3 with h4 | h4
      · exact h1 y h4
      · exact g1 y h4
    · rw [List.mem_singleton.mp h3]; exact hx
  · rw [List.append_assoc, tyL_app _ _ _ _ (h2 r), tyL_app _ _ _ _ (g2 (a :: r))]
    simp only [tyL, ht r]
theorem Ap3 {x : Int} {a a2 a3 b : Bool} (h : Ap sl a c c1) (g : Ap sl a2 c1 c2) (k : Ap sl a3 c2 c3) (hx : WdOK sl x) (ht : ∀ r, tyS (x / 16384) (a3 :: a2 :: a :: r) = some (b :: r)) : Ap sl b c (c3 ++ [x]) := by
  obtain ⟨w, rfl, h1, h2⟩ := h
  obtain ⟨v, rfl, g1, g2⟩ := g
  obtain ⟨u, rfl, k1, k2⟩ := k
  refine ⟨w ++ (v ++ (u ++ [x])), by simp only [List.append_assoc], fun y hy => ?_, fun r => ?_⟩
  · rcases List.mem_append.mp hy with h3 | h3
    · exact h1 y h3
    · rcases List.mem_append.mp h3 with h4 | h4
      · exact g1 y h4
      · rcases List.mem_append.mp h4 with h5 | h5
        · exact k1 y h5
        · rw [List.mem_singleton.mp h5]; exact hx
  · rw [tyL_app _ _ _ _ (h2 r), tyL_app _ _ _ _ (g2 (a :: r)), tyL_app _ _ _ _ (k2 (a2 :: a :: r))]
    simp only [tyL, ht r]
theorem wd_op {x : Int} (h : 0 ≤ x ∧ x ≤ 18) (h1 : x ≠ 1) : WdOK sl (x * 16384) := by
  refine ⟨by omega, fun h2 => ?_⟩
  exfalso; omega
/-- what is written never outruns the tape -/
def Sl (cu : Cu) (c : List Int) (cu1 : Cu) (c1 : List Int) : Prop := cu.2.1 < cu1.2.1 ∧ c1.length + cu.2.1 ≤ c.length + cu1.2.1
theorem Sl.op {x : Int} (h : Sl cu c cu1 c1) (h1 : cu1.2.1 < cu2.2.1) (h2 : Sl cu2 c1 cu3 c3) : Sl cu c cu3 (c3 ++ [x]) := by
  obtain ⟨a, b⟩ := h
  obtain ⟨a1, b1⟩ := h2
  refine ⟨by omega, ?_⟩
  rw [List.length_append, List.length_singleton]
  omega
theorem Sl.adv (h : Sl cu c cu1 c1) (h1 : cu1.2.1 ≤ cu2.2.1) : Sl cu c cu2 c1 := ⟨by have := h.1; omega, by have := h.2; omega⟩
theorem Sl.pre (h1 : cu.2.1 < cu1.2.1) (h : Sl cu1 c cu2 c2) : Sl cu c cu2 c2 := ⟨by have := h.1; omega, by have := h.2; omega⟩
theorem Sl.prx {x : Int} (h1 : cu.2.1 < cu1.2.1) (h : Sl cu1 c cu2 c2) : Sl cu c cu2 (c2 ++ [x]) := ⟨by have := h.1; omega, by have := h.2; rw [List.length_append, List.length_singleton]; omega⟩
theorem Sl.tr (h : Sl cu c cu1 c1) (h2 : Sl cu1 c1 cu2 c2) : Sl cu c cu2 c2 := ⟨by have := h.1; have := h2.1; omega, by have := h.2; have := h2.2; omega⟩
def Sl1 (cu : Cu) (c : List Int) (cu1 : Cu) (c1 : List Int) : Prop := cu.2.1 < cu1.2.1 ∧ c1.length + cu.2.1 ≤ c.length + cu1.2.1 + 1
theorem Sl1.of (h : Sl cu c cu1 c1) : Sl1 cu c cu1 c1 := ⟨h.1, by have := h.2; omega⟩
theorem Sl1.w {x : Int} (h : Sl cu c cu1 c1) : Sl1 cu c cu1 (c1 ++ [x]) := ⟨h.1, by have := h.2; rw [List.length_append, List.length_singleton]; omega⟩
theorem Sl1.pre (h1 : cu.2.1 < cu1.2.1) (h : Sl1 cu1 c cu2 c2) : Sl cu c cu2 c2 := ⟨by have := h.1; omega, by have := h.2; omega⟩
def lo (k : Int) (p : List Int) : Prop := (∀ c, stl k p c = (p, c)) ∧ p.head? ≠ some 41
theorem lo_c {k o : Int} {p : List Int} (h : rk o < k) (h2 : o ≠ 41) : lo k (o :: p) := ⟨fun c => stl_no h, by simpa using h2⟩
theorem lo_up {k i : Int} {p : List Int} (h : lo k p) (hi : k ≤ i) : lo i p := by
  refine ⟨fun c => ?_, h.2⟩
  have h1 := h.1 c
  cases p with
  | nil => rfl
  | cons o p =>
    by_cases ho : k ≤ rk o
    · rw [stl_go ho] at h1
      exfalso
      have : ∀ (q c : List Int), (stl k q c).1.length ≤ q.length := by
        intro q
        induction q with
        | nil => intro c; exact Nat.le_refl _
        | cons y q ih =>
          intro c
          by_cases hy : k ≤ rk y
          · rw [stl_go hy]; have := ih (c ++ [ivm y * 16384]); rw [List.length_cons]; omega
          · rw [stl_no (k := k) (by omega)]; exact Nat.le_refl _
      have h3 := this p (c ++ [ivm o * 16384])
      rw [h1, List.length_cons] at h3
      omega
    · exact stl_no (by omega)
theorem nOp_c {o : Int} {p : List Int} (h : opT o = true) : nOp (o :: p) = nOp p + 1 := by
  show (if opT o then 1 else 0) + nOp p = _
  rw [if_pos h]; omega
theorem nOp_n {o : Int} {p : List Int} (h : opT o = false) : nOp (o :: p) = nOp p := by
  show (if opT o then 1 else 0) + nOp p = _
  rw [h]; simp
theorem ask_f {o : Int} {p : List Int} (h : o < 40) (h2 : ¬ (1 ≤ rk o ∧ rk o ≤ 3)) : askA (o :: p) = false := by
  have : hdA (o :: p) = false := decide_eq_false (by omega)
  unfold askA
  rw [this, Bool.and_false]
theorem ask_o {o : Int} {p : List Int} (h : 40 ≤ o) (h2 : o ≠ 42) : askA (o :: p) = false := by
  have : opn (o :: p) = o := if_pos h
  unfold askA
  rw [this, decide_eq_false h2]; rfl
theorem ask_opn {p : List Int} (h : askA p = true) : opn p = 42 := by
  unfold askA at h
  simp only [Bool.and_eq_true, decide_eq_true_eq] at h
  exact h.1
theorem ask_hd {p : List Int} (h : askA p = true) : hdA p = true := by
  unfold askA at h
  simp only [Bool.and_eq_true, decide_eq_true_eq] at h
  exact h.2
theorem ask_i {o : Int} {p : List Int} (h : opn (o :: p) = 42) (h2 : 40 ≤ o ∨ (1 ≤ rk o ∧ rk o ≤ 3)) : askA (o :: p) = true := by
  have : hdA (o :: p) = true := decide_eq_true h2
  unfold askA
  rw [h, this]; rfl
theorem ask_cmp {p : List Int} (h : askA p = true) : cmpd p = false := by
  have h1 := ask_hd h
  cases p with
  | nil => rfl
  | cons o p =>
    have h2 : 40 ≤ o ∨ (1 ≤ rk o ∧ rk o ≤ 3) := of_decide_eq_true h1
    have h3 : rk o ≤ 3 := by
      rcases h2 with h2 | h2
      · have : rk o = 0 := if_pos h2
        omega
      · exact h2.2
    show (if 4 < rk o then _ else _) = _
    rw [if_neg (by omega)]
    exact decide_eq_false (by omega)
theorem ask_lo {p : List Int} (h : askA p = true) : lo 4 p := by
  have h1 := ask_hd h
  have h0 := ask_opn h
  cases p with
  | nil => exact ⟨fun _ => rfl, by simp⟩
  | cons o p =>
    have h2 : 40 ≤ o ∨ (1 ≤ rk o ∧ rk o ≤ 3) := of_decide_eq_true h1
    have h3 : rk o ≤ 3 := by
      rcases h2 with h2 | h2
      · have : rk o = 0 := if_pos h2
        omega
      · exact h2.2
    refine lo_c (by omega) (fun h4 => ?_)
    subst h4
    have : opn (41 :: p) = 41 := rfl
    omega
/-- what the readings of the class come to, for any pile below -/
def OneG (t : Nat → Int) (l : Nat) (sl : Bool) (d : Nat) (cu : Cu) (c : List Int) (cu1 : Cu) (c1 : List Int) : Prop := Ap sl false c c1 ∧ Sl cu c cu1 c1 ∧ ∀ p, nOp p = d → (cu.2.2.1 = 149 → askA p = false) → Rch t l sl (p, false, cu, c) (endO t l p cu1 c1)
def OneF (t : Nat → Int) (l : Nat) (sl : Bool) (d : Nat) (cu : Cu) (c : List Int) (f : Int) (pl : Nat) : Prop := ∀ p, nOp p = d → (cu.2.2.1 = 149 → askA p = false) → Fal t l sl (p, false, cu, c) f pl
def OpnG (t : Nat → Int) (l : Nat) (sl : Bool) (o : Int) (d : Nat) (cu : Cu) (c : List Int) (cu1 : Cu) (c1 : List Int) : Prop := Ap sl false c c1 ∧ Sl1 cu c cu1 c1 ∧ ∀ p, nOp p + 1 = d → Rch t l sl (o :: p, false, cu, c) (endO t l p cu1 c1)
def OpnF (t : Nat → Int) (l : Nat) (sl : Bool) (o : Int) (d : Nat) (cu : Cu) (c : List Int) (f : Int) (pl : Nat) : Prop := ∀ p, nOp p + 1 = d → Fal t l sl (o :: p, false, cu, c) f pl
def PrdI (t : Nat → Int) (l : Nat) (sl : Bool) (d : Nat) (cu : Cu) (c : List Int) (cu1 : Cu) (c1 : List Int) : Prop := Ap sl false c c1 ∧ Sl cu c cu1 c1 ∧ ∀ p, nOp p = d → (cu.2.2.1 = 149 → askA p = false) → lo 6 p → ∃ q b, Go t l sl (p, false, cu, c) (q, true, cu1, b) ∧ stl 6 q b = (p, c1)
def PrdF (t : Nat → Int) (l : Nat) (sl : Bool) (d : Nat) (cu : Cu) (c : List Int) (f : Int) (pl : Nat) : Prop := ∀ p, nOp p = d → (cu.2.2.1 = 149 → askA p = false) → lo 6 p → Fal t l sl (p, false, cu, c) f pl
def PrdG (t : Nat → Int) (l : Nat) (sl : Bool) (d : Nat) (cu : Cu) (c : List Int) (cu1 : Cu) (c1 : List Int) : Prop := PrdI t l sl d cu c cu1 c1 ∧ cu1.2.2.1 ≠ 42 ∧ cu1.2.2.1 ≠ 47
def SumI (t : Nat → Int) (l : Nat) (sl : Bool) (d : Nat) (cu : Cu) (c : List Int) (cu1 : Cu) (c1 : List Int) : Prop := (Ap sl false c c1 ∧ Sl cu c cu1 c1 ∧ ∀ p, nOp p = d → (cu.2.2.1 = 149 → askA p = false) → lo 5 p → ∃ q b, Go t l sl (p, false, cu, c) (q, true, cu1, b) ∧ stl 5 q b = (p, c1)) ∧ cu1.2.2.1 ≠ 42 ∧ cu1.2.2.1 ≠ 47
def SumF (t : Nat → Int) (l : Nat) (sl : Bool) (d : Nat) (cu : Cu) (c : List Int) (f : Int) (pl : Nat) : Prop := ∀ p, nOp p = d → (cu.2.2.1 = 149 → askA p = false) → lo 5 p → Fal t l sl (p, false, cu, c) f pl
def SumG (t : Nat → Int) (l : Nat) (sl : Bool) (d : Nat) (cu : Cu) (c : List Int) (cu1 : Cu) (c1 : List Int) : Prop := SumI t l sl d cu c cu1 c1 ∧ cu1.2.2.1 ≠ 43 ∧ cu1.2.2.1 ≠ 45
def AskG (t : Nat → Int) (l : Nat) (sl : Bool) (d : Nat) (cu : Cu) (c : List Int) (cu1 : Cu) (c1 : List Int) : Prop := (Ap sl true c c1 ∧ Sl cu c cu1 c1 ∧ ∀ p, nOp p = d → askA p = true → ∃ q b, Go t l sl (p, false, cu, c) (q, true, cu1, b) ∧ stl 3 q b = stl 3 p c1 ∧ cmpd q = true ∧ opn q = 42) ∧ cu1.2.2.1 ≠ 43 ∧ cu1.2.2.1 ≠ 45 ∧ cu1.2.2.1 ≠ 42 ∧ cu1.2.2.1 ≠ 47
def AskF (t : Nat → Int) (l : Nat) (sl : Bool) (d : Nat) (cu : Cu) (c : List Int) (f : Int) (pl : Nat) : Prop := ∀ p, nOp p = d → askA p = true → Fal t l sl (p, false, cu, c) f pl
def BthI (t : Nat → Int) (l : Nat) (sl : Bool) (d : Nat) (cu : Cu) (c : List Int) (cu1 : Cu) (c1 : List Int) : Prop := (Ap sl true c c1 ∧ Sl cu c cu1 c1 ∧ ∀ p, nOp p = d → askA p = true → lo 2 p → ∃ q b, Go t l sl (p, false, cu, c) (q, true, cu1, b) ∧ stl 2 q b = (p, c1) ∧ cmpd q = true ∧ opn q = 42) ∧ cu1.2.2.1 ≠ 43 ∧ cu1.2.2.1 ≠ 45 ∧ cu1.2.2.1 ≠ 42 ∧ cu1.2.2.1 ≠ 47
def BthF (t : Nat → Int) (l : Nat) (sl : Bool) (d : Nat) (cu : Cu) (c : List Int) (f : Int) (pl : Nat) : Prop := ∀ p, nOp p = d → askA p = true → lo 2 p → Fal t l sl (p, false, cu, c) f pl
def BthG (t : Nat → Int) (l : Nat) (sl : Bool) (d : Nat) (cu : Cu) (c : List Int) (cu1 : Cu) (c1 : List Int) : Prop := BthI t l sl d cu c cu1 c1 ∧ cu1.2.2.1 ≠ 150
def EitI (t : Nat → Int) (l : Nat) (sl : Bool) (d : Nat) (cu : Cu) (c : List Int) (cu1 : Cu) (c1 : List Int) : Prop := (Ap sl true c c1 ∧ Sl cu c cu1 c1 ∧ ∀ p, nOp p = d → askA p = true → lo 1 p → ∃ q b, Go t l sl (p, false, cu, c) (q, true, cu1, b) ∧ stl 1 q b = (p, c1) ∧ cmpd q = true ∧ opn q = 42) ∧ (cu1.2.2.1 ≠ 43 ∧ cu1.2.2.1 ≠ 45 ∧ cu1.2.2.1 ≠ 42 ∧ cu1.2.2.1 ≠ 47) ∧ cu1.2.2.1 ≠ 150
def EitF (t : Nat → Int) (l : Nat) (sl : Bool) (d : Nat) (cu : Cu) (c : List Int) (f : Int) (pl : Nat) : Prop := ∀ p, nOp p = d → askA p = true → lo 1 p → Fal t l sl (p, false, cu, c) f pl
def EitG (t : Nat → Int) (l : Nat) (sl : Bool) (d : Nat) (cu : Cu) (c : List Int) (cu1 : Cu) (c1 : List Int) : Prop := EitI t l sl d cu c cu1 c1 ∧ cu1.2.2.1 ≠ 151
/-! steps behind one -/
theorem beh_op {o k : Int} {p q b : List Int} (hb : btw q cu.2.2.1 = o) (ho : 0 ≤ o) (hk : (if rk o = 4 then 5 else rk o) = k) (e : stl k q b = (p, c)) : stp t l sl (q, true, cu, b) = (0, (o :: p, false, adv t l cu.1, c)) := by
  show behO t l q cu b = _
  unfold behO
  rw [hb, if_pos ho, hk, e]
theorem beh_sh {o : Int} {p q b : List Int} (hb : btw q cu.2.2.1 = -1) (hp : prt q cu.2.2.1 = 0) (e : stl 1 q b = (o :: p, c)) : stp t l sl (q, true, cu, b) = endO t l p (adv t l cu.1) (if opn q = 44 then c ++ [294912] else c) := by
  show behO t l q cu b = _
  unfold behO
  rw [hb, if_neg (by decide), hp, if_neg (by decide), e]
  exact if_pos rfl
theorem beh_pt {o v : Int} {p q b : List Int} (hb : btw q cu.2.2.1 = -1) (hp : prt q cu.2.2.1 = v) (hv : 0 < v) (e : stl 1 q b = (o :: p, c)) : stp t l sl (q, true, cu, b) = (0, (v :: p, false, adv t l cu.1, c)) := by
  show behO t l q cu b = _
  unfold behO
  rw [hb, if_neg (by decide), hp, if_neg (by omega), e]
  exact if_neg (by omega)
theorem beh_no {q b : List Int} (hb : btw q cu.2.2.1 = -1) (hp : prt q cu.2.2.1 = -1) (ho : 0 ≤ opn q) : stp t l sl (q, true, cu, b) = (1, (q, true, cu, b)) := by
  show behO t l q cu b = _
  unfold behO
  rw [hb, if_neg (by decide), hp, if_pos (by decide), if_pos ho]
theorem beh_end {q b : List Int} (hb : btw q cu.2.2.1 = -1) (hp : prt q cu.2.2.1 = -1) (ho : opn q < 0) : stp t l sl (q, true, cu, b) = (-1, (q, true, cu, b)) := by
  show behO t l q cu b = _
  unfold behO
  rw [hb, if_neg (by decide), hp, if_pos (by decide), if_neg (by omega)]
theorem btw_n {q : List Int} {k : Int} (h : k ≠ 43 ∧ k ≠ 45 ∧ k ≠ 42 ∧ k ≠ 47) (ho : opn q ≠ 42) : btw q k = -1 := by
  unfold btw
  rw [if_neg h.1, if_neg h.2.1, if_neg h.2.2.1, if_neg h.2.2.2, if_pos ho]
theorem btw_c {q : List Int} {k : Int} (h : k ≠ 43 ∧ k ≠ 45 ∧ k ≠ 42 ∧ k ≠ 47) (ho : opn q = 42) (hc : cmpd q = false) : btw q k = cmpO k := by
  unfold btw
  rw [if_neg h.1, if_neg h.2.1, if_neg h.2.2.1, if_neg h.2.2.2, if_neg (by omega), if_pos hc]
theorem btw_a {q : List Int} {k : Int} (h : k ≠ 43 ∧ k ≠ 45 ∧ k ≠ 42 ∧ k ≠ 47) (ho : opn q = 42) (hc : cmpd q = true) : btw q k = if k = 150 then 21 else if k = 151 then 22 else -1 := by
  unfold btw
  rw [if_neg h.1, if_neg h.2.1, if_neg h.2.2.1, if_neg h.2.2.2, if_neg (by omega), if_neg (by rw [hc]; decide)]
theorem prt_40 {q : List Int} {k : Int} (ho : opn q = 40) : prt q k = if k = 41 then 0 else -1 := by
  unfold prt; rw [if_pos ho]
theorem prt_42 {q : List Int} {k : Int} (ho : opn q = 42) : prt q k = if k = 146 ∧ cmpd q = true then 43 else -1 := by
  unfold prt; rw [if_neg (by omega), if_pos ho]
theorem prt_43 {q : List Int} {k : Int} (ho : opn q = 43) : prt q k = if k = 147 then 44 else -1 := by
  unfold prt; rw [if_neg (by omega), if_neg (by omega), if_pos ho]
theorem prt_44 {q : List Int} {k : Int} (ho : opn q = 44) : prt q k = if k = 148 then 0 else -1 := by
  unfold prt; rw [if_neg (by omega), if_neg (by omega), if_neg (by omega), if_pos ho]
end Gram
