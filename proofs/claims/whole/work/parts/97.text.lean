section Text1
/-! a text: its clauses, as the class reads them and as the reference does -/
variable {t : Nat → Int} {l : Nat}
def figF (lo hi : Int) (cu : Cu) : Int := if cu.2.2.1 = 2 then (if lo ≤ cu.2.2.2 ∧ cu.2.2.2 ≤ hi then 0 else 2) else 1
def dlo (w : Int) : Int := if w = 142 ∨ w = 128 then 1 else 0
def dhi (w : Int) : Int := if w = 142 then 999 else if w = 128 then 60 else 7
/-- what a deed gives: a fault, what is told, the cursor -/
def deed (t : Nat → Int) (l : Nat) (w : Int) (cu : Cu) : Int × (Int × Int × Int) × Cu :=
  if w = 138 then
    if figF 0 5 cu = 0 then
      if (adv t l cu.1).2.2.1 = 139 then
        if figF 0 5 (adv t l (adv t l cu.1).1) = 0 then
          if (adv t l (adv t l (adv t l cu.1).1).1).2.2.1 = 131 then
            if figF 1 99 (adv t l (adv t l (adv t l (adv t l cu.1).1).1).1) = 0 then
              (0, (cu.2.2.2, (adv t l (adv t l cu.1).1).2.2.2, (adv t l (adv t l (adv t l (adv t l cu.1).1).1).1).2.2.2), adv t l (adv t l (adv t l (adv t l (adv t l cu.1).1).1).1).1)
            else (figF 1 99 (adv t l (adv t l (adv t l (adv t l cu.1).1).1).1), (0, 0, 0), adv t l (adv t l (adv t l (adv t l cu.1).1).1).1)
          else (1, (0, 0, 0), adv t l (adv t l (adv t l cu.1).1).1)
        else (figF 0 5 (adv t l (adv t l cu.1).1), (0, 0, 0), adv t l (adv t l cu.1).1)
      else (1, (0, 0, 0), adv t l cu.1)
    else (figF 0 5 cu, (0, 0, 0), cu)
  else if figF (dlo w) (dhi w) cu = 0 then (0, (cu.2.2.2, 0, 0), adv t l cu.1)
  else (figF (dlo w) (dhi w) cu, (0, 0, 0), cu)
abbrev CE : Type := Int × Int × Int × Int
abbrev TMS : Type := List CE × List Int × Cu
abbrev isCl (w : Int) : Prop := w = 136 ∨ w = 137 ∨ w = 138 ∨ w = 140 ∨ w = 141 ∨ w = 142 ∨ w = 128
abbrev isLw (w : Int) : Prop := w = 136 ∨ w = 137
def hasL (cl : List CE) (w : Int) : Prop := ∃ e ∈ cl, e.1 = w
def ClG (t : Nat → Int) (l : Nat) (s s2 : TMS) : Prop := isCl s.2.2.2.2.1 ∧ s.1.length < 24 ∧
  ((isLw s.2.2.2.2.1 ∧ ¬ hasL s.1 s.2.2.2.2.1 ∧ ∃ cu1 c1, SumG t l (decide (s.2.2.2.2.1 = 137)) 0 (adv t l s.2.2.1) s.2.1 cu1 c1 ∧ cu1.2.2.1 = 59 ∧ s2 = (s.1 ++ [(s.2.2.2.2.1, (s.2.1.length : Int), (c1.length : Int), 0)], c1, adv t l cu1.1))
  ∨ (¬ isLw s.2.2.2.2.1 ∧ (deed t l s.2.2.2.2.1 (adv t l s.2.2.1)).1 = 0 ∧ (deed t l s.2.2.2.2.1 (adv t l s.2.2.1)).2.2.2.2.1 = 59 ∧ s2 = (s.1 ++ [(s.2.2.2.2.1, (deed t l s.2.2.2.2.1 (adv t l s.2.2.1)).2.1)], s.2.1, adv t l (deed t l s.2.2.2.2.1 (adv t l s.2.2.1)).2.2.1)))
def ClF (t : Nat → Int) (l : Nat) (s : TMS) (f : Int) (pl : Nat) : Prop :=
  (¬ isCl s.2.2.2.2.1 ∧ f = 1 ∧ pl = s.2.2.2.1)
  ∨ (isLw s.2.2.2.2.1 ∧ hasL s.1 s.2.2.2.2.1 ∧ f = 4 ∧ pl = s.2.2.2.1)
  ∨ (isCl s.2.2.2.2.1 ∧ ¬ (isLw s.2.2.2.2.1 ∧ hasL s.1 s.2.2.2.2.1) ∧ s.1.length = 24 ∧ f = 6 ∧ pl = s.2.2.2.1)
  ∨ (isLw s.2.2.2.2.1 ∧ ¬ hasL s.1 s.2.2.2.2.1 ∧ s.1.length < 24 ∧ (SumF t l (decide (s.2.2.2.2.1 = 137)) 0 (adv t l s.2.2.1) s.2.1 f pl ∨ ∃ cu1 c1, SumG t l (decide (s.2.2.2.2.1 = 137)) 0 (adv t l s.2.2.1) s.2.1 cu1 c1 ∧ cu1.2.2.1 ≠ 59 ∧ f = 1 ∧ pl = cu1.2.1))
  ∨ (isCl s.2.2.2.2.1 ∧ ¬ isLw s.2.2.2.2.1 ∧ s.1.length < 24 ∧ (((deed t l s.2.2.2.2.1 (adv t l s.2.2.1)).1 ≠ 0 ∧ f = (deed t l s.2.2.2.2.1 (adv t l s.2.2.1)).1 ∧ pl = (deed t l s.2.2.2.2.1 (adv t l s.2.2.1)).2.2.2.1) ∨ ((deed t l s.2.2.2.2.1 (adv t l s.2.2.1)).1 = 0 ∧ (deed t l s.2.2.2.2.1 (adv t l s.2.2.1)).2.2.2.2.1 ≠ 59 ∧ f = 1 ∧ pl = (deed t l s.2.2.2.2.1 (adv t l s.2.2.1)).2.2.2.1)))
/-- a law's code within all code -/
def LawOK (sl : Bool) (code : List Int) (fr to : Int) : Prop := ∃ a w b, code = a ++ w ++ b ∧ fr = (a.length : Int) ∧ to = ((a ++ w).length : Int) ∧ (∀ x ∈ w, WdOK sl x) ∧ tyL w [] = some [false]
def EnOK (code : List Int) (e : CE) : Prop := isCl e.1 ∧ (isLw e.1 → LawOK (decide (e.1 = 137)) code e.2.1 e.2.2.1)
def LwC (cl : List CE) (w fr to : Int) : Prop := (∃ (c : Nat) (e : CE), cl[c]? = some e ∧ e.1 = w ∧ e.2.1 = fr ∧ e.2.2.1 = to ∧ (0 ≤ fr ∧ fr < to) ∧ ∀ (j : Nat) (e2 : CE), j < c → cl[j]? = some e2 → e2.1 ≠ w) ∨ (fr = 0 ∧ to = 0 ∧ ∀ e ∈ cl, e.1 ≠ w)
theorem law_app {sl : Bool} {code : List Int} {fr to : Int} {v : List Int} (h : LawOK sl code fr to) : LawOK sl (code ++ v) fr to := by
  obtain ⟨a, w, b, rfl, h2, h3, h4, h5⟩ := h
  exact ⟨a, w, b ++ v, by simp only [List.append_assoc], h2, h3, h4, h5⟩
theorem law_new {sl : Bool} {c c1 : List Int} (h : Ap sl false c c1) : LawOK sl c1 (c.length : Int) (c1.length : Int) := by
  obtain ⟨w, rfl, h1, h2⟩ := h
  exact ⟨c, w, [], by rw [List.append_nil], rfl, rfl, h1, h2 []⟩
theorem ap_lt {sl : Bool} {c c1 : List Int} (h : Ap sl false c c1) : c.length < c1.length := by
  obtain ⟨w, rfl, h1, h2⟩ := h
  cases w with
  | nil => have := h2 []; cases this
  | cons x w => rw [List.length_append, List.length_cons]; omega
theorem lw_has {cl : List CE} {w fr to : Int} (h : LwC cl w fr to) : hasL cl w ↔ 0 < to := by
  rcases h with ⟨c, e, h1, h2, h3, h4, h5, h6⟩ | ⟨h1, h2, h3⟩
  · exact ⟨fun _ => by omega, fun _ => ⟨e, List.mem_of_getElem? h1, h2⟩⟩
  · refine ⟨fun ⟨e, h4, h5⟩ => absurd h5 (h3 e h4), fun h => by omega⟩
theorem lw_keep {cl : List CE} {w fr to : Int} {x : CE} (h : LwC cl w fr to) (hx : x.1 ≠ w) : LwC (cl ++ [x]) w fr to := by
  rcases h with ⟨c, e, h1, h2, h3, h4, h5, h6⟩ | ⟨h1, h2, h3⟩
  · have hc : c < cl.length := (List.getElem?_eq_some_iff.mp h1).1
    refine Or.inl ⟨c, e, by rw [List.getElem?_append_left hc]; exact h1, h2, h3, h4, h5, fun j e2 hj he => h6 j e2 hj ?_⟩
    rw [List.getElem?_append_left (by omega)] at he
    exact he
  · refine Or.inr ⟨h1, h2, fun e he => ?_⟩
    rcases List.mem_append.mp he with h | h
    · exact h3 e h
    · rw [List.mem_singleton.mp h]; exact hx
theorem lw_new {cl : List CE} {w fr to z : Int} (h : ¬ hasL cl w) (hf : 0 ≤ fr ∧ fr < to) : LwC (cl ++ [(w, fr, to, z)]) w fr to := by
  refine Or.inl ⟨cl.length, (w, fr, to, z), by simp, rfl, rfl, rfl, hf, fun j e2 hj he h2 => h ⟨e2, ?_, h2⟩⟩
  rw [List.getElem?_append_left hj] at he
  exact List.mem_of_getElem? he
end Text1
