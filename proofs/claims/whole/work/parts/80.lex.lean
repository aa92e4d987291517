section Lex
/-- the end of a run -/
def rnE (b : Nat → Bool) : Nat → Nat → Nat
  | 0, p => p
  | n + 1, p => if b p = true then rnE b n (p + 1) else p
def eR (b : Nat → Bool) (l p : Nat) : Nat := rnE b (l - p) p
theorem eR_stop {b : Nat → Bool} {l p : Nat} (h : b p = false) : eR b l p = p := by
  unfold eR
  cases l - p with
  | zero => rfl
  | succ n => simp [rnE, h]
theorem eR_out {b : Nat → Bool} {l p : Nat} (h : l ≤ p) : eR b l p = p := by
  unfold eR
  rw [Nat.sub_eq_zero_of_le h]; rfl
theorem eR_go {b : Nat → Bool} {l p : Nat} (h : b p = true) (hl : p < l) : eR b l p = eR b l (p + 1) := by
  unfold eR
  rw [show l - p = (l - (p + 1)) + 1 by omega]
  simp [rnE, h]
theorem eR_spec {b : Nat → Bool} {l : Nat} : ∀ (d p : Nat), l - p = d → p ≤ eR b l p ∧ (p ≤ l → eR b l p ≤ l) ∧ (∀ i, p ≤ i → i < eR b l p → b i = true) ∧ (eR b l p < l → b (eR b l p) = false) := by
  intro d
  induction d with
  | zero =>
    intro p h
    rw [eR_out (by omega)]
    exact ⟨Nat.le_refl _, fun h => h, fun i h1 h2 => by omega, fun h => by omega⟩
  | succ d ih =>
    intro p h
    by_cases hb : b p = true
    · rw [eR_go hb (by omega)]
      obtain ⟨i1, i2, i3, i4⟩ := ih (p + 1) (by omega)
      refine ⟨by omega, fun _ => i2 (by omega), fun i h1 h2 => ?_, i4⟩
      by_cases hi : i = p
      · rw [hi]; exact hb
      · exact i3 i (by omega) h2
    · have hb' : b p = false := by simpa using hb
      rw [eR_stop hb']
      exact ⟨Nat.le_refl _, fun h => h, fun i h1 h2 => by omega, fun _ => hb'⟩
theorem eR_ge {b : Nat → Bool} {l p : Nat} : p ≤ eR b l p := (eR_spec _ p rfl).1
theorem eR_le {b : Nat → Bool} {l p : Nat} (h : p ≤ l) : eR b l p ≤ l := (eR_spec _ p rfl).2.1 h
theorem eR_in {b : Nat → Bool} {l p i : Nat} (h : p ≤ i) (h2 : i < eR b l p) : b i = true := (eR_spec _ p rfl).2.2.1 i h h2
theorem eR_end {b : Nat → Bool} {l p : Nat} (h : eR b l p < l) : b (eR b l p) = false := (eR_spec _ p rfl).2.2.2 h
abbrev ltP (c : Int) : Prop := (97 ≤ c ∧ c ≤ 122) ∨ (65 ≤ c ∧ c ≤ 90)
abbrev dgP (c : Int) : Prop := 48 ≤ c ∧ c ≤ 57
abbrev bkP (c : Int) : Prop := c = 32 ∨ c = 10
def lB (t : Nat → Int) (l i : Nat) : Bool := decide (i < l ∧ ltP (t i))
def dB (t : Nat → Int) (l i : Nat) : Bool := decide (i < l ∧ dgP (t i))
def kB (t : Nat → Int) (l i : Nat) : Bool := decide (i < l ∧ bkP (t i))
theorem lB_t {t : Nat → Int} {l i : Nat} : lB t l i = true ↔ (i < l ∧ ltP (t i)) := by simp [lB]
theorem dB_t {t : Nat → Int} {l i : Nat} : dB t l i = true ↔ (i < l ∧ dgP (t i)) := by simp [dB]
theorem kB_t {t : Nat → Int} {l i : Nat} : kB t l i = true ↔ (i < l ∧ bkP (t i)) := by simp [kB]
theorem lB_f {t : Nat → Int} {l i : Nat} : lB t l i = false ↔ ¬ (i < l ∧ ltP (t i)) := by rw [← lB_t]; simp
theorem dB_f {t : Nat → Int} {l i : Nat} : dB t l i = false ↔ ¬ (i < l ∧ dgP (t i)) := by rw [← dB_t]; simp
theorem kB_f {t : Nat → Int} {l i : Nat} : kB t l i = false ↔ ¬ (i < l ∧ bkP (t i)) := by rw [← kB_t]; simp
/-- a number: as the class has it, as the reference has it -/
def nuC (t : Nat → Int) (s : Nat) : Nat → Int
  | 0 => 0
  | k + 1 => if 10000 ≤ nuC t s k * 10 + t (s + k) - 48 then 10000 else nuC t s k * 10 + t (s + k) - 48
def nuR (t : Nat → Int) (s : Nat) : Nat → Int
  | 0 => 0
  | k + 1 => if 99999 < nuR t s k then nuR t s k else 10 * nuR t s k + t (s + k) - 48
theorem nu_rel {t : Nat → Int} {s : Nat} : ∀ k : Nat, (∀ i, i < k → dgP (t (s + i))) → (nuC t s k = nuR t s k ∧ 0 ≤ nuR t s k ∧ nuR t s k ≤ 9999) ∨ (nuC t s k = 10000 ∧ 10000 ≤ nuR t s k ∧ nuR t s k ≤ 2000000) := by
  intro k
  induction k with
  | zero => intro _; exact Or.inl ⟨rfl, Int.le_refl _, (show (0 : Int) ≤ 9999 by decide)⟩
  | succ k ih =>
    intro h
    have h1 := ih (fun i hi => h i (by omega))
    have h2 := h k (by omega)
    simp only [nuC, nuR]
    rcases h1 with ⟨a1, a2, a3⟩ | ⟨a1, a2, a3⟩
    · rw [a1, if_neg (show ¬ (99999 < nuR t s k) by omega)]
      split
      · right; omega
      · left; omega
    · rw [a1, if_pos (show (10000 : Int) ≤ 10000 * 10 + t (s + k) - 48 by omega)]
      right
      split <;> omega
/-- a word's letters, its number among the words -/
def wdL (t : Nat → Int) (s n : Nat) : List Int := (List.range n).map (fun i => t (s + i))
theorem wdL_len {t : Nat → Int} {s n : Nat} : (wdL t s n).length = n := by simp [wdL]
theorem wdL_get {t : Nat → Int} {s n i : Nat} (h : i < n) : (wdL t s n)[i]? = some (t (s + i)) := by simp [wdL, h]
def wds : List (List Int) := [[100, 97, 121], [114, 97, 105, 110], [110, 117, 109, 98, 101, 114], [119, 111, 114, 116, 104], [104, 101, 97, 116], [104, 101, 108, 100], [112, 117, 114, 115, 101], [112, 97, 119, 110, 101, 100], [100, 117, 101, 115], [115, 101, 108, 108, 115], [113, 117, 97, 114, 114, 101, 108], [98, 121], [112, 97, 119, 110], [114, 101, 100, 101, 101, 109], [101, 97, 114, 110], [114, 101, 115, 116], [104, 111, 116], [105, 102], [116, 104, 101, 110], [101, 108, 115, 101], [101, 110, 100], [110, 111, 116], [97, 110, 100], [111, 114]]
def kWL : List (List Int) → Int → List Int → Int
  | [], _, _ => 1
  | x :: r, k, w => if w = x then k else kWL r (k + 1) w
def kW (w : List Int) : Int := kWL wds 128 w
theorem kWL_spec {w : List Int} : ∀ (ws : List (List Int)) (k : Int), (kWL ws k w = 1 ∧ w ∉ ws) ∨ ∃ i : Nat, i < ws.length ∧ kWL ws k w = k + i ∧ ws[i]? = some w := by
  intro ws
  induction ws with
  | nil => intro k; exact Or.inl ⟨rfl, by simp⟩
  | cons x r ih =>
    intro k
    simp only [kWL]
    by_cases h : w = x
    · right
      refine ⟨0, by simp, ?_, by simp [h]⟩
      rw [if_pos h]; simp
    · rw [if_neg h]
      rcases ih (k + 1) with ⟨h1, h2⟩ | ⟨i, h1, h2, h3⟩
      · exact Or.inl ⟨h1, by simp [h, h2]⟩
      · right
        refine ⟨i + 1, by simp; omega, ?_, by simpa using h3⟩
        rw [h2]; push_cast; omega
theorem kW_r (w : List Int) : (kW w = 1 ∧ w ∉ wds) ∨ (128 ≤ kW w ∧ kW w ≤ 151) := by
  rcases kWL_spec (w := w) wds 128 with h | ⟨i, h1, h2, h3⟩
  · exact Or.inl h
  · right
    have : wds.length = 24 := rfl
    unfold kW
    omega
theorem kW_day {w : List Int} : kW w = 128 ↔ w = [100, 97, 121] := by
  constructor
  · intro h
    rcases kWL_spec (w := w) wds 128 with ⟨h1, -⟩ | ⟨i, h1, h2, h3⟩
    · unfold kW at h; omega
    · obtain rfl : i = 0 := by unfold kW at h; omega
      exact (Option.some.inj h3).symm
  · intro h; subst h; rfl
theorem kW_rain {w : List Int} : kW w = 129 ↔ w = [114, 97, 105, 110] := by
  constructor
  · intro h
    rcases kWL_spec (w := w) wds 128 with ⟨h1, -⟩ | ⟨i, h1, h2, h3⟩
    · unfold kW at h; omega
    · obtain rfl : i = 1 := by unfold kW at h; omega
      exact (Option.some.inj h3).symm
  · intro h; subst h; rfl
theorem kW_number {w : List Int} : kW w = 130 ↔ w = [110, 117, 109, 98, 101, 114] := by
  constructor
  · intro h
    rcases kWL_spec (w := w) wds 128 with ⟨h1, -⟩ | ⟨i, h1, h2, h3⟩
    · unfold kW at h; omega
    · obtain rfl : i = 2 := by unfold kW at h; omega
      exact (Option.some.inj h3).symm
  · intro h; subst h; rfl
theorem kW_worth {w : List Int} : kW w = 131 ↔ w = [119, 111, 114, 116, 104] := by
  constructor
  · intro h
    rcases kWL_spec (w := w) wds 128 with ⟨h1, -⟩ | ⟨i, h1, h2, h3⟩
    · unfold kW at h; omega
    · obtain rfl : i = 3 := by unfold kW at h; omega
      exact (Option.some.inj h3).symm
  · intro h; subst h; rfl
theorem kW_heat {w : List Int} : kW w = 132 ↔ w = [104, 101, 97, 116] := by
  constructor
  · intro h
    rcases kWL_spec (w := w) wds 128 with ⟨h1, -⟩ | ⟨i, h1, h2, h3⟩
    · unfold kW at h; omega
    · obtain rfl : i = 4 := by unfold kW at h; omega
      exact (Option.some.inj h3).symm
  · intro h; subst h; rfl
theorem kW_held {w : List Int} : kW w = 133 ↔ w = [104, 101, 108, 100] := by
  constructor
  · intro h
    rcases kWL_spec (w := w) wds 128 with ⟨h1, -⟩ | ⟨i, h1, h2, h3⟩
    · unfold kW at h; omega
    · obtain rfl : i = 5 := by unfold kW at h; omega
      exact (Option.some.inj h3).symm
  · intro h; subst h; rfl
theorem kW_purse {w : List Int} : kW w = 134 ↔ w = [112, 117, 114, 115, 101] := by
  constructor
  · intro h
    rcases kWL_spec (w := w) wds 128 with ⟨h1, -⟩ | ⟨i, h1, h2, h3⟩
    · unfold kW at h; omega
    · obtain rfl : i = 6 := by unfold kW at h; omega
      exact (Option.some.inj h3).symm
  · intro h; subst h; rfl
theorem kW_pawned {w : List Int} : kW w = 135 ↔ w = [112, 97, 119, 110, 101, 100] := by
  constructor
  · intro h
    rcases kWL_spec (w := w) wds 128 with ⟨h1, -⟩ | ⟨i, h1, h2, h3⟩
    · unfold kW at h; omega
    · obtain rfl : i = 7 := by unfold kW at h; omega
      exact (Option.some.inj h3).symm
  · intro h; subst h; rfl
theorem kW_dues {w : List Int} : kW w = 136 ↔ w = [100, 117, 101, 115] := by
  constructor
  · intro h
    rcases kWL_spec (w := w) wds 128 with ⟨h1, -⟩ | ⟨i, h1, h2, h3⟩
    · unfold kW at h; omega
    · obtain rfl : i = 8 := by unfold kW at h; omega
      exact (Option.some.inj h3).symm
  · intro h; subst h; rfl
theorem kW_sells {w : List Int} : kW w = 137 ↔ w = [115, 101, 108, 108, 115] := by
  constructor
  · intro h
    rcases kWL_spec (w := w) wds 128 with ⟨h1, -⟩ | ⟨i, h1, h2, h3⟩
    · unfold kW at h; omega
    · obtain rfl : i = 9 := by unfold kW at h; omega
      exact (Option.some.inj h3).symm
  · intro h; subst h; rfl
theorem kW_quarrel {w : List Int} : kW w = 138 ↔ w = [113, 117, 97, 114, 114, 101, 108] := by
  constructor
  · intro h
    rcases kWL_spec (w := w) wds 128 with ⟨h1, -⟩ | ⟨i, h1, h2, h3⟩
    · unfold kW at h; omega
    · obtain rfl : i = 10 := by unfold kW at h; omega
      exact (Option.some.inj h3).symm
  · intro h; subst h; rfl
theorem kW_by {w : List Int} : kW w = 139 ↔ w = [98, 121] := by
  constructor
  · intro h
    rcases kWL_spec (w := w) wds 128 with ⟨h1, -⟩ | ⟨i, h1, h2, h3⟩
    · unfold kW at h; omega
    · obtain rfl : i = 11 := by unfold kW at h; omega
      exact (Option.some.inj h3).symm
  · intro h; subst h; rfl
theorem kW_pawn {w : List Int} : kW w = 140 ↔ w = [112, 97, 119, 110] := by
  constructor
  · intro h
    rcases kWL_spec (w := w) wds 128 with ⟨h1, -⟩ | ⟨i, h1, h2, h3⟩
    · unfold kW at h; omega
    · obtain rfl : i = 12 := by unfold kW at h; omega
      exact (Option.some.inj h3).symm
  · intro h; subst h; rfl
theorem kW_redeem {w : List Int} : kW w = 141 ↔ w = [114, 101, 100, 101, 101, 109] := by
  constructor
  · intro h
    rcases kWL_spec (w := w) wds 128 with ⟨h1, -⟩ | ⟨i, h1, h2, h3⟩
    · unfold kW at h; omega
    · obtain rfl : i = 13 := by unfold kW at h; omega
      exact (Option.some.inj h3).symm
  · intro h; subst h; rfl
theorem kW_earn {w : List Int} : kW w = 142 ↔ w = [101, 97, 114, 110] := by
  constructor
  · intro h
    rcases kWL_spec (w := w) wds 128 with ⟨h1, -⟩ | ⟨i, h1, h2, h3⟩
    · unfold kW at h; omega
    · obtain rfl : i = 14 := by unfold kW at h; omega
      exact (Option.some.inj h3).symm
  · intro h; subst h; rfl
theorem kW_rest {w : List Int} : kW w = 143 ↔ w = [114, 101, 115, 116] := by
  constructor
  · intro h
    rcases kWL_spec (w := w) wds 128 with ⟨h1, -⟩ | ⟨i, h1, h2, h3⟩
    · unfold kW at h; omega
    · obtain rfl : i = 15 := by unfold kW at h; omega
      exact (Option.some.inj h3).symm
  · intro h; subst h; rfl
theorem kW_hot {w : List Int} : kW w = 144 ↔ w = [104, 111, 116] := by
  constructor
  · intro h
    rcases kWL_spec (w := w) wds 128 with ⟨h1, -⟩ | ⟨i, h1, h2, h3⟩
    · unfold kW at h; omega
    · obtain rfl : i = 16 := by unfold kW at h; omega
      exact (Option.some.inj h3).symm
  · intro h; subst h; rfl
theorem kW_if {w : List Int} : kW w = 145 ↔ w = [105, 102] := by
  constructor
  · intro h
    rcases kWL_spec (w := w) wds 128 with ⟨h1, -⟩ | ⟨i, h1, h2, h3⟩
    · unfold kW at h; omega
    · obtain rfl : i = 17 := by unfold kW at h; omega
      exact (Option.some.inj h3).symm
  · intro h; subst h; rfl
theorem kW_then {w : List Int} : kW w = 146 ↔ w = [116, 104, 101, 110] := by
  constructor
  · intro h
    rcases kWL_spec (w := w) wds 128 with ⟨h1, -⟩ | ⟨i, h1, h2, h3⟩
    · unfold kW at h; omega
    · obtain rfl : i = 18 := by unfold kW at h; omega
      exact (Option.some.inj h3).symm
  · intro h; subst h; rfl
theorem kW_else {w : List Int} : kW w = 147 ↔ w = [101, 108, 115, 101] := by
  constructor
  · intro h
    rcases kWL_spec (w := w) wds 128 with ⟨h1, -⟩ | ⟨i, h1, h2, h3⟩
    · unfold kW at h; omega
    · obtain rfl : i = 19 := by unfold kW at h; omega
      exact (Option.some.inj h3).symm
  · intro h; subst h; rfl
theorem kW_end {w : List Int} : kW w = 148 ↔ w = [101, 110, 100] := by
  constructor
  · intro h
    rcases kWL_spec (w := w) wds 128 with ⟨h1, -⟩ | ⟨i, h1, h2, h3⟩
    · unfold kW at h; omega
    · obtain rfl : i = 20 := by unfold kW at h; omega
      exact (Option.some.inj h3).symm
  · intro h; subst h; rfl
theorem kW_not {w : List Int} : kW w = 149 ↔ w = [110, 111, 116] := by
  constructor
  · intro h
    rcases kWL_spec (w := w) wds 128 with ⟨h1, -⟩ | ⟨i, h1, h2, h3⟩
    · unfold kW at h; omega
    · obtain rfl : i = 21 := by unfold kW at h; omega
      exact (Option.some.inj h3).symm
  · intro h; subst h; rfl
theorem kW_and {w : List Int} : kW w = 150 ↔ w = [97, 110, 100] := by
  constructor
  · intro h
    rcases kWL_spec (w := w) wds 128 with ⟨h1, -⟩ | ⟨i, h1, h2, h3⟩
    · unfold kW at h; omega
    · obtain rfl : i = 22 := by unfold kW at h; omega
      exact (Option.some.inj h3).symm
  · intro h; subst h; rfl
theorem kW_or {w : List Int} : kW w = 151 ↔ w = [111, 114] := by
  constructor
  · intro h
    rcases kWL_spec (w := w) wds 128 with ⟨h1, -⟩ | ⟨i, h1, h2, h3⟩
    · unfold kW at h; omega
    · obtain rfl : i = 23 := by unfold kW at h; omega
      exact (Option.some.inj h3).symm
  · intro h; subst h; rfl
/-- what kind a sign's token has, how many bytes -/
abbrev sgP (c : Int) : Prop := c = 60 ∨ c = 62 ∨ c = 61 ∨ c = 35 ∨ c = 43 ∨ c = 45 ∨ c = 42 ∨ c = 47 ∨ c = 40 ∨ c = 41 ∨ c = 59
abbrev eqP (t : Nat → Int) (l s : Nat) : Prop := (t s = 60 ∨ t s = 62) ∧ s + 1 < l ∧ t (s + 1) = 61
def skK (t : Nat → Int) (l s : Nat) : Int := if eqP t l s then (if t s = 60 then 3 else 4) else if sgP (t s) then t s else 1
/-- a token: where it ends, where it starts, its kind, its number -/
abbrev Cu : Type := Nat × Nat × Int × Int
def tkF (t : Nat → Int) (l s : Nat) : Cu :=
  if l ≤ s then (s, s, 0, 0)
  else if ltP (t s) then (eR (lB t l) l s, s, kW (wdL t s (eR (lB t l) l s - s)), 0)
  else if dgP (t s) then (eR (dB t l) l s, s, 2, nuC t s (eR (dB t l) l s - s))
  else (if eqP t l s then s + 2 else s + 1, s, skK t l s, 0)
def adv (t : Nat → Int) (l p : Nat) : Cu := tkF t l (eR (kB t l) l p)
theorem tk_b {t : Nat → Int} {l s : Nat} (h : s ≤ l) (h3 : l ≤ 300) : (tkF t l s).2.1 = s ∧ (tkF t l s).1 ≤ l ∧ ((tkF t l s).2.2.1 = 0 ↔ s = l) ∧ ((tkF t l s).2.2.1 ≠ 0 → s < (tkF t l s).1) ∧ (0 ≤ (tkF t l s).2.2.1 ∧ (tkF t l s).2.2.1 ≤ 151) ∧ (0 ≤ (tkF t l s).2.2.2 ∧ (tkF t l s).2.2.2 ≤ 10000) := by
  unfold tkF
  by_cases h1 : l ≤ s
  · rw [if_pos h1]; refine ⟨rfl, h, by simp; omega, by simp, by simp, by simp⟩
  · rw [if_neg h1]
    by_cases h2 : ltP (t s)
    · rw [if_pos h2]
      have hk := kW_r (wdL t s (eR (lB t l) l s - s))
      have hs : lB t l s = true := lB_t.mpr ⟨by omega, h2⟩
      have hg := eR_ge (b := lB t l) (l := l) (p := s + 1)
      rw [← eR_go hs (by omega)] at hg
      have hl := eR_le (b := lB t l) (l := l) (p := s) h
      refine ⟨rfl, hl, ?_, fun _ => by show s < eR _ _ _; omega, ?_, by simp⟩
      · show kW _ = 0 ↔ s = l
        constructor <;> intro hh <;> omega
      · show 0 ≤ kW _ ∧ kW _ ≤ 151; omega
    · rw [if_neg h2]
      by_cases h4 : dgP (t s)
      · rw [if_pos h4]
        have hs : dB t l s = true := dB_t.mpr ⟨by omega, h4⟩
        have hg := eR_ge (b := dB t l) (l := l) (p := s + 1)
        rw [← eR_go hs (by omega)] at hg
        have hl := eR_le (b := dB t l) (l := l) (p := s) h
        have hn := nu_rel (t := t) (s := s) (eR (dB t l) l s - s) (fun i hi => (dB_t.mp (eR_in (b := dB t l) (l := l) (p := s) (i := s + i) (by omega) (by omega))).2)
        refine ⟨rfl, hl, by show (2 : Int) = 0 ↔ s = l; omega, fun _ => by show s < eR _ _ _; omega, by show (0 : Int) ≤ 2 ∧ (2 : Int) ≤ 151; omega, ?_⟩
        show 0 ≤ nuC _ _ _ ∧ nuC _ _ _ ≤ 10000
        omega
      · rw [if_neg h4]
        have hk : 1 ≤ skK t l s ∧ skK t l s ≤ 151 := by unfold skK; split <;> (split <;> omega)
        refine ⟨rfl, ?_, ?_, fun _ => ?_, ?_, by simp⟩
        · show (if eqP t l s then s + 2 else s + 1) ≤ l
          split <;> omega
        · show skK t l s = 0 ↔ s = l
          constructor <;> intro hh <;> omega
        · show s < (if eqP t l s then s + 2 else s + 1)
          split <;> omega
        · show 0 ≤ skK t l s ∧ skK t l s ≤ 151; omega
theorem adv_b {t : Nat → Int} {l p : Nat} (h : p ≤ l) (h3 : l ≤ 300) : p ≤ (adv t l p).2.1 ∧ (adv t l p).2.1 ≤ (adv t l p).1 ∧ (adv t l p).1 ≤ l ∧ ((adv t l p).2.2.1 = 0 ↔ (adv t l p).2.1 = l) ∧ ((adv t l p).2.2.1 ≠ 0 → (adv t l p).2.1 < (adv t l p).1) ∧ (0 ≤ (adv t l p).2.2.1 ∧ (adv t l p).2.2.1 ≤ 151) ∧ (0 ≤ (adv t l p).2.2.2 ∧ (adv t l p).2.2.2 ≤ 10000) := by
  have h1 := eR_ge (b := kB t l) (l := l) (p := p)
  have h2 := eR_le (b := kB t l) (l := l) h
  obtain ⟨b1, b2, b3, b4, b5, b6⟩ := tk_b (t := t) h2 h3
  unfold adv
  refine ⟨by omega, ?_, b2, by rw [b1]; exact b3, fun hh => by rw [b1]; exact b4 hh, b5, b6⟩
  by_cases hz : (tkF t l (eR (kB t l) l p)).2.2.1 = 0
  · have e := b3.mp hz
    rw [b1, e]
    unfold tkF
    rw [if_pos (by omega)]
    exact Nat.le_refl _
  · have := b4 hz; omega
end Lex
