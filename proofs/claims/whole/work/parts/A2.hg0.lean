section Hg0s
variable {n mc ms : Nat} {M : Md} {pc : Nat} {lv : List (Nat × Value)} {st : List Value} {k j : Nat} {Post : PT} {S : Sh} {I : CI} {R : CR} {A : Nat → Int} {tx : Nat → Nat → Int}
def flt (g : Nat → List (List Nat)) : Nat → Nat → List (List Nat)
  | 0, _ => []
  | d + 1, v => g v ++ flt g d (v + 1)
theorem flt_skip {g : Nat → List (List Nat)} : ∀ (i d v : Nat), i ≤ d → (∀ z, v ≤ z → z < v + i → g z = []) → flt g d v = flt g (d - i) (v + i) := by
  intro i
  induction i with
  | zero => intro d v _ _; rfl
  | succ i ih =>
    intro d v hd h
    obtain ⟨e, rfl⟩ : ∃ e, d = e + 1 := ⟨d - 1, by omega⟩
    show g v ++ flt g e (v + 1) = _
    rw [h v (by omega) (by omega), List.nil_append, ih e (v + 1) (by omega) (fun z h1 h2 => h z (by omega) (by omega))]
    congr 1 <;> omega
theorem flt_nil {g : Nat → List (List Nat)} {d v : Nat} (h : ∀ z, v ≤ z → z < v + d → g z = []) : flt g d v = [] := by
  rw [flt_skip d d v (Nat.le_refl _) h, Nat.sub_self]; rfl
/-- all ways to hang from here on: f hooks left, from hook h on, s is hung, pre what hangs -/
def cpp (ft : Nat → Nat) : Nat → Nat → Nat → List Nat → List (List Nat)
  | 0, _, _, pre => [pre]
  | f + 1, h, s, pre => flt (fun i => if (sdN (ft h) s).testBit i = true then cpp ft f (h + 1) (s ||| 2 ^ i) (pre ++ [i]) else []) 8 0
abbrev bk (ft : Nat → Nat) (f h s : Nat) (pre : List Nat) : Nat → List (List Nat) := fun i => if (sdN (ft h) s).testBit i = true then cpp ft f (h + 1) (s ||| 2 ^ i) (pre ++ [i]) else []
theorem cpp_s {ft : Nat → Nat} {f h s : Nat} {pre : List Nat} : cpp ft (f + 1) h s pre = flt (bk ft f h s pre) 8 0 := rfl
def cntL (h q : Nat) : List (List Nat) → Int
  | [] => 0
  | x :: r => (if x.getD h 0 = q then 1 else 0) + cntL h q r
theorem cntL_app {h q : Nat} : ∀ (L M : List (List Nat)), cntL h q (L ++ M) = cntL h q L + cntL h q M := by
  intro L M
  induction L with
  | nil => show cntL h q M = 0 + cntL h q M; omega
  | cons x r ih => show (if _ then _ else _) + cntL h q (r ++ M) = (if _ then _ else _) + cntL h q r + cntL h q M; rw [ih]; omega
theorem cntL_b {h q : Nat} : ∀ L : List (List Nat), 0 ≤ cntL h q L ∧ cntL h q L ≤ (L.length : Int) := by
  intro L
  induction L with
  | nil => exact ⟨Int.le_refl _, Int.le_refl _⟩
  | cons x r ih =>
    have e : cntL h q (x :: r) = (if x.getD h 0 = q then 1 else 0) + cntL h q r := rfl
    rw [e, List.length_cons]
    split <;> omega
theorem fitQ_tb {e : Int} {h : Nat} {i : Nat} : ∀ z : Nat, (fitQ A e h z).testBit i = true ↔ (i < z ∧ A (12 + 3 * i) = 1 ∧ A (52 + i) - A (68 + h) ≤ e ∧ A (68 + h) - A (52 + i) ≤ e) := by
  intro z
  induction z with
  | zero =>
    have : (fitQ A e h 0).testBit i = false := Nat.zero_testBit i
    rw [this]
    exact ⟨fun h9 => absurd h9 (by decide), fun h9 => by omega⟩
  | succ z ih =>
    have e1 : fitQ A e h (z + 1) = if A (12 + 3 * z) = 1 ∧ A (52 + z) - A (68 + h) ≤ e ∧ A (68 + h) - A (52 + z) ≤ e then fitQ A e h z ||| 2 ^ z else fitQ A e h z := rfl
    rw [e1]
    by_cases hc : A (12 + 3 * z) = 1 ∧ A (52 + z) - A (68 + h) ≤ e ∧ A (68 + h) - A (52 + z) ≤ e
    · rw [if_pos hc, Nat.testBit_or, Nat.testBit_two_pow, Bool.or_eq_true, ih]
      constructor
      · rintro (h9 | h9)
        · exact ⟨by omega, h9.2⟩
        · have h8 : z = i := of_decide_eq_true h9
          subst h8
          exact ⟨by omega, hc⟩
      · intro h9
        by_cases hz : z = i
        · exact Or.inr (decide_eq_true hz)
        · exact Or.inl ⟨by omega, h9.2⟩
    · rw [if_neg hc, ih]
      constructor
      · intro h9; exact ⟨by omega, h9.2⟩
      · intro h9
        refine ⟨?_, h9.2⟩
        have : i ≠ z := fun h8 => by subst h8; exact hc h9.2
        omega
/-- whether a quarrel fits a hook -/
theorem ftA_tb (hb : BA A) {e : Int} {h s i : Nat} : (sdN (ftA A e h) s).testBit i = true ↔ (((i : Int) < A 0 ∧ A (12 + 3 * i) = 1 ∧ A (52 + i) - A (68 + h) ≤ e ∧ A (68 + h) - A (52 + i) ≤ e) ∧ s.testBit i = false) := by
  have h0 := hb.1.1
  have hlt := ftA_lt hb (e := e) (h := h)
  rw [sdN_tb (by omega), Bool.and_eq_true, Bool.not_eq_true', show (ftA A e h).testBit i = true ↔ _ from fitQ_tb (A 0).toNat]
  constructor
  · intro h9; exact ⟨⟨by omega, h9.1.2⟩, h9.2⟩
  · intro h9; exact ⟨⟨by omega, h9.1.2⟩, h9.2⟩
/-- how many there are -/
theorem flt_len {g : Nat → List (List Nat)} {w : Nat → Int} : ∀ (d v : Nat), (∀ z, v ≤ z → z < v + d → ((g z).length : Int) = w z) → ((flt g d v).length : Int) = sg (fun i => w (v + i)) d := by
  intro d
  induction d with
  | zero => intro v _; rfl
  | succ d ih =>
    intro v h
    have e1 : sg (fun i => w (v + i)) (d + 1) = w v + sg (fun i => w (v + 1 + i)) d := by
      have : ∀ (k : Nat), sg (fun i => w (v + i)) (k + 1) = w v + sg (fun i => w (v + 1 + i)) k := by
        intro k
        induction k with
        | zero => show (0 : Int) + w (v + 0) = w v + 0; rw [Nat.add_zero]; omega
        | succ k ih2 =>
          have a1 : sg (fun i => w (v + i)) (k + 1 + 1) = sg (fun i => w (v + i)) (k + 1) + w (v + (k + 1)) := rfl
          have a2 : sg (fun i => w (v + 1 + i)) (k + 1) = sg (fun i => w (v + 1 + i)) k + w (v + 1 + k) := rfl
          rw [a1, a2, ih2, show v + (k + 1) = v + 1 + k by omega]; omega
      exact this d
    rw [e1, ← ih (v + 1) (fun z h1 h2 => h z (by omega) (by omega)), ← h v (by omega) (by omega)]
    show ((g v ++ flt g d (v + 1)).length : Int) = _
    rw [List.length_append]; omega
theorem cpp_len {ft : Nat → Nat} {H : Nat} (hft : ∀ h, ft h < 256) : ∀ (f h s : Nat) (pre : List Nat), s < 256 → bcN s = h → h + f = H → ((cpp ft f h s pre).length : Int) = wbA ft H s := by
  intro f
  induction f with
  | zero =>
    intro h s pre hs hb hH
    rw [wbA_ge (by omega), if_pos (by omega)]
    rfl
  | succ f ih =>
    intro h s pre hs hb hH
    rw [cpp_s, wbA_lt hft hs (by omega), flt_len (w := fun i => if (sdN (ft (bcN s)) s).testBit i = true then wbA ft H (s ||| 2 ^ i) else 0) 8 0 (fun z h1 h2 => ?_)]
    · exact sg_congr 8 (fun i hi => by rw [Nat.zero_add])
    · show ((if (sdN (ft h) s).testBit z = true then _ else _ : List (List Nat)).length : Int) = if (sdN (ft (bcN s)) s).testBit z = true then _ else _
      rw [hb]
      by_cases hz : (sdN (ft h) s).testBit z = true
      · rw [if_pos hz, if_pos hz]
        have hc := cn_bit (hft h) hz
        have ho := bc_or hs (by omega : z < 8) hc.2
        exact ih (h + 1) (s ||| 2 ^ z) (pre ++ [z]) ho.2.1 (by omega) (by omega)
      · rw [if_neg hz, if_neg hz]; rfl
end Hg0s
