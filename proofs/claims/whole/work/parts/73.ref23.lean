section Ref23
variable {n mc ms : Nat} {M : Md} {pc : Nat} {lv : List (Nat × Value)} {st : List Value} {k j : Nat} {Post : PT} {S : Sh} {I : CI} {R : CR} {A : Nat → Int} {tx : Nat → Nat → Int}
/-- a path's worth, whether it leads to q, that nobody comes twice, that no rest of it is better than what is known -/
def pvl (c : Nat → Nat → Int) : List Nat → Int
  | [] => 0
  | x :: l => match l with
    | [] => 0
    | y :: _ => c x y * 8 + 1 + pvl c l
def pok (c : Nat → Nat → Int) (q : Nat) : List Nat → Prop
  | [] => False
  | x :: l => x < 6 ∧ (match l with
    | [] => x = q
    | y :: _ => c x y ≠ -1 ∧ pok c q l)
def pds : List Nat → Prop
  | [] => True
  | x :: l => x ∉ l ∧ pds l
def pdn (c : Nat → Nat → Int) (f : Nat → Int) : List Nat → Prop
  | [] => True
  | x :: l => f x ≤ pvl c (x :: l) ∧ pdn c f l
def pmk : List Nat → Nat
  | [] => 0
  | x :: l => 2 ^ x ||| pmk l
theorem pmk_t {b : Nat} : ∀ l : List Nat, (pmk l).testBit b = true ↔ b ∈ l := by
  intro l
  induction l with
  | nil => simp [pmk]
  | cons x l ih =>
    simp only [pmk]
    rw [Nat.testBit_or, Nat.testBit_two_pow]
    constructor
    · intro h
      by_cases e : x = b
      · rw [e]; exact List.mem_cons_self
      · have h2 : (pmk l).testBit b = true := by simpa [e] using h
        exact List.mem_cons_of_mem _ (ih.mp h2)
    · intro h
      rcases List.mem_cons.mp h with h1 | h1
      · subst h1; simp
      · rw [ih.mpr h1]; simp
theorem pok_6 {c : Nat → Nat → Int} {q : Nat} : ∀ l : List Nat, pok c q l → ∀ x, x ∈ l → x < 6 := by
  intro l
  induction l with
  | nil => intro h; exact absurd h (by simp [pok])
  | cons x l ih =>
    intro h y hy
    rcases List.mem_cons.mp hy with h1 | h1
    · rw [h1]; exact h.1
    · cases l with
      | nil => exact absurd h1 (by simp)
      | cons z l => exact ih h.2.2 y h1
theorem plen : ∀ l : List Nat, pds l → (∀ x, x ∈ l → x < 6) → l.length ≤ bcN (pmk l) ∧ pmk l < 64 := by
  intro l
  induction l with
  | nil => intro _ _; exact ⟨Nat.zero_le _, by decide⟩
  | cons x l ih =>
    intro h h6
    obtain ⟨i1, i2⟩ := ih h.2 (fun y hy => h6 y (List.mem_cons_of_mem _ hy))
    have hx := h6 x List.mem_cons_self
    have h64 : pmk (x :: l) < 64 := Nat.or_lt_two_pow (n := 6) (pw6 hx) i2
    have hs : Sub (pmk l) (pmk (x :: l)) := fun b hb => by simp only [pmk]; rw [Nat.testBit_or, hb]; simp
    have hne : pmk l ≠ pmk (x :: l) := by
      intro e
      have h1 : (pmk (x :: l)).testBit x = true := (pmk_t (x :: l)).mpr List.mem_cons_self
      rw [← e] at h1
      exact h.1 ((pmk_t l).mp h1)
    have := bc_lt i2 h64 hs hne
    refine ⟨?_, h64⟩
    simp only [List.length_cons]
    omega
theorem plen6 {c : Nat → Nat → Int} {q : Nat} {l : List Nat} (h : pds l) (ho : pok c q l) : l.length ≤ 6 := by
  obtain ⟨h1, h2⟩ := plen l h (pok_6 l ho)
  have := bc_64 h2
  omega
theorem pvl_c {c : Nat → Nat → Int} {x y : Nat} {l : List Nat} : pvl c (x :: y :: l) = c x y * 8 + 1 + pvl c (y :: l) := rfl
theorem pok_c {c : Nat → Nat → Int} {q x y : Nat} {l : List Nat} : pok c q (x :: y :: l) ↔ (x < 6 ∧ c x y ≠ -1 ∧ pok c q (y :: l)) := Iff.rfl
theorem pvl_b {c : Nat → Nat → Int} {q : Nat} (hc : ∀ p r, -1 ≤ c p r ∧ c p r ≤ 79992) : ∀ l : List Nat, pok c q l → ∃ a : Int, (0 ≤ a ∧ a ≤ 79992 * ((l.length : Int) - 1)) ∧ pvl c l = a * 8 + ((l.length : Int) - 1) := by
  intro l
  induction l with
  | nil => intro h; exact absurd h (by simp [pok])
  | cons x l ih =>
    intro h
    cases l with
    | nil => exact ⟨0, by simp, by simp [pvl]⟩
    | cons y l =>
      obtain ⟨a, ha, he⟩ := ih h.2.2
      have h1 := hc x y
      have h2 : c x y ≠ -1 := h.2.1
      refine ⟨a + c x y, ?_, ?_⟩
      · simp only [List.length_cons] at ha ⊢; push_cast at ha ⊢; omega
      · rw [pvl_c, he]; simp only [List.length_cons]; push_cast; omega
/-- what is known of everybody comes from a path -/
def GK (c : Nat → Nat → Int) (q : Nat) (f : Nat → Int) : Prop := ∀ i, i < 6 → f i < 10000000 → ∃ l, pok c q (i :: l) ∧ pds (i :: l) ∧ pvl c (i :: l) = f i ∧ pdn c f (i :: l)
theorem pdn_le {c : Nat → Nat → Int} {f g : Nat → Int} (h : ∀ i, g i ≤ f i) : ∀ l : List Nat, pdn c f l → pdn c g l := by
  intro l
  induction l with
  | nil => intro _; trivial
  | cons x l ih => intro hh; exact ⟨Int.le_trans (h x) hh.1, ih hh.2⟩
/-- one who is on the way has a rest of it, which costs no more -/
theorem pmem {c : Nat → Nat → Int} {q p : Nat} {f : Nat → Int} (hc : ∀ p r, -1 ≤ c p r ∧ c p r ≤ 79992) : ∀ l : List Nat, pok c q l → pdn c f l → p ∈ l → f p ≤ pvl c l := by
  intro l
  induction l with
  | nil => intro h; exact absurd h (by simp [pok])
  | cons x l ih =>
    intro h hd hm
    rcases List.mem_cons.mp hm with h1 | h1
    · rw [h1]; exact hd.1
    · cases l with
      | nil => exact absurd h1 (by simp)
      | cons y l =>
        have := ih h.2.2 hd.2 h1
        have h3 := hc x y
        have h2 : c x y ≠ -1 := h.2.1
        rw [pvl_c]; omega
theorem rl1_le {c : Nat → Nat → Int} {g : Nat → Int} {p k : Nat} : ∀ i, upA g p (if g p ≤ fbE c g p k then g p else fbE c g p k) i ≤ g i := by
  intro i
  by_cases e : i = p
  · rw [e, upA_s]; split <;> omega
  · rw [upA_o e]; exact Int.le_refl _
theorem GK_1 {c : Nat → Nat → Int} {q p k : Nat} {g : Nat → Int} (hc : ∀ p r, -1 ≤ c p r ∧ c p r ≤ 79992) (hp : p < 6) (hk : k < 6) (hG : GK c q g) (hF : FB g) : GK c q (upA g p (if g p ≤ fbE c g p k then g p else fbE c g p k)) := by
  intro i hi hfi
  have hle := rl1_le (c := c) (g := g) (p := p) (k := k)
  by_cases hs : g p ≤ fbE c g p k
  · rw [if_pos hs, upA_id] at hfi ⊢; exact hG i hi hfi
  · rw [if_neg hs] at hfi hle ⊢
    have hfk : fbE c g p k = g k + c p k * 8 + 1 ∧ c p k ≠ -1 ∧ g k < 10000000 := by
      have h1 := hF p
      unfold fbE at hs ⊢
      split at hs
      · omega
      · rename_i h2; rw [if_neg h2]; exact ⟨rfl, fun e => h2 (Or.inl e), by omega⟩
    by_cases e : i = p
    · subst e
      rw [upA_s]
      obtain ⟨l, g1, g2, g3, g4⟩ := hG k hk hfk.2.2
      have hnot : i ∉ k :: l := by
        intro hm
        have h1 := pmem hc (k :: l) g1 g4 hm
        have h2 := hc i k
        rw [g3] at h1
        omega
      refine ⟨k :: l, ⟨hi, hfk.2.1, g1⟩, ⟨hnot, g2⟩, by rw [pvl_c, g3, hfk.1]; omega, ?_, pdn_le hle _ g4⟩
      rw [upA_s, pvl_c, g3, hfk.1]; omega
    · rw [upA_o e] at hfi ⊢
      obtain ⟨l, g1, g2, g3, g4⟩ := hG i hi hfi
      exact ⟨l, g1, g2, g3, pdn_le hle _ g4⟩
theorem GK_K {c : Nat → Nat → Int} {q p : Nat} {g : Nat → Int} (hc : ∀ p r, -1 ≤ c p r ∧ c p r ≤ 79992) (hp : p < 6) (hG : GK c q g) (hF : FB g) : ∀ k, k ≤ 6 → GK c q (rlK c g p k) := by
  intro k
  induction k with
  | zero => intro _; exact hG
  | succ k ih => intro hk; exact GK_1 hc hp (by omega) (ih (by omega)) (rlK_b hc hF k)
theorem GK_P {c : Nat → Nat → Int} {q : Nat} {g : Nat → Int} (hc : ∀ p r, -1 ≤ c p r ∧ c p r ≤ 79992) (hG : GK c q g) (hF : FB g) : ∀ p, p ≤ 6 → GK c q (rlP c g p) := by
  intro p
  induction p with
  | zero => intro _; exact hG
  | succ p ih => intro hp; exact GK_K hc (by omega) (ih (by omega)) (rlP_b hc hF p) 6 (by omega)
theorem GK_R {c : Nat → Nat → Int} {q : Nat} (hc : ∀ p r, -1 ≤ c p r ∧ c p r ≤ 79992) : ∀ t, GK c q (rlR c (fr0 q) t) := by
  intro t
  induction t with
  | zero =>
    intro i hi hfi
    have e : i = q := by
      by_cases e : i = q
      · exact e
      · have : rlR c (fr0 q) 0 i = 10000000 := if_neg e
        omega
    subst e
    have e0 : rlR c (fr0 i) 0 i = 0 := if_pos rfl
    exact ⟨[], ⟨hi, rfl⟩, ⟨by simp, trivial⟩, by rw [e0]; rfl, by rw [e0]; exact Int.le_refl _, trivial⟩
  | succ t ih => exact GK_P hc ih (rlR_b hc (fr0_b q) t) 6 (by omega)
/-- all paths of so many are outdone -/
def CV (c : Nat → Nat → Int) (q : Nat) (f : Nat → Int) (k : Nat) : Prop := ∀ (x : Nat) (l : List Nat), pok c q (x :: l) → pds (x :: l) → l.length ≤ k → f x ≤ pvl c (x :: l)
theorem rlK_le {c : Nat → Nat → Int} {g : Nat → Int} {p : Nat} : ∀ d k i, rlK c g p (k + d) i ≤ rlK c g p k i := by
  intro d
  induction d with
  | zero => intro k i; exact Int.le_refl _
  | succ d ih => intro k i; exact Int.le_trans (rl1_le i) (ih k i)
theorem rlP_le {c : Nat → Nat → Int} {g : Nat → Int} : ∀ d k i, rlP c g (k + d) i ≤ rlP c g k i := by
  intro d
  induction d with
  | zero => intro k i; exact Int.le_refl _
  | succ d ih =>
    intro k i
    have h := rlK_le (c := c) (g := rlP c g (k + d)) (p := k + d) 6 0 i
    exact Int.le_trans h (ih k i)
theorem CV_s {c : Nat → Nat → Int} {q k : Nat} {g : Nat → Int} (hc : ∀ p r, -1 ≤ c p r ∧ c p r ≤ 79992) (hF : FB g) (h : CV c q g k) : CV c q (rlP c g 6) (k + 1) := by
  intro x l ho hd hl
  have hx : x < 6 := ho.1
  have hle : ∀ i, rlP c g 6 i ≤ g i := fun i => by
    have := rlP_le (c := c) (g := g) 6 0 i
    exact this
  cases l with
  | nil => exact Int.le_trans (hle x) (h x [] ho hd (by simp))
  | cons y l =>
    have hy : y < 6 := ho.2.2.1
    have h1 := h y l ho.2.2 hd.2 (by simp only [List.length_cons] at hl; omega)
    have h2 : c x y ≠ -1 := ho.2.1
    have h3 := hc x y
    obtain ⟨a, ha, hv⟩ := pvl_b hc _ ho.2.2
    have h6 := plen6 hd.2 ho.2.2
    have h7 : rlP c g 6 x ≤ rlP c g (x + 1) x := by
      have := rlP_le (c := c) (g := g) (6 - (x + 1)) (x + 1) x
      rw [show x + 1 + (6 - (x + 1)) = 6 by omega] at this
      exact this
    have h8 : rlP c g (x + 1) x ≤ rlK c (rlP c g x) x (y + 1) x := by
      have := rlK_le (c := c) (g := rlP c g x) (p := x) (6 - (y + 1)) (y + 1) x
      rw [show y + 1 + (6 - (y + 1)) = 6 by omega] at this
      exact this
    have h9 : rlK c (rlP c g x) x y y ≤ g y := by
      have e1 := rlK_le (c := c) (g := rlP c g x) (p := x) y 0 y
      rw [Nat.zero_add] at e1
      have e2 := rlP_le (c := c) (g := g) x 0 y
      rw [Nat.zero_add] at e2
      exact Int.le_trans e1 e2
    have h10 : rlK c (rlP c g x) x (y + 1) x ≤ fbE c (rlK c (rlP c g x) x y) x y := by
      show upA _ _ _ x ≤ _
      rw [upA_s]
      split <;> omega
    have h11 : fbE c (rlK c (rlP c g x) x y) x y = rlK c (rlP c g x) x y y + c x y * 8 + 1 := if_neg (by simp only [List.length_cons] at ha hv h6; push_cast at ha hv; omega)
    rw [pvl_c]
    omega
theorem CV_R {c : Nat → Nat → Int} {q : Nat} (hc : ∀ p r, -1 ≤ c p r ∧ c p r ≤ 79992) : ∀ t, CV c q (rlR c (fr0 q) t) t := by
  intro t
  induction t with
  | zero =>
    intro x l ho hd hl
    cases l with
    | nil =>
      have e : x = q := ho.2
      rw [e]
      exact Int.le_of_eq (if_pos rfl)
    | cons y l => simp at hl
  | succ t ih => exact CV_s hc (rlR_b hc (fr0_b q) t) ih
theorem msr_fix {c : Nat → Nat → Int} {q p r : Nat} (hc : ∀ p r, -1 ≤ c p r ∧ c p r ≤ 79992) (hp : p < 6) (hr : r < 6) : msr c q p ≤ fbE c (msr c q) p r := by
  have hb := msr_b hc q
  have h1 := hb p
  unfold fbE
  split
  · exact h1.2
  · rename_i h
    have h2 : c p r ≠ -1 ∧ msr c q r < 10000000 := ⟨fun e => h (Or.inl e), by omega⟩
    obtain ⟨l, g1, g2, g3, g4⟩ := GK_R (q := q) hc 5 r hr h2.2
    by_cases hm : p ∈ r :: l
    · have h3 := pmem hc (r :: l) g1 g4 hm
      have h4 := hc p r
      rw [g3] at h3
      have e1 : msr c q = rlR c (fr0 q) 5 := rfl
      rw [e1]
      omega
    · have ho : pok c q (p :: r :: l) := ⟨hp, h2.1, g1⟩
      have hds : pds (p :: r :: l) := ⟨hm, g2⟩
      have hl := plen6 hds ho
      have h3 := CV_R (q := q) hc 5 p (r :: l) ho hds (by simp only [List.length_cons] at hl ⊢; omega)
      rw [pvl_c, g3] at h3
      have e1 : msr c q = rlR c (fr0 q) 5 := rfl
      rw [e1]
      omega
theorem rl_same {c : Nat → Nat → Int} {g : Nat → Int} (h : ∀ p r, p < 6 → r < 6 → g p ≤ fbE c g p r) : rlP c g 6 = g := by
  have hK : ∀ p, p < 6 → ∀ k, k ≤ 6 → rlK c g p k = g := by
    intro p hp k
    induction k with
    | zero => intro _; rfl
    | succ k ih =>
      intro hk
      simp only [rlK]
      rw [ih (by omega), if_pos (h p k hp (by omega)), upA_id]
  have hP : ∀ p, p ≤ 6 → rlP c g p = g := by
    intro p
    induction p with
    | zero => intro _; rfl
    | succ p ih => intro hp; simp only [rlP]; rw [ih (by omega)]; exact hK p (by omega) 6 (by omega)
  exact hP 6 (by omega)
theorem msr_6 {c : Nat → Nat → Int} {q : Nat} (hc : ∀ p r, -1 ≤ c p r ∧ c p r ≤ 79992) : rlR c (fr0 q) 6 = msr c q := rl_same (fun p r hp hr => msr_fix hc hp hr)
/-- costs and people of what is known -/
theorem gk_d {c : Nat → Nat → Int} {q i : Nat} {f : Nat → Int} (hc : ∀ p r, -1 ≤ c p r ∧ c p r ≤ 79992) (hG : GK c q f) (hi : i < 6) (hf : f i < 10000000) : 0 ≤ f i ∧ f i % 8 ≤ 5 ∧ f i / 8 ≤ 399960 := by
  obtain ⟨l, g1, g2, g3, g4⟩ := hG i hi hf
  obtain ⟨a, ha, hv⟩ := pvl_b hc _ g1
  have hl := plen6 g2 g1
  rw [g3] at hv
  simp only [List.length_cons] at ha hv hl
  push_cast at ha hv
  omega
theorem nx_ex {c : Nat → Nat → Int} {q p : Nat} (hc : ∀ p r, -1 ≤ c p r ∧ c p r ≤ 79992) (hp : p < 6) (hf : msr c q p < 10000000) (hpos : 0 < msr c q p) : ∃ r, r < 6 ∧ fbE c (msr c q) p r = msr c q p := by
  obtain ⟨l, g1, g2, g3, g4⟩ := GK_R (q := q) hc 5 p hp hf
  have e1 : msr c q = rlR c (fr0 q) 5 := rfl
  cases l with
  | nil =>
    exfalso
    have : pvl c [p] = 0 := rfl
    rw [this] at g3
    rw [e1] at hpos
    omega
  | cons r l =>
    have hr : r < 6 := g1.2.2.1
    have h1 := msr_fix (q := q) hc hp hr
    have h2 : c p r ≠ -1 := g1.2.1
    have h3 := hc p r
    have h4 : msr c q r ≤ pvl c (r :: l) := g4.2.1
    rw [pvl_c] at g3
    rw [← e1] at g3
    refine ⟨r, hr, ?_⟩
    have h5 : fbE c (msr c q) p r = msr c q r + c p r * 8 + 1 := if_neg (by omega)
    rw [h5] at h1 ⊢
    omega
end Ref23
