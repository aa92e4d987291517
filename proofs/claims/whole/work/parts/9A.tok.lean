section Tok
variable {t : Nat → Int} {l s0 : Nat}
/-- a word's number, its last letter first -/
def wnr : List Int → Int
  | [] => 0
  | a :: r => wnr r * 256 + a
def mtc (t : Nat → Int) (s0 : Nat) : Nat → List Int → Prop
  | 0, [] => True
  | q + 1, a :: r => t (s0 + q) = a ∧ mtc t s0 q r
  | _, _ => False
theorem wdL_succ {q : Nat} : wdL t s0 (q + 1) = wdL t s0 q ++ [t (s0 + q)] := by
  unfold wdL
  rw [List.range_succ, List.map_append]
  rfl
theorem mtc_iff : ∀ (r : List Int) (q : Nat), mtc t s0 q r ↔ wdL t s0 q = r.reverse := by
  intro r
  induction r with
  | nil =>
    intro q
    cases q with
    | zero => exact ⟨fun _ => rfl, fun _ => trivial⟩
    | succ q => exact ⟨fun h => h.elim, fun h => by rw [wdL_succ] at h; simp at h⟩
  | cons a r ih =>
    intro q
    cases q with
    | zero => exact ⟨fun h => h.elim, fun h => by have h2 := congrArg List.length h; simp [wdL] at h2⟩
    | succ q =>
      rw [wdL_succ, List.reverse_cons]
      show t (s0 + q) = a ∧ mtc t s0 q r ↔ _
      rw [ih q]
      constructor
      · rintro ⟨h1, h2⟩; rw [h1, h2]
      · intro h
        have h2 := List.append_inj' h rfl
        exact ⟨by simpa using h2.2, h2.1⟩
theorem wnr_nn : ∀ r : List Int, (∀ a ∈ r, 1 ≤ a ∧ a < 256) → 0 ≤ wnr r := by
  intro r
  induction r with
  | nil => intro _; exact Int.le_refl _
  | cons a r ih =>
    intro h
    have h1 := ih (fun b hb => h b (List.mem_cons_of_mem _ hb))
    have h2 := h a List.mem_cons_self
    show 0 ≤ wnr r * 256 + a
    omega
theorem wv_mt : ∀ (r : List Int) (q : Nat), (∀ i, i < q → 1 ≤ t (s0 + i) ∧ t (s0 + i) < 256) → (∀ a ∈ r, 1 ≤ a ∧ a < 256) → wnr r < 281474976710656 → (wvR t s0 q = wnr r ↔ mtc t s0 q r) := by
  intro r
  induction r with
  | nil =>
    intro q h1 h2 h3
    cases q with
    | zero => exact ⟨fun _ => trivial, fun _ => rfl⟩
    | succ q =>
      refine ⟨fun h => ?_, fun h => h.elim⟩
      exfalso
      have hb := wvR_b (t := t) (s := s0) q (fun i hi => by have := h1 i (by omega); omega)
      have hq := h1 q (by omega)
      have h4 : (if 281474976710656 ≤ wvR t s0 q then 1152921504606846976 else wvR t s0 q * 256 + t (s0 + q)) = 0 := h
      split at h4 <;> omega
  | cons a r ih =>
    intro q h1 h2 h3
    have ha := h2 a List.mem_cons_self
    have hr := wnr_nn r (fun b hb => h2 b (List.mem_cons_of_mem _ hb))
    have h3' : wnr r * 256 + a < 281474976710656 := h3
    cases q with
    | zero =>
      refine ⟨fun h => ?_, fun h => h.elim⟩
      exfalso
      have h4 : (0 : Int) = wnr r * 256 + a := h
      omega
    | succ q =>
      have h5 := ih q (fun i hi => h1 i (by omega)) (fun b hb => h2 b (List.mem_cons_of_mem _ hb)) (by omega)
      have hb := wvR_b (t := t) (s := s0) q (fun i hi => by have := h1 i (by omega); omega)
      have hq := h1 q (by omega)
      show (if 281474976710656 ≤ wvR t s0 q then 1152921504606846976 else wvR t s0 q * 256 + t (s0 + q)) = wnr r * 256 + a ↔ t (s0 + q) = a ∧ mtc t s0 q r
      rw [← h5]
      split <;> constructor <;> intro h <;> omega
/-- the words' numbers -/
def wTab : List (Int × Int) := [(128, 6578553), (129, 1918986606), (130, 121450625394034), (131, 512970880104), (132, 1751474548), (133, 1751477348), (134, 483006772069), (135, 123563917862244), (136, 1685415283), (137, 495622843507), (139, 25209), (140, 1885435758), (141, 125779801630061), (142, 1700885102), (143, 1919251316), (144, 6844276), (145, 26982), (146, 1952998766), (147, 1701606245), (148, 6647396), (149, 7237492), (150, 6385252), (151, 28530)]
theorem kW_of {w : List Int} {i : Nat} {x : List Int} (hx : wds[i]? = some x) (hv : kW x = 128 + (i : Int)) : kW w = 128 + (i : Int) ↔ w = x := by
  constructor
  · intro h
    rcases kWL_spec (w := w) wds 128 with ⟨h1, -⟩ | ⟨q, h1, h2, h3⟩
    · unfold kW at h; omega
    · obtain rfl : q = i := by unfold kW at h; omega
      rw [hx] at h3
      exact (Option.some.inj h3).symm
  · intro h
    subst h
    exact hv
abbrev sgT (k : Int) : Prop := k = 60 ∨ k = 62 ∨ k = 61 ∨ k = 35 ∨ k = 43 ∨ k = 45 ∨ k = 42 ∨ k = 47 ∨ k = 40 ∨ k = 41 ∨ k = 59
/-- the token at hand, in the reference -/
def TkR (J : CI) (cu : Cu) : Prop := (J 306 7 = (cu.1 : Int) ∧ J 306 8 = (cu.2.1 : Int) ∧ (0 ≤ J 306 9 ∧ J 306 9 ≤ 255) ∧ (J 306 9 = 2 → 0 ≤ J 306 11 ∧ J 306 11 ≤ 1152921504606846976)) ∧ ((J 306 9 = 1 ↔ cu.2.2.1 = 2) ∧ (cu.2.2.1 = 2 → (0 ≤ J 306 10 ∧ J 306 10 ≤ 2000000) ∧ ((cu.2.2.2 ≤ 9999 ∧ J 306 10 = cu.2.2.2) ∨ (cu.2.2.2 = 10000 ∧ 9999 < J 306 10)))) ∧ (J 306 9 = 0 ↔ cu.2.2.1 = 0) ∧ (∀ q, sgT q → (J 306 9 = q ↔ cu.2.2.1 = q)) ∧ (J 306 9 = 4 ↔ cu.2.2.1 = 3) ∧ (J 306 9 = 5 ↔ cu.2.2.1 = 4) ∧ (∀ e ∈ wTab, (J 306 9 = 2 ∧ J 306 11 = e.2) ↔ cu.2.2.1 = e.1)
theorem tk_of {J : CI} (hT : TpR J t l) (hs : s0 ≤ l) (hC : CuR J t l s0) : TkR J (tkF t l s0) := by
  obtain ⟨c7, c8, c0, cw, cn, cg⟩ := hC
  have l3 := hT.2.2.1
  have ht := hT.2.2.2
  have h81 : (tkF t l s0).2.1 = s0 := (tk_b (t := t) hs l3).1
  by_cases h1 : l ≤ s0
  · have e : tkF t l s0 = (s0, s0, 0, 0) := if_pos h1
    have k9 := c0 h1
    rw [e] at c7 ⊢
    refine ⟨⟨c7, c8, by omega, fun h => by omega⟩, ⟨?_, fun h => ?_⟩, ?_, fun q hq => ?_, ?_, ?_, fun x hx => ?_⟩
    · show _ ↔ (0 : Int) = 2; omega
    · have h' : (0 : Int) = 2 := h; omega
    · show _ ↔ (0 : Int) = 0; omega
    · show _ ↔ (0 : Int) = q; omega
    · show _ ↔ (0 : Int) = 3; omega
    · show _ ↔ (0 : Int) = 4; omega
    · show _ ↔ (0 : Int) = x.1
      have : ∀ y ∈ wTab, 128 ≤ y.1 := by decide
      have := this x hx
      omega
  · by_cases h2 : ltP (t s0)
    · have e : tkF t l s0 = (eR (lB t l) l s0, s0, kW (wdL t s0 (eR (lB t l) l s0 - s0)), 0) := by
        unfold tkF; rw [if_neg h1, if_pos h2]
      obtain ⟨k9, k11⟩ := cw (by omega) h2
      have hin : ∀ i, i < eR (lB t l) l s0 - s0 → 1 ≤ t (s0 + i) ∧ t (s0 + i) < 256 := by
        intro i hi
        have h3 := lB_t.mp (eR_in (b := lB t l) (l := l) (p := s0) (i := s0 + i) (by omega) (by omega))
        have h4 := h3.2
        omega
      have hb := wvR_b (t := t) (s := s0) (eR (lB t l) l s0 - s0) (fun i hi => by have := hin i hi; omega)
      have hk := kW_r (wdL t s0 (eR (lB t l) l s0 - s0))
      rw [e] at c7 ⊢
      refine ⟨⟨c7, c8, by omega, fun h => by omega⟩, ⟨?_, fun h => ?_⟩, ?_, fun q hq => ?_, ?_, ?_, fun x hx => ?_⟩
      · show _ ↔ kW _ = 2; omega
      · have h' : kW (wdL t s0 (eR (lB t l) l s0 - s0)) = 2 := h; omega
      · show _ ↔ kW _ = 0; omega
      · show _ ↔ kW _ = q; omega
      · show _ ↔ kW _ = 3; omega
      · show _ ↔ kW _ = 4; omega
      · show _ ↔ kW _ = x.1
        rw [k11]
        have hall : ∀ y ∈ wTab, ∃ (i : Nat) (z : List Int), wds[i]? = some z ∧ kW z = 128 + (i : Int) ∧ y.1 = 128 + (i : Int) ∧ y.2 = wnr z.reverse ∧ (∀ a ∈ z.reverse, 1 ≤ a ∧ a < 256) ∧ wnr z.reverse < 281474976710656 := by
          intro y hy
          simp only [wTab, List.mem_cons, List.not_mem_nil, or_false] at hy
          rcases hy with rfl | rfl | rfl | rfl | rfl | rfl | rfl | rfl | rfl | rfl | rfl | rfl | rfl | rfl | rfl | rfl | rfl | rfl | rfl | rfl | rfl | rfl | rfl
          · exact ⟨0, [100, 97, 121], rfl, by decide, by decide, by decide, by decide, by decide⟩
          · exact ⟨1, [114, 97, 105, 110], rfl, by decide, by decide, by decide, by decide, by decide⟩
          · exact ⟨2, [110, 117, 109, 98, 101, 114], rfl, by decide, by decide, by decide, by decide, by decide⟩
          · exact ⟨3, [119, 111, 114, 116, 104], rfl, by decide, by decide, by decide, by decide, by decide⟩
          · exact ⟨4, [104, 101, 97, 116], rfl, by decide, by decide, by decide, by decide, by decide⟩
          · exact ⟨5, [104, 101, 108, 100], rfl, by decide, by decide, by decide, by decide, by decide⟩
          · exact ⟨6, [112, 117, 114, 115, 101], rfl, by decide, by decide, by decide, by decide, by decide⟩
          · exact ⟨7, [112, 97, 119, 110, 101, 100], rfl, by decide, by decide, by decide, by decide, by decide⟩
          · exact ⟨8, [100, 117, 101, 115], rfl, by decide, by decide, by decide, by decide, by decide⟩
          · exact ⟨9, [115, 101, 108, 108, 115], rfl, by decide, by decide, by decide, by decide, by decide⟩
          · exact ⟨11, [98, 121], rfl, by decide, by decide, by decide, by decide, by decide⟩
          · exact ⟨12, [112, 97, 119, 110], rfl, by decide, by decide, by decide, by decide, by decide⟩
          · exact ⟨13, [114, 101, 100, 101, 101, 109], rfl, by decide, by decide, by decide, by decide, by decide⟩
          · exact ⟨14, [101, 97, 114, 110], rfl, by decide, by decide, by decide, by decide, by decide⟩
          · exact ⟨15, [114, 101, 115, 116], rfl, by decide, by decide, by decide, by decide, by decide⟩
          · exact ⟨16, [104, 111, 116], rfl, by decide, by decide, by decide, by decide, by decide⟩
          · exact ⟨17, [105, 102], rfl, by decide, by decide, by decide, by decide, by decide⟩
          · exact ⟨18, [116, 104, 101, 110], rfl, by decide, by decide, by decide, by decide, by decide⟩
          · exact ⟨19, [101, 108, 115, 101], rfl, by decide, by decide, by decide, by decide, by decide⟩
          · exact ⟨20, [101, 110, 100], rfl, by decide, by decide, by decide, by decide, by decide⟩
          · exact ⟨21, [110, 111, 116], rfl, by decide, by decide, by decide, by decide, by decide⟩
          · exact ⟨22, [97, 110, 100], rfl, by decide, by decide, by decide, by decide, by decide⟩
          · exact ⟨23, [111, 114], rfl, by decide, by decide, by decide, by decide, by decide⟩
        obtain ⟨i, z, z1, z2, z3, z4, z5, z6⟩ := hall x hx
        rw [z3, kW_of z1 z2, z4, wv_mt z.reverse _ hin z5 z6, mtc_iff, List.reverse_reverse]
        exact ⟨fun h => h.2, fun h => ⟨k9, h⟩⟩
    · by_cases h3 : dgP (t s0)
      · have e : tkF t l s0 = (eR (dB t l) l s0, s0, 2, nuC t s0 (eR (dB t l) l s0 - s0)) := by
          unfold tkF; rw [if_neg h1, if_neg h2, if_pos h3]
        obtain ⟨k9, k10⟩ := cn (by omega) h3
        have hn := nu_rel (t := t) (s := s0) (eR (dB t l) l s0 - s0) (fun i hi => (dB_t.mp (eR_in (b := dB t l) (l := l) (p := s0) (i := s0 + i) (by omega) (by omega))).2)
        rw [e] at c7 ⊢
        refine ⟨⟨c7, c8, by omega, fun h => by omega⟩, ⟨?_, fun h => ⟨by omega, ?_⟩⟩, ?_, fun q hq => ?_, ?_, ?_, fun x hx => ?_⟩
        · show _ ↔ (2 : Int) = 2; omega
        · show (nuC t s0 _ ≤ 9999 ∧ J 306 10 = nuC t s0 _) ∨ (nuC t s0 _ = 10000 ∧ 9999 < J 306 10)
          omega
        · show _ ↔ (2 : Int) = 0; omega
        · show _ ↔ (2 : Int) = q; omega
        · show _ ↔ (2 : Int) = 3; omega
        · show _ ↔ (2 : Int) = 4; omega
        · show _ ↔ (2 : Int) = x.1
          have : ∀ y ∈ wTab, 128 ≤ y.1 := by decide
          have := this x hx
          omega
      · have e : tkF t l s0 = (if eqP t l s0 then s0 + 2 else s0 + 1, s0, skK t l s0, 0) := by
          unfold tkF; rw [if_neg h1, if_neg h2, if_neg h3]
        have k9 := cg (by omega) h2 h3
        have hts := ht s0 (by omega)
        have hrel : (snR t l s0 = 4 ∧ skK t l s0 = 3) ∨ (snR t l s0 = 5 ∧ skK t l s0 = 4) ∨ (sgT (skK t l s0) ∧ snR t l s0 = skK t l s0) ∨ (skK t l s0 = 1 ∧ (snR t l s0 = 3 ∨ snR t l s0 = 58)) := by
          unfold snR skK
          by_cases h4 : eqP t l s0
          · rw [if_pos h4, if_pos h4]
            by_cases h5 : t s0 = 60
            · rw [if_pos h5, if_pos h5]; exact Or.inl ⟨rfl, rfl⟩
            · rw [if_neg h5, if_neg h5]; exact Or.inr (Or.inl ⟨rfl, rfl⟩)
          · rw [if_neg h4, if_neg h4]
            by_cases h5 : sgP (t s0)
            · rw [if_pos h5, if_pos (Or.inl h5)]; exact Or.inr (Or.inr (Or.inl ⟨h5, rfl⟩))
            · rw [if_neg h5]
              by_cases h6 : t s0 = 58
              · rw [if_pos (Or.inr h6)]; exact Or.inr (Or.inr (Or.inr ⟨rfl, Or.inr h6⟩))
              · rw [if_neg (by omega)]; exact Or.inr (Or.inr (Or.inr ⟨rfl, Or.inl rfl⟩))
        rw [e] at c7 ⊢
        refine ⟨⟨c7, c8, by omega, fun h => by omega⟩, ⟨?_, fun h => ?_⟩, ?_, fun q hq => ?_, ?_, ?_, fun x hx => ?_⟩
        · show _ ↔ skK t l s0 = 2; omega
        · have h' : skK t l s0 = 2 := h; omega
        · show _ ↔ skK t l s0 = 0; omega
        · show _ ↔ skK t l s0 = q; omega
        · show _ ↔ skK t l s0 = 3; omega
        · show _ ↔ skK t l s0 = 4; omega
        · show _ ↔ skK t l s0 = x.1
          have : ∀ y ∈ wTab, 128 ≤ y.1 := by decide
          have := this x hx
          omega
end Tok
