section Tx0s
variable {n mc ms : Nat} {M : Md} {pc : Nat} {lv : List (Nat × Value)} {st : List Value} {k j : Nat} {Post : PT} {S : Sh} {I : CI} {R : CR} {A : Nat → Int} {tx : Nat → Nat → Int}
theorem tkn_nn (op : Int) : 0 ≤ tkn op := by
  unfold tkn
  repeat' split
  all_goals omega
variable {o : Nat} {cl : List CE} {code : List Int} {x X : Nat → Int} {w : List Int} {cd : Nat → Int}
theorem tyS_len {op : Int} {p q : List Bool} (h : tyS op p = some q) : tkn op ≤ (p.length : Int) ∧ (q.length : Int) = (p.length : Int) - tkn op + 1 := by
  have key : ∀ z : Int, tkn op = z → (z ≤ (p.length : Int) ∧ (q.length : Int) = (p.length : Int) - z + 1) → tkn op ≤ (p.length : Int) ∧ (q.length : Int) = (p.length : Int) - tkn op + 1 := fun z e h => by rw [e]; exact h
  unfold tyS at h
  by_cases h1 : op ≤ 1
  · rw [if_pos h1] at h
    cases h
    refine key 0 (by unfold tkn; rw [if_pos h1]) ?_
    rw [List.length_cons]; omega
  rw [if_neg h1] at h
  by_cases h3 : op ≤ 3
  · rw [if_pos h3] at h
    refine key 1 (by unfold tkn; rw [if_neg h1, if_pos (by omega)]) ?_
    split at h
    · cases h; simp only [List.length_cons]; omega
    · cases h
  rw [if_neg h3] at h
  by_cases h4 : op = 4
  · rw [if_pos h4] at h
    refine key 1 (by unfold tkn; rw [if_neg h1, if_pos (by omega)]) ?_
    split at h
    · cases h; simp only [List.length_cons]; omega
    · cases h
  rw [if_neg h4] at h
  by_cases h9 : op ≤ 9
  · rw [if_pos h9] at h
    refine key 2 (by unfold tkn; rw [if_neg h1, if_neg (by omega), if_pos (by omega)]) ?_
    split at h
    · cases h; simp only [List.length_cons]; omega
    · cases h
  rw [if_neg h9] at h
  by_cases h15 : op ≤ 15
  · rw [if_pos h15] at h
    refine key 2 (by unfold tkn; rw [if_neg h1, if_neg (by omega), if_pos (by omega)]) ?_
    split at h
    · cases h; simp only [List.length_cons]; omega
    · cases h
  rw [if_neg h15] at h
  by_cases h17 : op ≤ 17
  · rw [if_pos h17] at h
    refine key 2 (by unfold tkn; rw [if_neg h1, if_neg (by omega), if_pos (by omega)]) ?_
    split at h
    · cases h; simp only [List.length_cons]; omega
    · cases h
  rw [if_neg h17] at h
  refine key 3 (by unfold tkn; rw [if_neg h1, if_neg (by omega), if_neg (by omega)]) ?_
  split at h
  · cases h; simp only [List.length_cons]; omega
  · cases h
theorem tyL_c {y : Int} {v : List Int} {p q : List Bool} (h : tyL (y :: v) p = some q) : ∃ r, tyS (y / 16384) p = some r ∧ tyL v r = some q := by
  simp only [tyL] at h
  split at h
  · cases h
  · next r hr => exact ⟨r, hr, h⟩
theorem tyN_of {f : Nat} (hcd : ∀ i, i < w.length → cd (f + i) = w.getD i 0) (h : tyL w [] = some [false]) : tyN cd f w.length = some [false] := by
  have key : ∀ k : Nat, k ≤ w.length → ∃ p, tyN cd f k = some p ∧ tyL (w.drop k) p = some [false] := by
    intro k
    induction k with
    | zero => intro _; exact ⟨[], rfl, h⟩
    | succ k ih =>
      intro hk
      obtain ⟨p, h1, h2⟩ := ih (by omega)
      rw [List.drop_eq_getElem_cons (by omega)] at h2
      obtain ⟨r, h3, h4⟩ := tyL_c h2
      refine ⟨r, ?_, h4⟩
      have e : cd (f + k) = w[k] := by rw [hcd k (by omega), List.getD_eq_getElem?_getD, List.getElem?_eq_getElem (by omega)]; rfl
      simp only [tyN, h1, e]
      exact h3
  obtain ⟨p, h1, h2⟩ := key w.length (Nat.le_refl _)
  rw [List.drop_length] at h2
  have h3 : p = [false] := Option.some.inj h2
  rw [h1, h3]
theorem okC_of {f : Nat} {sl : Bool} (hcd : ∀ i, i < w.length → cd (f + i) = w.getD i 0) (hok : ∀ y ∈ w, WdOK sl y) (h300 : w.length ≤ 300) : ∀ (d k : Nat) (p : List Bool), k + d = w.length → p.length ≤ k → tyL (w.drop k) p = some [false] → okC cd (f + k) d (p.length : Int) := by
  intro d
  induction d with
  | zero => intro k p _ _ _; trivial
  | succ d ih =>
    intro k p hk hp h
    rw [List.drop_eq_getElem_cons (by omega)] at h
    obtain ⟨r, h3, h4⟩ := tyL_c h
    have e : cd (f + k) = w[k] := by rw [hcd k (by omega), List.getD_eq_getElem?_getD, List.getElem?_eq_getElem (by omega)]; rfl
    have hw := hok w[k] (List.getElem_mem (by omega))
    have hl := tyS_len h3
    have hr := ih (k + 1) r (by omega) (by have := tkn_nn (w[k] / 16384); omega) h4
    refine ⟨by rw [e]; exact hw.1, by rw [e]; exact hl.1, by omega, ?_⟩
    rw [e, ← hl.2, show f + k + 1 = f + (k + 1) by omega]
    exact hr
/-- a text, out of what was read -/
def TxC (x : Nat → Int) (cl : List CE) (code : List Int) : Prop := (x 0 = (cl.length : Int) ∧ x 5 = (code.length : Int) ∧ cl.length ≤ 24 ∧ code.length ≤ 300) ∧ (∀ k e, cl[k]? = some e → x (6 + 4 * k) = e.1 ∧ (138 ≤ e.1 ∨ e.1 = 128 → x (7 + 4 * k) = e.2.1) ∧ (e.1 = 138 → x (8 + 4 * k) = e.2.2.1 ∧ x (9 + 4 * k) = e.2.2.2)) ∧ LwC cl 136 (x 1) (x 2) ∧ LwC cl 137 (x 3) (x 4) ∧ (∀ e ∈ cl, EnOK code e) ∧ ∀ i, i < code.length → x (106 + i) = code.getD i 0
theorem lw_law {v fr to : Int} (hv : isLw v) (h : LwC cl v fr to) (hok : ∀ e ∈ cl, EnOK code e) (h300 : code.length ≤ 300) : ((0 ≤ fr ∧ fr ≤ 300) ∧ 0 ≤ to ∧ to ≤ 300) ∧ (fr < to → to ≤ (code.length : Int) ∧ LawOK (decide (v = 137)) code fr to) := by
  rcases h with ⟨c, e, h1, h2, h3, h4, h5, h6⟩ | ⟨h1, h2, h3⟩
  · have he := hok e (List.mem_of_getElem? h1)
    have hL := he.2 (by rw [h2]; exact hv)
    rw [h2, h3, h4] at hL
    obtain ⟨a, u, b, g1, g2, g3, g4, g5⟩ := id hL
    have hlen : code.length = a.length + u.length + b.length := by rw [g1, List.length_append, List.length_append]
    rw [List.length_append] at g3
    exact ⟨by omega, fun _ => ⟨by omega, hL⟩⟩
  · exact ⟨by omega, fun h9 => by omega⟩
theorem law_cd {sl : Bool} {fr to : Int} (h : LawOK sl code fr to) (hx : ∀ i, i < code.length → cd i = code.getD i 0) (h300 : code.length ≤ 300) : okC cd fr.toNat (to - fr).toNat 0 ∧ tyN cd fr.toNat (to - fr).toNat = some [false] ∧ (∀ i, fr.toNat ≤ i → i < fr.toNat + (to - fr).toNat → i < code.length ∧ WdOK sl (cd i)) ∧ 0 ≤ fr := by
  obtain ⟨a, u, b, g1, g2, g3, g4, g5⟩ := h
  have hlen : code.length = a.length + u.length + b.length := by rw [g1, List.length_append, List.length_append]
  rw [List.length_append] at g3
  have e1 : fr.toNat = a.length := by omega
  have e2 : (to - fr).toNat = u.length := by omega
  have hget : ∀ i, i < u.length → code.getD (a.length + i) 0 = u.getD i 0 := by
    intro i hi
    rw [List.getD_eq_getElem?_getD, List.getD_eq_getElem?_getD, g1, List.append_assoc, List.getElem?_append_right (by omega), List.getElem?_append_left (by omega)]
    rw [show a.length + i - a.length = i by omega]
  have hcd : ∀ i, i < u.length → cd (a.length + i) = u.getD i 0 := fun i hi => by rw [hx _ (by omega), hget i hi]
  rw [e1, e2]
  have hk := okC_of (cd := cd) (f := a.length) (w := u) hcd g4 (by omega) u.length 0 [] (by omega) (by simp) g5
  refine ⟨hk, tyN_of hcd g5, fun i h1 h2 => ⟨by omega, ?_⟩, by omega⟩
  have h3 := hcd (i - a.length) (by omega)
  rw [show a.length + (i - a.length) = i by omega] at h3
  rw [h3, List.getD_eq_getElem?_getD, List.getElem?_eq_getElem (by omega)]
  exact g4 _ (List.getElem_mem (by omega))
theorem tv_of (h : TxC x cl code) : TV x := by
  obtain ⟨⟨h0, h5, h24, h300⟩, h1, h2, h3, h4, h6⟩ := h
  have a1 := lw_law (Or.inl rfl) h2 h4 h300
  have a2 := lw_law (Or.inr rfl) h3 h4 h300
  refine ⟨⟨by omega, fun g => ?_⟩, ⟨by omega, fun g => ?_⟩⟩
  · have b1 := a1.2 g
    exact ⟨by omega, (law_cd (cd := fun i => x (106 + i)) b1.2 h6 h300).1⟩
  · have b1 := a2.2 g
    exact ⟨by omega, (law_cd (cd := fun i => x (106 + i)) b1.2 h6 h300).1⟩
theorem srt_inj {a b : Int} (ha : isCl a) (hb : isCl b) (h : srt a = srt b) : a = b := by
  have h1 := srt_v ha
  have h2 := srt_v hb
  omega
theorem lawR_of {v fr to s0 : Int} {bad : Nat} (hv : isLw v) (hs : srt v = s0) (hbad : bad = (if decide (v = 137) = true then 6 else 7)) (h : TxC x cl code) (hL : LwC cl v fr to) (hX : ∀ k e, cl[k]? = some e → EnR X o k e) (hcd : CdA X o code) : LawR X o x s0 fr to bad := by
  obtain ⟨⟨h0, h5, h24, h300⟩, h1, h2, h3, h4, h6⟩ := h
  have hcv : isCl v := by rcases hv with g | g <;> omega
  have a1 := lw_law hv hL h4 h300
  refine ⟨fun g => ?_, fun g c hc => ?_⟩
  · obtain ⟨b1, b2⟩ := a1.2 g
    obtain ⟨c1, c2, c3, c4⟩ := law_cd (cd := fun i => x (106 + i)) b2 h6 h300
    rcases hL with ⟨c, e, g1, g2, g3, g4, g5, g6⟩ | ⟨g1, g2, g3⟩
    · have hc := (List.getElem?_eq_some_iff.mp g1).1
      have hE := hX c e g1
      refine ⟨c, by omega, by rw [hE.1, g2]; exact hs, fun q hq => ?_, by rw [hE.2.2.1]; exact g3, by rw [hE.2.2.2.1 (Or.inl (by rw [g2]; exact hv))]; exact g4, by omega, fun i hi1 hi2 => ?_, c2⟩
      · have hq2 : q < cl.length := by omega
        have e2 := List.getElem?_eq_getElem hq2
        have hE2 := hX q _ e2
        rw [hE2.1]
        intro h9
        have h8 := srt_inj hE2.2.1 hcv (h9.trans hs.symm)
        exact g6 q _ hq e2 h8
      · obtain ⟨d1, d2⟩ := c3 i hi1 hi2
        have d3 := hcd i d1
        have d4 : x (106 + i) = code.getD i 0 := h6 i d1
        rw [← d4] at d3
        refine ⟨d2.1, d3.1, d3.2, fun h9 => ?_⟩
        have d5 := d2.2 h9
        refine ⟨d5.1, ?_⟩
        have d6 := d5.2
        rw [hbad]
        by_cases hd : v = 137
        · rw [if_pos (decide_eq_true hd)] at d6 ⊢; exact d6
        · rw [if_neg (by rw [decide_eq_false hd]; decide)] at d6 ⊢; exact d6
    · omega
  · have hlt : c < cl.length := by omega
    have e2 := List.getElem?_eq_getElem hlt
    have hE2 := hX c _ e2
    rw [hE2.1]
    intro h9
    have h8 := srt_inj hE2.2.1 hcv (h9.trans hs.symm)
    rcases hL with ⟨c', e, g1, g2, g3, g4, g5, g6⟩ | ⟨g1, g2, g3⟩
    · omega
    · exact g3 _ (List.getElem_mem hlt) h8
theorem rtt_of (h : TxC x cl code) (h0 : X o = (cl.length : Int)) (hX : ∀ k e, cl[k]? = some e → EnR X o k e) (hcd : CdA X o code) : RTt X o x := by
  obtain ⟨⟨g0, g5, g24, g300⟩, h1, h2, h3, h4, h6⟩ := id h
  refine ⟨⟨⟨by rw [h0, g0], by omega, by omega⟩, fun k hk => ?_⟩, lawR_of (Or.inl rfl) rfl (by decide) h h2 hX hcd, lawR_of (Or.inr rfl) rfl (by decide) h h3 hX hcd⟩
  have hlt : k < cl.length := by omega
  have e2 := List.getElem?_eq_getElem hlt
  obtain ⟨n1, n2, n3, n4, n5⟩ := hX k _ e2
  obtain ⟨m1, m2, m3⟩ := h1 k _ e2
  rw [m1]
  refine ⟨n1, n2, fun h9 => by rw [n3, m2 h9], fun h9 => ?_⟩
  obtain ⟨m4, m5⟩ := m3 h9
  exact ⟨by rw [n4 (Or.inr h9), m4], by rw [n5 h9, m5]⟩
end Tx0s
