section Rm6s
variable {p b : List Int} {w : Int}
theorem stl_hd {g : Int} (hg : 1 ≤ g) : ∀ (p b : List Int), rkh (stl g p b).1 < g := by
  intro p
  induction p with
  | nil => intro b; show (0 : Int) < g; omega
  | cons x p ih =>
    intro b
    by_cases h : g ≤ rk x
    · rw [stl_go h]; exact ih _
    · rw [stl_no (by omega)]; show rk x < g; omega
theorem btw_v : btw p w = -1 ∨ (6 ≤ btw p w ∧ btw p w ≤ 9) ∨ ((10 ≤ btw p w ∧ btw p w ≤ 15) ∧ cmpd p = false) ∨ btw p w = 21 ∨ btw p w = 22 := by
  have hc := cmp_b w
  unfold btw
  by_cases h1 : w = 43
  · rw [if_pos h1]; right; left; omega
  · rw [if_neg h1]
    by_cases h2 : w = 45
    · rw [if_pos h2]; right; left; omega
    · rw [if_neg h2]
      by_cases h3 : w = 42
      · rw [if_pos h3]; right; left; omega
      · rw [if_neg h3]
        by_cases h4 : w = 47
        · rw [if_pos h4]; right; left; omega
        · rw [if_neg h4]
          by_cases h5 : opn p ≠ 42
          · rw [if_pos h5]; exact Or.inl rfl
          · rw [if_neg h5]
            by_cases h6 : cmpd p = false
            · rw [if_pos h6]
              rcases hc with h7 | h7
              · exact Or.inl h7
              · exact Or.inr (Or.inr (Or.inl ⟨h7, h6⟩))
            · rw [if_neg h6]
              by_cases h7 : w = 150
              · rw [if_pos h7]; exact Or.inr (Or.inr (Or.inr (Or.inl rfl)))
              · rw [if_neg h7]
                by_cases h8 : w = 151
                · rw [if_pos h8]; exact Or.inr (Or.inr (Or.inr (Or.inr rfl)))
                · rw [if_neg h8]; exact Or.inl rfl
theorem cmp_hd {q : List Int} (h : cmpd q = false) (h2 : rkh q < 5) : rkh q < 4 := by
  cases q with
  | nil => show (0 : Int) < 4; omega
  | cons x q =>
    have h3 : rk x < 5 := h2
    have h4 : (if 4 < rk x then cmpd q else decide (rk x = 4)) = false := h
    rw [if_neg (by omega)] at h4
    have h5 : rk x ≠ 4 := of_decide_eq_false h4
    show rk x < 4
    omega
/-- what comes between two may lie on what is settled for it -/
theorem beh_okP {o : Int} (hk : okP p) (he : btw p w = o) (ho : 0 ≤ o) : okP (o :: (stl (if rk o = 4 then 5 else rk o) p b).1) ∧ opT o = false ∧ (1 ≤ (if rk o = 4 then 5 else rk o) ∧ (if rk o = 4 then 5 else rk o) ≤ 7) ∧ (0 ≤ o ∧ o ≤ 22) := by
  have hv := btw_v (p := p) (w := w)
  rw [he] at hv
  have hx : (6 ≤ o ∧ o ≤ 9) ∨ ((10 ≤ o ∧ o ≤ 15) ∧ cmpd p = false) ∨ o = 21 ∨ o = 22 := by
    rcases hv with h | h
    · omega
    · exact h
  have hn4 : (6 ≤ o ∧ o ≤ 9) ∨ o = 21 ∨ o = 22 → rk o ≠ 4 ∧ (1 ≤ rk o ∧ rk o ≤ 6) ∧ opT o = false ∧ vld o := by
    intro h
    have h' : o = 6 ∨ o = 7 ∨ o = 8 ∨ o = 9 ∨ o = 21 ∨ o = 22 := by omega
    rcases h' with rfl | rfl | rfl | rfl | rfl | rfl <;> decide
  by_cases hq : 10 ≤ o ∧ o ≤ 15
  · have hr := rk_cmp hq
    have hc : cmpd p = false := by
      rcases hx with h | h | h | h
      · omega
      · exact h.2
      · omega
      · omega
    rw [if_pos hr]
    refine ⟨⟨(stl_ok p b hk).1, by omega, Or.inr ?_⟩, opT_n hq, by omega, by omega⟩
    rw [hr]
    exact cmp_hd ((cmpd_stl (by omega) p b).trans hc) (stl_hd (by omega) p b)
  · have h2 := hn4 (by omega)
    rw [if_neg h2.1]
    exact ⟨⟨(stl_ok p b hk).1, h2.2.2.2, Or.inr (stl_hd h2.2.1.1 p b)⟩, h2.2.2.1, by omega, by omega⟩
end Rm6s
