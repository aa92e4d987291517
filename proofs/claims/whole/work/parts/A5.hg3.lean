section Hg3s
variable {n mc ms : Nat} {M : Md} {pc : Nat} {lv : List (Nat × Value)} {st : List Value} {k j : Nat} {Post : PT} {S : Sh} {I : CI} {R : CR} {A : Nat → Int} {tx : Nat → Nat → Int}
variable {ft : Nat → Nat} {H h q : Nat}
theorem sg_sh {w : Nat → Int} : ∀ k : Nat, sg w (k + 1) = w 0 + sg (fun i => w (1 + i)) k := by
  intro k
  induction k with
  | zero => show (0 : Int) + w 0 = w 0 + 0; omega
  | succ k ih =>
    have a1 : sg w (k + 1 + 1) = sg w (k + 1) + w (k + 1) := rfl
    have a2 : sg (fun i => w (1 + i)) (k + 1) = sg (fun i => w (1 + i)) k + w (1 + k) := rfl
    rw [a1, a2, ih, show k + 1 = 1 + k by omega]; omega
theorem sg_pt {a : Nat} {x : Int} : ∀ k : Nat, sg (fun i => if i = a then x else 0) k = if a < k then x else 0 := by
  intro k
  induction k with
  | zero => rw [if_neg (by omega)]; rfl
  | succ k ih =>
    show sg _ k + (if k = a then x else 0) = _
    rw [ih]
    by_cases h1 : a < k
    · rw [if_pos h1, if_neg (by omega), if_pos (by omega)]; omega
    · by_cases h2 : k = a
      · rw [if_neg h1, if_pos h2, if_pos (by omega)]; omega
      · rw [if_neg h1, if_neg h2, if_neg (by omega)]; omega
theorem sg_plus {u w : Nat → Int} : ∀ k : Nat, sg (fun i => u i + w i) k = sg u k + sg w k := by
  intro k
  induction k with
  | zero => rfl
  | succ k ih => show sg _ k + (u k + w k) = (sg u k + u k) + (sg w k + w k); rw [ih]; omega
theorem flt_cnt {g : Nat → List (List Nat)} : ∀ (d v : Nat), cntL h q (flt g d v) = sg (fun i => cntL h q (g (v + i))) d := by
  intro d
  induction d with
  | zero => intro v; rfl
  | succ d ih =>
    intro v
    show cntL h q (g v ++ flt g d (v + 1)) = _
    rw [cntL_app, ih (v + 1), sg_sh]
    congr 1
    exact sg_congr d (fun i _ => by rw [show v + 1 + i = v + (1 + i) by omega])
theorem cpp_pre : ∀ (f k s : Nat) (pre : List Nat), ∀ x ∈ cpp ft f k s pre, ∃ r, x = pre ++ r := by
  intro f
  induction f with
  | zero => intro k s pre x hx; exact ⟨[], by rw [List.append_nil]; exact List.mem_singleton.mp hx⟩
  | succ f ih =>
    intro k s pre x hx
    have key : ∀ (d v : Nat), x ∈ flt (bk ft f k s pre) d v → ∃ r, x = pre ++ r := by
      intro d
      induction d with
      | zero => intro v h9; cases h9
      | succ d ih2 =>
        intro v h9
        rcases List.mem_append.mp h9 with h8 | h8
        · by_cases hb : (sdN (ft k) s).testBit v = true
          · have h7 : x ∈ cpp ft f (k + 1) (s ||| 2 ^ v) (pre ++ [v]) := by
              have e : bk ft f k s pre v = cpp ft f (k + 1) (s ||| 2 ^ v) (pre ++ [v]) := if_pos hb
              rw [← e]; exact h8
            obtain ⟨r, hr⟩ := ih _ _ _ x h7
            exact ⟨[v] ++ r, by rw [hr, List.append_assoc]⟩
          · have e : bk ft f k s pre v = [] := if_neg hb
            rw [e] at h8; cases h8
        · exact ih2 (v + 1) h8
    exact key 8 0 hx
theorem cnt_const {z : Nat} : ∀ L : List (List Nat), (∀ x ∈ L, x.getD h 0 = z) → cntL h q L = if z = q then (L.length : Int) else 0 := by
  intro L
  induction L with
  | nil => intro _; show (0 : Int) = _; split <;> rfl
  | cons x r ih =>
    intro hh
    have e : cntL h q (x :: r) = (if x.getD h 0 = q then 1 else 0) + cntL h q r := rfl
    rw [e, ih (fun y hy => hh y (List.mem_cons_of_mem _ hy)), hh x List.mem_cons_self, List.length_cons]
    split <;> omega
def ctN (ft : Nat → Nat) (H h q : Nat) : Nat → Nat → Int
  | 0, s => if (sdN (ft h) s).testBit q = true then wbA ft H (s ||| 2 ^ q) else 0
  | g + 1, s => sg (fun i => if (sdN (ft (h - (g + 1))) s).testBit i = true then ctN ft H h q g (s ||| 2 ^ i) else 0) 8
theorem cpp_cnt (hft : ∀ h, ft h < 256) (hq : q < 8) (hh : h < H) : ∀ (g k f s : Nat) (pre : List Nat), k + g = h → k + f = H → pre.length = k → s < 256 → bcN s = k → cntL h q (cpp ft f k s pre) = ctN ft H h q g s := by
  intro g
  induction g with
  | zero =>
    intro k f s pre hk hf hp hs hb
    obtain ⟨f, rfl⟩ : ∃ e, f = e + 1 := ⟨f - 1, by omega⟩
    obtain rfl : k = h := by omega
    rw [cpp_s, flt_cnt]
    have key : ∀ i, i < 8 → cntL k q (bk ft f k s pre (0 + i)) = if i = q then (if (sdN (ft k) s).testBit q = true then wbA ft H (s ||| 2 ^ q) else 0) else 0 := by
      intro i hi
      rw [Nat.zero_add]
      by_cases hbit : (sdN (ft k) s).testBit i = true
      · have e : bk ft f k s pre i = cpp ft f (k + 1) (s ||| 2 ^ i) (pre ++ [i]) := if_pos hbit
        have hc := cn_bit (hft k) hbit
        have ho := bc_or hs hi hc.2
        rw [e, cnt_const (z := i) _ (fun x hx => ?_)]
        · by_cases hiq : i = q
          · subst hiq
            rw [if_pos rfl, if_pos rfl, if_pos hbit]
            exact cpp_len hft f (k + 1) _ _ ho.2.1 (by omega) (by omega)
          · rw [if_neg hiq, if_neg hiq]
        · obtain ⟨r, rfl⟩ := cpp_pre _ _ _ _ x hx
          rw [List.getD_eq_getElem?_getD, List.append_assoc, List.getElem?_append_right (by omega), hp, Nat.sub_self]
          rfl
      · have e : bk ft f k s pre i = [] := if_neg hbit
        rw [e]
        by_cases hiq : i = q
        · subst hiq; rw [if_pos rfl, if_neg hbit]; rfl
        · rw [if_neg hiq]; rfl
    rw [sg_congr 8 key, sg_pt, if_pos hq]
    rfl
  | succ g ih =>
    intro k f s pre hk hf hp hs hb
    obtain ⟨f, rfl⟩ : ∃ e, f = e + 1 := ⟨f - 1, by omega⟩
    rw [cpp_s, flt_cnt]
    refine sg_congr 8 (fun i hi => ?_)
    rw [Nat.zero_add, show h - (g + 1) = k by omega]
    by_cases hbit : (sdN (ft k) s).testBit i = true
    · have e : bk ft f k s pre i = cpp ft f (k + 1) (s ||| 2 ^ i) (pre ++ [i]) := if_pos hbit
      have hc := cn_bit (hft k) hbit
      have ho := bc_or hs hi hc.2
      rw [e, if_pos hbit]
      exact ih (k + 1) f _ _ (by omega) (by omega) (by rw [List.length_append, List.length_singleton, hp]) ho.2.1 (by omega)
    · have e : bk ft f k s pre i = [] := if_neg hbit
      rw [e, if_neg hbit]; rfl
/-! what the first hooks bear -/
def lsm (F : Nat → Int) : List Nat → Int
  | [] => 0
  | x :: r => F x + lsm F r
theorem lsm_app {F : Nat → Int} : ∀ l r : List Nat, lsm F (l ++ r) = lsm F l + lsm F r := by
  intro l r
  induction l with
  | nil => show lsm F r = 0 + lsm F r; omega
  | cons x l ih => show F x + lsm F (l ++ r) = F x + lsm F l + lsm F r; rw [ih]; omega
theorem lsm_cg {F G : Nat → Int} : ∀ l : List Nat, (∀ x ∈ l, F x = G x) → lsm F l = lsm G l := by
  intro l
  induction l with
  | nil => intro _; rfl
  | cons x l ih => intro h9; show F x + _ = G x + _; rw [h9 x List.mem_cons_self, ih (fun y hy => h9 y (List.mem_cons_of_mem _ hy))]
theorem lsm_sg {C : Nat → Nat → Int} : ∀ l : List Nat, lsm (fun s => sg (fun i => C i s) 8) l = sg (fun i => lsm (C i) l) 8 := by
  intro l
  induction l with
  | nil => exact (sg_0 8 (fun _ _ => rfl)).symm
  | cons x l ih =>
    show sg (fun i => C i x) 8 + lsm _ l = sg (fun i => C i x + lsm (C i) l) 8
    rw [ih, sg_plus]
def nxtL (ft : Nat → Nat) (k s : Nat) : Nat → Nat → List Nat
  | 0, _ => []
  | d + 1, v => (if (sdN (ft k) s).testBit v = true then [s ||| 2 ^ v] else []) ++ nxtL ft k s d (v + 1)
theorem nxtL_sm {F : Nat → Int} {k s : Nat} : ∀ d v : Nat, lsm F (nxtL ft k s d v) = sg (fun i => if (sdN (ft k) s).testBit (v + i) = true then F (s ||| 2 ^ (v + i)) else 0) d := by
  intro d
  induction d with
  | zero => intro v; rfl
  | succ d ih =>
    intro v
    show lsm F ((if (sdN (ft k) s).testBit v = true then [s ||| 2 ^ v] else []) ++ nxtL ft k s d (v + 1)) = _
    rw [lsm_app, ih (v + 1), sg_sh]
    congr 1
    · rw [Nat.add_zero]
      split
      · show F _ + 0 = _; omega
      · rfl
    · exact sg_congr d (fun i _ => by rw [show v + 1 + i = v + (1 + i) by omega])
def psL (ft : Nat → Nat) : Nat → List Nat
  | 0 => [0]
  | k + 1 => (psL ft k).flatMap (fun s => nxtL ft k s 8 0)
theorem lsm_fm {F : Nat → Int} {g : Nat → List Nat} : ∀ l : List Nat, lsm F (l.flatMap g) = lsm (fun s => lsm F (g s)) l := by
  intro l
  induction l with
  | nil => rfl
  | cons x l ih => rw [List.flatMap_cons, lsm_app, ih]; rfl
theorem psL_sm {F : Nat → Int} {k : Nat} : lsm F (psL ft (k + 1)) = lsm (fun s => sg (fun i => if (sdN (ft k) s).testBit i = true then F (s ||| 2 ^ i) else 0) 8) (psL ft k) := by
  show lsm F ((psL ft k).flatMap _) = _
  rw [lsm_fm]
  refine lsm_cg _ (fun s _ => ?_)
  rw [nxtL_sm]
  exact sg_congr 8 (fun i _ => by rw [Nat.zero_add])
theorem nxtL_lt {k s : Nat} (hft : ∀ h, ft h < 256) (hs : s < 256) : ∀ d v : Nat, v + d = 8 → ∀ x ∈ nxtL ft k s d v, x < 256 := by
  intro d
  induction d with
  | zero => intro v _ x hx; cases hx
  | succ d ih =>
    intro v hv x hx
    rcases List.mem_append.mp hx with h9 | h9
    · by_cases hb : (sdN (ft k) s).testBit v = true
      · rw [if_pos hb] at h9
        rw [List.mem_singleton.mp h9]
        exact (bc_or hs (by omega) (cn_bit (hft k) hb).2).2.1
      · rw [if_neg hb] at h9; cases h9
    · exact ih (v + 1) (by omega) x h9
theorem psL_lt (hft : ∀ h, ft h < 256) : ∀ k : Nat, ∀ x ∈ psL ft k, x < 256 := by
  intro k
  induction k with
  | zero => intro x hx; rw [List.mem_singleton.mp hx]; omega
  | succ k ih =>
    intro x hx
    obtain ⟨s, h1, h2⟩ := List.mem_flatMap.mp hx
    exact nxtL_lt hft (ih s h1) 8 0 (by omega) x h2
theorem ct_ps : ∀ (g k : Nat), k + g = h → lsm (ctN ft H h q g) (psL ft k) = lsm (ctN ft H h q 0) (psL ft h) := by
  intro g
  induction g with
  | zero => intro k hk; obtain rfl : k = h := (by omega); rfl
  | succ g ih =>
    intro k hk
    rw [← ih (k + 1) (by omega), psL_sm]
    refine lsm_cg _ (fun s _ => ?_)
    show sg (fun i => if (sdN (ft (h - (g + 1))) s).testBit i = true then _ else _) 8 = _
    rw [show h - (g + 1) = k by omega]
def occ (a : Nat) : List Nat → Int := lsm (fun s => if s = a then 1 else 0)
theorem lsm_occ {F : Nat → Int} : ∀ l : List Nat, (∀ x ∈ l, x < 256) → lsm F l = sg (fun s => occ s l * F s) 256 := by
  intro l
  induction l with
  | nil => intro _; exact (sg_0 256 (fun i _ => by show (0 : Int) * _ = 0; rw [Int.zero_mul])).symm
  | cons x l ih =>
    intro h9
    show F x + lsm F l = _
    rw [ih (fun y hy => h9 y (List.mem_cons_of_mem _ hy))]
    have e : sg (fun s => occ s (x :: l) * F s) 256 = sg (fun s => (if s = x then F x else 0) + occ s l * F s) 256 := by
      refine sg_congr 256 (fun s _ => ?_)
      show ((if x = s then 1 else 0) + occ s l) * F s = _
      rw [Int.add_mul]
      congr 1
      by_cases hx : s = x
      · subst hx; rw [if_pos rfl, if_pos rfl, Int.one_mul]
      · rw [if_neg (fun h8 => hx h8.symm), if_neg hx, Int.zero_mul]
    rw [e, sg_plus, sg_pt, if_pos (h9 x List.mem_cons_self)]
theorem or_iff {s t i : Nat} (hs : s < 256) (ht : t < 256) (hi : i < 8) : (s.testBit i = false ∧ s ||| 2 ^ i = t) ↔ (t.testBit i = true ∧ s = t - 2 ^ i) := by
  constructor
  · rintro ⟨h1, h2⟩
    have ho := bc_or hs hi h1
    have hp := pw7 hi
    refine ⟨?_, by omega⟩
    rw [← h2, Nat.testBit_or, Nat.testBit_two_pow_self, Bool.or_true]
  · rintro ⟨h1, rfl⟩
    have hl := bc_less ht hi h1
    exact ⟨hl.2.2.1, hl.2.2.2⟩
theorem occ_ps (hft : ∀ h, ft h < 256) : ∀ (k t : Nat), t < 256 → occ t (psL ft k) = if bcN t = k then wuA ft t else 0 := by
  intro k
  induction k with
  | zero =>
    intro t ht
    have hz := bc_0 ht
    show (if 0 = t then (1 : Int) else 0) + 0 = _
    by_cases h0 : t = 0
    · subst h0; rw [if_pos rfl, if_pos (hz.mpr rfl)]; rfl
    · rw [if_neg (fun h9 => h0 h9.symm), if_neg (fun h9 => h0 (hz.mp h9))]; rfl
  | succ k ih =>
    intro t ht
    unfold occ
    rw [psL_sm]
    have e1 : lsm (fun s => sg (fun i => if (sdN (ft k) s).testBit i = true then (if s ||| 2 ^ i = t then (1 : Int) else 0) else 0) 8) (psL ft k) = lsm (fun s => sg (fun i => if t.testBit i = true ∧ (ft k).testBit i = true then (if s = t - 2 ^ i then (1 : Int) else 0) else 0) 8) (psL ft k) := by
      refine lsm_cg _ (fun s hs => sg_congr 8 (fun i hi => ?_))
      have hs2 := psL_lt hft k s hs
      have hiff := or_iff hs2 ht hi
      have hsd : (sdN (ft k) s).testBit i = true ↔ ((ft k).testBit i = true ∧ s.testBit i = false) := by
        rw [sdN_tb (by have := hft k; omega), Bool.and_eq_true, Bool.not_eq_true']
      by_cases h1 : (ft k).testBit i = true
      · by_cases h2 : s.testBit i = false
        · rw [if_pos (hsd.mpr ⟨h1, h2⟩)]
          by_cases h3 : s ||| 2 ^ i = t
          · have h4 := hiff.mp ⟨h2, h3⟩
            rw [if_pos h3, if_pos ⟨h4.1, h1⟩, if_pos h4.2]
          · rw [if_neg h3]
            by_cases h4 : t.testBit i = true
            · rw [if_pos ⟨h4, h1⟩, if_neg (fun h5 => h3 (hiff.mpr ⟨h4, h5⟩).2)]
            · rw [if_neg (fun h5 => h4 h5.1)]
        · rw [if_neg (fun h9 => h2 (hsd.mp h9).2)]
          by_cases h4 : t.testBit i = true
          · rw [if_pos ⟨h4, h1⟩, if_neg (fun h5 => h2 (hiff.mpr ⟨h4, h5⟩).1)]
          · rw [if_neg (fun h5 => h4 h5.1)]
      · rw [if_neg (fun h9 => h1 (hsd.mp h9).1), if_neg (fun h9 => h1 h9.2)]
    rw [e1, lsm_sg]
    have e2 : ∀ i, i < 8 → lsm (fun s => if t.testBit i = true ∧ (ft k).testBit i = true then (if s = t - 2 ^ i then (1 : Int) else 0) else 0) (psL ft k) = if t.testBit i = true ∧ (ft k).testBit i = true then (if bcN t = k + 1 then wuA ft (t - 2 ^ i) else 0) else 0 := by
      intro i hi
      by_cases hc : t.testBit i = true ∧ (ft k).testBit i = true
      · have h9 := ih (t - 2 ^ i) (Nat.lt_of_le_of_lt (Nat.sub_le _ _) ht)
        have hl := bc_less ht hi hc.1
        have e3 : lsm (fun s => if t.testBit i = true ∧ (ft k).testBit i = true then (if s = t - 2 ^ i then (1 : Int) else 0) else 0) (psL ft k) = occ (t - 2 ^ i) (psL ft k) := lsm_cg _ (fun s _ => by rw [if_pos hc])
        rw [e3, h9, if_pos hc]
        by_cases hb : bcN t = k + 1
        · rw [if_pos hb, if_pos (by omega)]
        · rw [if_neg hb, if_neg (by omega)]
      · rw [if_neg hc]
        have e3 : lsm (fun s => if t.testBit i = true ∧ (ft k).testBit i = true then (if s = t - 2 ^ i then (1 : Int) else 0) else 0) (psL ft k) = lsm (fun _ => 0) (psL ft k) := lsm_cg _ (fun s _ => by rw [if_neg hc])
        rw [e3]
        have : ∀ l : List Nat, lsm (fun _ => 0) l = 0 := by
          intro l
          induction l with
          | nil => rfl
          | cons x l ih2 => show (0 : Int) + lsm _ l = 0; rw [ih2]; rfl
        exact this _
    rw [sg_congr 8 e2]
    by_cases hb : bcN t = k + 1
    · rw [if_pos hb, wuA_s ht (fun h9 => by subst h9; have : bcN 0 = 0 := rfl; omega)]
      refine sg_congr 8 (fun i hi => ?_)
      rw [hb, Nat.add_sub_cancel, if_pos rfl]
    · rw [if_neg hb]
      refine sg_0 8 (fun i hi => ?_)
      rw [if_neg hb]
      split <;> rfl
theorem ww_sg : ∀ z : Nat, wwK ft H h q z = sg (fun s => (if bcN s = h then wuA ft s else 0) * (if (sdN (ft h) s).testBit q = true then wbA ft H (s ||| 2 ^ q) else 0)) z := by
  intro z
  induction z with
  | zero => rfl
  | succ z ih =>
    show (if bcN z = h ∧ (sdN (ft h) z).testBit q = true then wwK ft H h q z + wuA ft z * wbA ft H (z ||| 2 ^ q) else wwK ft H h q z) = sg _ z + _
    rw [← ih]
    dsimp only
    by_cases h1 : bcN z = h
    · by_cases h2 : (sdN (ft h) z).testBit q = true
      · rw [if_pos ⟨h1, h2⟩, if_pos h1, if_pos h2]
      · rw [if_neg (fun h9 => h2 h9.2), if_neg h2, Int.mul_zero, Int.add_zero]
    · rw [if_neg (fun h9 => h1 h9.1), if_neg h1, Int.zero_mul, Int.add_zero]
theorem often_ww (hft : ∀ h, ft h < 256) (hq : q < 8) (hh : h < H) : cntL h q (cpp ft H 0 0 []) = wwK ft H h q 256 := by
  rw [cpp_cnt hft hq hh h 0 H 0 [] (by omega) (by omega) rfl (by omega) rfl]
  have e1 : ctN ft H h q h 0 = lsm (ctN ft H h q h) (psL ft 0) := by show _ = ctN ft H h q h 0 + 0; omega
  rw [e1, ct_ps h 0 (by omega), lsm_occ _ (psL_lt hft h), ww_sg]
  exact sg_congr 256 (fun s hs => by rw [occ_ps hft h s hs]; rfl)
/-! the first of all -/
theorem flt_hd {g : Nat → List (List Nat)} {x : List Nat} : ∀ (d v : Nat), (flt g d v).head? = some x → ∃ i, v ≤ i ∧ i < v + d ∧ (∀ z, v ≤ z → z < i → g z = []) ∧ (g i).head? = some x := by
  intro d
  induction d with
  | zero => intro v h9; cases h9
  | succ d ih =>
    intro v h9
    have h8 : (g v ++ flt g d (v + 1)).head? = some x := h9
    cases hg : g v with
    | nil =>
      rw [hg, List.nil_append] at h8
      obtain ⟨i, h1, h2, h3, h4⟩ := ih (v + 1) h8
      refine ⟨i, by omega, by omega, fun z z1 z2 => ?_, h4⟩
      by_cases hz : z = v
      · rw [hz]; exact hg
      · exact h3 z (by omega) z2
    | cons a r =>
      refine ⟨v, by omega, by omega, fun z z1 z2 => by omega, ?_⟩
      rw [hg] at h8 ⊢
      exact h8
theorem lnL_at {k s i : Nat} (hi : (sdN (ft k) s).testBit i = true ∧ 0 < wbA ft H (s ||| 2 ^ i)) : ∀ (d v : Nat), v ≤ i → i < v + d → (∀ z, v ≤ z → z < i → ¬ ((sdN (ft k) s).testBit z = true ∧ 0 < wbA ft H (s ||| 2 ^ z))) → lnL ft H k s d v = (i : Int) := by
  intro d
  induction d with
  | zero => intro v h1 h2 _; omega
  | succ d ih =>
    intro v h1 h2 h3
    show (if _ then _ else _) = _
    by_cases hv : v = i
    · subst hv; rw [if_pos hi]
    · rw [if_neg (h3 v (by omega) (by omega))]
      exact ih (v + 1) (by omega) (by omega) (fun z z1 z2 => h3 z (by omega) z2)
theorem lo_hd (hft : ∀ h, ft h < 256) {x : List Nat} (hx : (cpp ft H 0 0 []).head? = some x) : ∀ k : Nat, k ≤ H → loP ft H k ∧ bcN (loK ft H k).1 = k ∧ ∃ pre, pre.length = k ∧ (∀ i, i < k → (loK ft H (i + 1)).2 = ((pre.getD i 0 : Nat) : Int)) ∧ (cpp ft (H - k) k (loK ft H k).1 pre).head? = some x := by
  intro k
  induction k with
  | zero => intro _; exact ⟨trivial, (show bcN 0 = 0 by decide), [], rfl, fun i hi => by omega, hx⟩
  | succ k ih =>
    intro hk
    obtain ⟨h1, h2, pre, h3, h4, h5⟩ := ih (by omega)
    have hs := (loK_b (ft := ft) (H := H) k).1
    obtain ⟨f, hf⟩ : ∃ f, H - k = f + 1 := ⟨H - k - 1, by omega⟩
    rw [hf, cpp_s] at h5
    obtain ⟨i, i1, i2, i3, i4⟩ := flt_hd 8 0 h5
    have hlen : ∀ z, z < 8 → (sdN (ft k) (loK ft H k).1).testBit z = true → ((bk ft f k (loK ft H k).1 pre z).length : Int) = wbA ft H ((loK ft H k).1 ||| 2 ^ z) := by
      intro z hz hb
      have e : bk ft f k (loK ft H k).1 pre z = cpp ft f (k + 1) ((loK ft H k).1 ||| 2 ^ z) (pre ++ [z]) := if_pos hb
      have ho := bc_or hs hz (cn_bit (hft k) hb).2
      rw [e]
      exact cpp_len hft f (k + 1) _ _ ho.2.1 (by omega) (by omega)
    have hbi : (sdN (ft k) (loK ft H k).1).testBit i = true := by
      apply Classical.byContradiction
      intro h9
      have e : bk ft f k (loK ft H k).1 pre i = [] := if_neg h9
      rw [e] at i4; cases i4
    have hwi : 0 < wbA ft H ((loK ft H k).1 ||| 2 ^ i) := by
      have h9 := hlen i (by omega) hbi
      cases hg : bk ft f k (loK ft H k).1 pre i with
      | nil => rw [hg] at i4; cases i4
      | cons a r => rw [hg, List.length_cons] at h9; omega
    have hln : lnP ft H k (loK ft H k).1 = (i : Int) := by
      refine lnL_at ⟨hbi, hwi⟩ 8 0 i1 i2 (fun z z1 z2 h9 => ?_)
      have h8 := hlen z (by omega) h9.1
      rw [i3 z z1 z2] at h8
      have h7 : (([] : List (List Nat)).length : Int) = 0 := rfl
      omega
    have hlo : loK ft H (k + 1) = ((loK ft H k).1 ||| 2 ^ i, (i : Int)) := by
      show ((loK ft H k).1 ||| 2 ^ (lnP ft H k (loK ft H k).1).toNat, lnP ft H k (loK ft H k).1) = _
      rw [hln]; rfl
    have ho := bc_or hs (show i < 8 by omega) (cn_bit (hft k) hbi).2
    refine ⟨⟨h1, by rw [hln]; omega⟩, by rw [hlo]; show bcN ((loK ft H k).1 ||| 2 ^ i) = k + 1; omega, pre ++ [i], by rw [List.length_append, List.length_singleton, h3], fun z hz => ?_, ?_⟩
    · rw [gd_pre (by omega), h3]
      by_cases hzk : z = k
      · rw [if_pos hzk, hzk, hlo]
      · rw [if_neg hzk]; exact h4 z (by omega)
    · rw [hlo, show H - (k + 1) = f by omega]
      have e : bk ft f k (loK ft H k).1 pre i = cpp ft f (k + 1) ((loK ft H k).1 ||| 2 ^ i) (pre ++ [i]) := if_pos hbi
      rw [e] at i4
      exact i4
theorem low_hd (hft : ∀ h, ft h < 256) {x : List Nat} (hx : (cpp ft H 0 0 []).head? = some x) {k : Nat} (hk : k < H) : lowP ft H k = ((x.getD k 0 : Nat) : Int) := by
  obtain ⟨h1, h2, pre, h3, h4, h5⟩ := lo_hd hft hx H (Nat.le_refl _)
  rw [Nat.sub_self] at h5
  have e : pre = x := Option.some.inj h5
  have hl := cpp_len hft H 0 0 [] (by omega) rfl (Nat.zero_add H)
  have hne : wbA ft H 0 ≠ 0 := by
    rw [← hl]
    cases hg : cpp ft H 0 0 [] with
    | nil => rw [hg] at hx; cases hx
    | cons a r => rw [List.length_cons]; omega
  have hlo := loP_mono (ft := ft) (H := H) (k := k + 1) (H - (k + 1)) (by rw [show k + 1 + (H - (k + 1)) = H by omega]; exact h1)
  unfold lowP
  rw [if_pos ⟨hne, hlo⟩, ← e]
  exact h4 k hk
end Hg3s
