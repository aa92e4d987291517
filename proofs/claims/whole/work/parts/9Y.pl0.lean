section Pl0s
variable {n mc ms : Nat} {M : Md} {pc : Nat} {lv : List (Nat × Value)} {st : List Value} {k j : Nat} {Post : PT} {S : Sh} {I : CI} {R : CR} {A : Nat → Int} {tx : Nat → Nat → Int}
theorem sd_pow {s i : Nat} (hs : s < 256) (hi : i < 8) (h : s.testBit i = true) : sdN s (2 ^ i) = s - 2 ^ i := by
  have : ∀ s < 256, ∀ i < 8, s.testBit i = true → sdN s (2 ^ i) = s - 2 ^ i := by decide +kernel
  exact this s hs i hi h
def fcN : Nat → Nat
  | 0 => 1
  | n + 1 => (n + 1) * fcN n
theorem fcN_pos : ∀ n : Nat, 0 < fcN n := by
  intro n
  induction n with
  | zero => decide
  | succ n ih => exact Nat.mul_pos (by omega) ih
/-- the place of the set's bit behind k others -/
def nbF (s : Nat) : Nat → Nat → Nat → Nat
  | 0, q, _ => q
  | f + 1, q, k => if s.testBit q = true ∧ k = 0 then q else nbF s f (q + 1) (if s.testBit q = true then k - 1 else k)
def nb (s k : Nat) : Nat := nbF s 8 0 k
theorem nbF_at {s i : Nat} (h : s.testBit i = true) : ∀ (d q f : Nat), q + d = i → d < f → nbF s f q (bck s i - bck s q) = i := by
  intro d
  induction d with
  | zero =>
    intro q f hq hf
    obtain ⟨f, rfl⟩ : ∃ g, f = g + 1 := ⟨f - 1, by omega⟩
    obtain rfl : q = i := by omega
    show (if s.testBit q = true ∧ _ = 0 then q else _) = q
    rw [if_pos ⟨h, by omega⟩]
  | succ d ih =>
    intro q f hq hf
    obtain ⟨f, rfl⟩ : ∃ g, f = g + 1 := ⟨f - 1, by omega⟩
    have hm : ∀ e : Nat, bck s (q + 1) ≤ bck s (q + 1 + e) := by
      intro e
      induction e with
      | zero => exact Nat.le_refl _
      | succ e ih2 => show _ ≤ bck s (q + 1 + e) + _; omega
    have h1 := hm d
    rw [show q + 1 + d = i by omega] at h1
    have h2 : bck s (q + 1) = bck s q + (if s.testBit q then 1 else 0) := rfl
    show (if s.testBit q = true ∧ _ = 0 then q else _) = i
    have h3 := ih (q + 1) f (by omega) (by omega)
    by_cases hb : s.testBit q = true
    · rw [if_pos hb] at h2
      rw [if_neg (fun h9 => by have := h9.2; omega), if_pos hb, show bck s i - bck s q - 1 = bck s i - bck s (q + 1) by omega]
      exact h3
    · rw [if_neg hb] at h2
      rw [if_neg (fun h9 => hb h9.1), if_neg hb, show bck s i - bck s q = bck s i - bck s (q + 1) by omega]
      exact h3
theorem nb_at {s i : Nat} (hi : i < 8) (h : s.testBit i = true) : nb s (bck s i) = i := by
  have := nbF_at h i 0 8 (by omega) (by omega)
  have h0 : bck s 0 = 0 := rfl
  rw [h0, Nat.sub_zero] at this
  exact this
theorem nb_ok {s k : Nat} (hs : s < 256) (hk : k < bcN s) : nb s k < 8 ∧ s.testBit (nb s k) = true ∧ bck s (nb s k) = k := by
  have : ∀ s < 256, ∀ k < 8, k < bcN s → nb s k < 8 ∧ s.testBit (nb s k) = true ∧ bck s (nb s k) = k := by decide +kernel
  exact this s hs k (by have := bcN_b s; omega) hk
/-- the order of a number -/
def ordC : Nat → Nat → Nat → List Nat
  | 0, _, _ => []
  | n + 1, s, c => nb s (c / fcN n) :: ordC n (sdN s (2 ^ nb s (c / fcN n))) (c % fcN n)
theorem ordC_len : ∀ (n s c : Nat), (ordC n s c).length = n := by
  intro n
  induction n with
  | zero => intro _ _; rfl
  | succ n ih => intro s c; show (_ :: ordC n _ _).length = _; rw [List.length_cons, ih]
theorem ordC_lt : ∀ (n s c : Nat), s < 256 → bcN s = n → c < fcN n → ∀ x ∈ ordC n s c, x < 8 := by
  intro n
  induction n with
  | zero => intro _ _ _ _ _ x hx; cases hx
  | succ n ih =>
    intro s c hs hb hc x hx
    have hp := fcN_pos n
    have hc' : c < (n + 1) * fcN n := hc
    have hk := nb_ok (k := c / fcN n) hs (by rw [hb]; exact Nat.div_lt_of_lt_mul (by rw [Nat.mul_comm]; exact hc'))
    have h1 := bc_less hs hk.1 hk.2.1
    have h2 := sd_pow hs hk.1 hk.2.1
    rcases List.mem_cons.mp hx with rfl | hx
    · exact hk.1
    · rw [h2] at hx
      exact ih _ _ (Nat.lt_of_le_of_lt (Nat.sub_le _ _) hs) (by omega) (Nat.mod_lt _ hp) x hx
theorem ordC_blk {n s i c : Nat} (hs : s < 256) (hi : i < 8) (h : s.testBit i = true) (hc : c < fcN n) : ordC (n + 1) s (bck s i * fcN n + c) = i :: ordC n (sdN s (2 ^ i)) c := by
  have hp := fcN_pos n
  have e1 : (bck s i * fcN n + c) / fcN n = bck s i := by
    rw [Nat.mul_comm, Nat.mul_add_div hp, Nat.div_eq_of_lt hc, Nat.add_zero]
  have e2 : (bck s i * fcN n + c) % fcN n = c := by
    rw [Nat.mul_comm, Nat.mul_add_mod, Nat.mod_eq_of_lt hc]
  show nb s ((bck s i * fcN n + c) / fcN n) :: _ = _
  rw [e1, e2, nb_at hi h]
/-- what an order comes to: behind how many days, what is paid -/
def evL (A : Nat → Int) (tx : Nat → Nat → Int) : List Nat → Int → Int → Option (Int × Int)
  | [], d, p => some (d, p)
  | q :: r, d, p => if fdL A tx q p 61 (61 - d).toNat d = -1 then none else evL A tx r (fdL A tx q p 61 (61 - d).toNat d) (p + duesP A tx (A 2) q (fdL A tx q p 61 (61 - d).toNat d) (puP A (fdL A tx q p 61 (61 - d).toNat d) p))
abbrev BST : Type := Option (Int × Int × List Nat)
def kpO (b : BST) (e : Option (Int × Int)) (o : List Nat) : BST := match e with
  | none => b
  | some (d, p) => match b with
    | none => some (d, p, o)
    | some (d0, p0, o0) => if d < d0 ∨ (d = d0 ∧ p < p0) then some (d, p, o) else some (d0, p0, o0)
def cfK (g : Nat → BST → BST) : Nat → BST → BST
  | 0, b => b
  | k + 1, b => g k (cfK g k b)
theorem cfK_add {g : Nat → BST → BST} {b : BST} {a : Nat} : ∀ k : Nat, cfK g (a + k) b = cfK (fun c => g (a + c)) k (cfK g a b) := by
  intro k
  induction k with
  | zero => rfl
  | succ k ih => show g (a + k) (cfK g (a + k) b) = g (a + k) _; rw [ih]
theorem cfK_cg {g h : Nat → BST → BST} {b : BST} : ∀ k : Nat, (∀ c, c < k → ∀ b, g c b = h c b) → cfK g k b = cfK h k b := by
  intro k
  induction k with
  | zero => intro _; rfl
  | succ k ih => intro hh; show g k (cfK g k b) = h k (cfK h k b); rw [ih (fun c hc => hh c (by omega)), hh k (by omega)]
theorem cfK_id {g : Nat → BST → BST} {b : BST} : ∀ k : Nat, (∀ c, c < k → g c b = b) → cfK g k b = b := by
  intro k
  induction k with
  | zero => intro _; rfl
  | succ k ih => intro hh; show g k (cfK g k b) = b; rw [ih (fun c hc => hh c (by omega)), hh k (by omega)]
def gC (A : Nat → Int) (tx : Nat → Nat → Int) (m s : Nat) (d p : Int) (pre : List Nat) : Nat → BST → BST := fun c b => kpO b (evL A tx (ordC m s c) d p) (pre ++ ordC m s c)
theorem fdL_up {q : Nat} {paid bd : Int} : ∀ (f : Nat) (d : Int), 0 ≤ d → d + f ≤ 61 → fdL A tx q paid bd f d = (if fdL A tx q paid 61 f d = -1 ∨ bd < fdL A tx q paid 61 f d then -1 else fdL A tx q paid 61 f d) := by
  intro f
  induction f with
  | zero => intro d _ _; simp [fdL]
  | succ f ih =>
    intro d h0 h1
    have hi := ih (d + 1) (by omega) (by omega)
    have hb := fdL_b (A := A) (tx := tx) (q := q) (paid := paid) (bd := 61) f (d + 1) (by omega)
    show (if d ≤ bd then (if duesP A tx (A 2) q d (puP A d paid) ≤ puP A d paid then d else fdL A tx q paid bd f (d + 1)) else -1) = _
    have e61 : fdL A tx q paid 61 (f + 1) d = if duesP A tx (A 2) q d (puP A d paid) ≤ puP A d paid then d else fdL A tx q paid 61 f (d + 1) := by
      show (if d ≤ 61 then _ else _) = _
      rw [if_pos (by omega)]
    rw [e61]
    by_cases hd : duesP A tx (A 2) q d (puP A d paid) ≤ puP A d paid
    · rw [if_pos hd, if_pos hd]
      by_cases hbd : d ≤ bd
      · rw [if_pos hbd, if_neg (by omega)]
      · rw [if_neg hbd, if_pos (by omega)]
    · rw [if_neg hd, if_neg hd]
      by_cases hbd : d ≤ bd
      · rw [if_pos hbd]; exact hi
      · rw [if_neg hbd, if_pos (by omega)]
theorem evL_ge : ∀ (o : List Nat) (d p : Int), 0 ≤ d → d ≤ 60 → ∀ e, evL A tx o d p = some e → d ≤ e.1 ∧ e.1 ≤ 60 := by
  intro o
  induction o with
  | nil => intro d p h0 h1 e h; cases h; exact ⟨Int.le_refl _, h1⟩
  | cons q r ih =>
    intro d p h0 h1 e h
    have hb := fdL_b (A := A) (tx := tx) (q := q) (paid := p) (bd := 61) (61 - d).toNat d h0
    simp only [evL] at h
    split at h
    · cases h
    · next hne =>
      have h2 := ih _ _ (by omega) (by omega) e h
      omega
/-- the tree's state and the best of the orders yet -/
def RlS (N : Nat) (s : PSt) (b : BST) : Prop := match b with
  | none => s.1 = 61
  | some (d, p, o) => s.1 = d ∧ (0 ≤ d ∧ d ≤ 60) ∧ s.2.1 = p ∧ o.length = N ∧ ∀ k, k < N → s.2.2.2 k = ((o.getD k 0 : Nat) : Int)
theorem keep_rl {N : Nat} {s : PSt} {b : BST} {days paid : Int} {o : List Nat} (h : RlS N s b) (ho : o.length = N) (hd : 0 ≤ days ∧ days ≤ 60) (hpre : ∀ k, k < N → s.2.2.1 k = ((o.getD k 0 : Nat) : Int)) : RlS N (keepB s N days paid) (kpO b (some (days, paid)) o) ∧ (keepB s N days paid).2.2.1 = s.2.2.1 := by
  unfold keepB
  cases b with
  | none =>
    have h1 : s.1 = 61 := h
    rw [if_pos (Or.inl (by omega))]
    exact ⟨⟨rfl, hd, rfl, ho, fun k hk => by show (if k < N then _ else _) = _; rw [if_pos hk]; exact hpre k hk⟩, rfl⟩
  | some x =>
    obtain ⟨d0, p0, o0⟩ := x
    obtain ⟨h1, h2, h3, h4, h5⟩ := h
    have e : kpO (some (d0, p0, o0)) (some (days, paid)) o = if days < d0 ∨ (days = d0 ∧ paid < p0) then some (days, paid, o) else some (d0, p0, o0) := rfl
    rw [e, h1, h3]
    by_cases hc : days < d0 ∨ (days = d0 ∧ paid < p0)
    · rw [if_pos hc, if_pos hc]
      exact ⟨⟨rfl, hd, rfl, ho, fun k hk => by show (if k < N then _ else _) = _; rw [if_pos hk]; exact hpre k hk⟩, rfl⟩
    · rw [if_neg hc, if_neg hc]
      exact ⟨⟨h1, h2, h3, h4, h5⟩, rfl⟩
theorem gd_pre {pre : List Nat} {i k : Nat} (hk : k < pre.length + 1) : (pre ++ [i]).getD k 0 = if k = pre.length then i else pre.getD k 0 := by
  by_cases h : k = pre.length
  · rw [if_pos h, h]; simp [List.getD]
  · rw [if_neg h]; simp [List.getD, List.getElem?_append_left (show k < pre.length by omega)]
theorem try_rl : ∀ (f dep left : Nat) (days paid : Int) (s : PSt) (b : BST) (pre : List Nat), left < 256 → bcN left ≤ f → pre.length = dep → (0 ≤ days ∧ days ≤ 60) → (∀ k, k < dep → s.2.2.1 k = ((pre.getD k 0 : Nat) : Int)) → RlS (dep + bcN left) s b → RlS (dep + bcN left) (tryN A tx f dep left days paid s) (cfK (gC A tx (bcN left) left days paid pre) (fcN (bcN left)) b) ∧ ∀ k, k < dep → (tryN A tx f dep left days paid s).2.2.1 k = ((pre.getD k 0 : Nat) : Int) := by
  intro f
  induction f with
  | zero =>
    intro dep left days paid s b pre hl hf hlen hd hpre hR
    have h0 : bcN left = 0 := by omega
    have hz : left = 0 := (bc_0 hl).mp h0
    rw [h0] at hR ⊢
    rw [tryN_0 hz]
    have hk := keep_rl (N := dep + 0) (o := pre ++ ([] : List Nat)) (paid := paid) hR (by rw [List.append_nil]; exact hlen) hd (fun k hk => by rw [List.append_nil]; exact hpre k (by omega))
    exact ⟨hk.1, fun k hk2 => by rw [show keepB s dep days paid = keepB s (dep + 0) days paid from rfl, hk.2]; exact hpre k hk2⟩
  | succ f ih =>
    intro dep left days paid s b pre hl hf hlen hd hpre hR
    by_cases hz : left = 0
    · have h0 : bcN left = 0 := (bc_0 hl).mpr hz
      rw [h0] at hR ⊢
      rw [tryN_0 hz]
      have hk := keep_rl (N := dep + 0) (o := pre ++ ([] : List Nat)) (paid := paid) hR (by rw [List.append_nil]; exact hlen) hd (fun k hk => by rw [List.append_nil]; exact hpre k (by omega))
      exact ⟨hk.1, fun k hk2 => by rw [show keepB s dep days paid = keepB s (dep + 0) days paid from rfl, hk.2]; exact hpre k hk2⟩
    · have hbn : bcN left ≠ 0 := fun h9 => hz ((bc_0 hl).mp h9)
      obtain ⟨m, hm⟩ : ∃ m, bcN left = m + 1 := ⟨bcN left - 1, by omega⟩
      rw [tryN_s hz]
      have key : ∀ i : Nat, i ≤ 8 → RlS (dep + bcN left) (itS (stpT A tx f dep left days paid) i s) (cfK (gC A tx (m + 1) left days paid pre) (bck left i * fcN m) b) ∧ ∀ k, k < dep → (itS (stpT A tx f dep left days paid) i s).2.2.1 k = ((pre.getD k 0 : Nat) : Int) := by
        intro i
        induction i with
        | zero =>
          intro _
          rw [show bck left 0 * fcN m = 0 from Nat.zero_mul _]
          exact ⟨hR, hpre⟩
        | succ i ih2 =>
          intro hi
          obtain ⟨r1, r2⟩ := ih2 (by omega)
          have e1 : itS (stpT A tx f dep left days paid) (i + 1) s = stpT A tx f dep left days paid (itS (stpT A tx f dep left days paid) i s) i := rfl
          have e2 : bck left (i + 1) = bck left i + (if left.testBit i then 1 else 0) := rfl
          rw [e1, e2]
          generalize hs1 : itS (stpT A tx f dep left days paid) i s = s1 at r1 r2 ⊢
          generalize hb1 : cfK (gC A tx (m + 1) left days paid pre) (bck left i * fcN m) b = b1 at r1
          unfold stpT
          by_cases hbit : left.testBit i = true
          · rw [if_pos hbit, if_pos hbit, Nat.add_mul, Nat.one_mul, cfK_add, hb1]
            have hless := bc_less hl (by omega) hbit
            have hsd := sd_pow hl (show i < 8 by omega) hbit
            have hblk : ∀ c, c < fcN m → ∀ b2, gC A tx (m + 1) left days paid pre (bck left i * fcN m + c) b2 = kpO b2 (evL A tx (i :: ordC m (sdN left (2 ^ i)) c) days paid) (pre ++ (i :: ordC m (sdN left (2 ^ i)) c)) := by
              intro c hc b2
              unfold gC
              rw [ordC_blk hl (by omega) hbit hc]
            have hup := fdL_up (A := A) (tx := tx) (q := i) (paid := paid) (bd := s1.1) (61 - days).toNat days hd.1 (by omega)
            have hfb := fdL_b (A := A) (tx := tx) (q := i) (paid := paid) (bd := 61) (61 - days).toNat days hd.1
            generalize hw : fdL A tx i paid 61 (61 - days).toNat days = w at hup hfb
            by_cases hw1 : w = -1
            · rw [if_pos (Or.inl hw1)] at hup
              rw [if_pos hup]
              have hid : cfK (fun c => gC A tx (m + 1) left days paid pre (bck left i * fcN m + c)) (fcN m) b1 = b1 := by
                refine cfK_id _ (fun c hc => ?_)
                rw [hblk c hc]
                have : evL A tx (i :: ordC m (sdN left (2 ^ i)) c) days paid = none := by
                  simp only [evL]
                  rw [hw, if_pos hw1]
                rw [this]; rfl
              rw [hid]
              exact ⟨r1, r2⟩
            · by_cases hw2 : s1.1 < w
              · rw [if_pos (Or.inr hw2)] at hup
                rw [if_pos hup]
                have hid : cfK (fun c => gC A tx (m + 1) left days paid pre (bck left i * fcN m + c)) (fcN m) b1 = b1 := by
                  refine cfK_id _ (fun c hc => ?_)
                  rw [hblk c hc]
                  cases hev : evL A tx (i :: ordC m (sdN left (2 ^ i)) c) days paid with
                  | none => rfl
                  | some x =>
                    have hge : w ≤ x.1 := by
                      have h9 := hev
                      simp only [evL] at h9
                      rw [hw, if_neg hw1] at h9
                      exact (evL_ge _ _ _ (by omega) (by omega) x h9).1
                    obtain ⟨d, p⟩ := x
                    have hge' : w ≤ d := hge
                    cases b1 with
                    | none =>
                      exfalso
                      have h9 : s1.1 = 61 := r1
                      omega
                    | some z =>
                      obtain ⟨d0, p0, o0⟩ := z
                      have h9 : s1.1 = d0 := r1.1
                      show (if d < d0 ∨ (d = d0 ∧ p < p0) then _ else _) = _
                      rw [if_neg (by omega)]
                rw [hid]
                exact ⟨r1, r2⟩
              · rw [if_neg (by omega)] at hup
                rw [hup, if_neg hw1]
                have hnx : bcN (sdN left (2 ^ i)) = m := by rw [hsd]; omega
                have hlt : sdN left (2 ^ i) < 256 := by rw [hsd]; exact Nat.lt_of_le_of_lt (Nat.sub_le _ _) hl
                have hcg : cfK (fun c => gC A tx (m + 1) left days paid pre (bck left i * fcN m + c)) (fcN m) b1 = cfK (gC A tx (bcN (sdN left (2 ^ i))) (sdN left (2 ^ i)) w (paid + duesP A tx (A 2) i w (puP A w paid)) (pre ++ [i])) (fcN (bcN (sdN left (2 ^ i)))) b1 := by
                  rw [hnx]
                  refine cfK_cg _ (fun c hc b2 => ?_)
                  rw [hblk c hc]
                  unfold gC
                  simp only [evL]
                  rw [hw, if_neg hw1, List.append_assoc]
                  rfl
                have hI := ih (dep + 1) (sdN left (2 ^ i)) w (paid + duesP A tx (A 2) i w (puP A w paid)) (s1.1, s1.2.1, upA s1.2.2.1 dep i, s1.2.2.2) b1 (pre ++ [i]) hlt (by omega) (by rw [List.length_append, List.length_singleton, hlen]) (by omega) (fun k hk => by
                  show upA s1.2.2.1 dep i k = _
                  rw [gd_pre (by omega)]
                  by_cases hkd : k = dep
                  · rw [hkd, upA_s, if_pos hlen.symm]
                  · rw [upA_o hkd, if_neg (by omega)]; exact r2 k (by omega)) (by
                  rw [hnx, show dep + 1 + m = dep + bcN left by omega]
                  cases b1 with
                  | none => exact r1
                  | some z => exact r1)
                rw [hnx, show dep + 1 + m = dep + bcN left by omega] at hI
                rw [hcg, hnx]
                refine ⟨hI.1, fun k hk => ?_⟩
                rw [hI.2 k (by omega), gd_pre (by omega), if_neg (by omega)]
          · rw [if_neg hbit, if_neg hbit, show bck left i + 0 = bck left i from rfl, hb1]
            exact ⟨r1, r2⟩
      have h8 := key 8 (by omega)
      rw [bck_8 hl, hm, show (m + 1) * fcN m = fcN (m + 1) from rfl] at h8
      rw [hm] at hR ⊢
      exact h8
theorem plS_rl {set : Nat} {o b : Nat → Int} (hs : set < 256) (h5 : bcN set ≤ 5) : RlS (bcN set) (plS A tx set o b) (cfK (gC A tx (bcN set) set 0 0 []) (fcN (bcN set)) none) := by
  have h := try_rl (A := A) (tx := tx) 5 0 set 0 0 (61, 0, o, b) none [] hs h5 rfl (by omega) (fun k hk => by omega) rfl
  rw [Nat.zero_add] at h
  exact h.1
end Pl0s
