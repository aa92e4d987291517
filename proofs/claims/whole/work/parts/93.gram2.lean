section Gram2
variable {t : Nat → Int} {l : Nat} {sl : Bool} {d : Nat} {cu cu1 cu2 cu3 : Cu} {c c1 c2 c3 : List Int} {f : Int} {pl : Nat}
/-! one -/
theorem one_num (h3 : l ≤ 300) (hc : CuOK l cu) (hk : cu.2.2.1 = 2) (hn : cu.2.2.2 ≤ 9999) : OneG t l sl d cu c (adv t l cu.1) (c ++ [cu.2.2.2]) := by
  obtain ⟨a1, a2, a3⟩ := cu_adv (t := t) hc h3
  have hb := hc.2.2.2.2.2
  have a4 := a2 (by omega)
  refine ⟨Ap0 ⟨by omega, fun h => by exfalso; omega⟩ (fun r => ?_), ⟨a4, by rw [List.length_append, List.length_singleton]; omega⟩, fun p hp ha => Rch.one ?_⟩
  · have : cu.2.2.2 / 16384 = 0 := by omega
    rw [this]; rfl
  · show begO t l sl p cu c = _
    unfold begO
    rw [if_neg (by omega), if_neg (by omega), if_pos hk]
theorem one_numx (hk : cu.2.2.1 = 2) (hn : ¬ cu.2.2.2 ≤ 9999) : OneF t l sl d cu c 2 cu.2.1 := by
  intro p hp ha
  refine Fal.one (y := (p, false, cu, c)) ?_ rfl
  show begO t l sl p cu c = _
  unfold begO
  rw [if_pos (by omega)]
theorem one_name (h3 : l ≤ 300) (hc : CuOK l cu) (hk : 128 ≤ cu.2.2.1 ∧ cu.2.2.1 < 136) (hn : ¬ ((cu.2.2.1 = 134 ∧ sl = true) ∨ (cu.2.2.1 = 135 ∧ sl = false))) : OneG t l sl d cu c (adv t l cu.1) (c ++ [16384 + (cu.2.2.1 - 128)]) := by
  obtain ⟨a1, a2, a3⟩ := cu_adv (t := t) hc h3
  have a4 := a2 (by omega)
  refine ⟨Ap0 ⟨by omega, fun h => ⟨by omega, ?_⟩⟩ (fun r => ?_), ⟨a4, by rw [List.length_append, List.length_singleton]; omega⟩, fun p hp ha => Rch.one ?_⟩
  · intro h5
    apply hn
    cases sl with
    | true => left; refine ⟨?_, rfl⟩; simp at h5; omega
    | false => right; refine ⟨?_, rfl⟩; simp at h5; omega
  · have : (16384 + (cu.2.2.1 - 128)) / 16384 = 1 := by omega
    rw [this]; rfl
  · show begO t l sl p cu c = _
    unfold begO
    rw [if_neg (by omega), if_neg hn, if_neg (by omega), if_pos hk]
theorem one_namex (hn : (cu.2.2.1 = 134 ∧ sl = true) ∨ (cu.2.2.1 = 135 ∧ sl = false)) : OneF t l sl d cu c 5 cu.2.1 := by
  intro p hp ha
  refine Fal.one (y := (p, false, cu, c)) ?_ rfl
  show begO t l sl p cu c = _
  unfold begO
  rw [if_neg (by omega), if_pos hn]
theorem one_cant (hk : cu.2.2.1 ≠ 2 ∧ ¬ (128 ≤ cu.2.2.1 ∧ cu.2.2.1 < 136) ∧ cu.2.2.1 ≠ 40 ∧ cu.2.2.1 ≠ 45 ∧ cu.2.2.1 ≠ 143 ∧ cu.2.2.1 ≠ 144 ∧ cu.2.2.1 ≠ 145) : OneF t l sl d cu c 1 cu.2.1 := by
  intro p hp ha
  refine Fal.one (y := (p, false, cu, c)) ?_ rfl
  show begO t l sl p cu c = _
  unfold begO
  rw [if_neg (by omega), if_neg (by omega), if_neg (by omega), if_neg (by omega), if_neg (by omega), if_neg (by omega), if_neg (by omega), if_neg (by omega), if_neg (by omega), if_neg (fun h => by have := ha h.1; rw [this] at h; exact absurd h.2 (by decide))]
/-- what an opening token lays on the pile -/
def oo (k : Int) : Int := if k = 40 then 40 else if k = 45 then 5 else if k = 143 then 41 else if k = 144 then 2 else 42
abbrev opk (k : Int) : Prop := k = 40 ∨ k = 45 ∨ k = 143 ∨ k = 144 ∨ k = 145
theorem one_stp {p : List Int} (hk : opk cu.2.2.1) : stp t l sl (p, false, cu, c) = opO t l (oo cu.2.2.1) p cu c := by
  show begO t l sl p cu c = _
  unfold begO oo
  rw [if_neg (by omega), if_neg (by omega), if_neg (by omega), if_neg (by omega)]
  rcases hk with h | h | h | h | h <;> simp [h]
theorem one_deep (hk : opk cu.2.2.1) (hd : d = 8) : OneF t l sl d cu c 3 cu.2.1 := by
  intro p hp ha
  refine Fal.one (y := (p, false, cu, c)) ?_ rfl
  rw [one_stp hk]
  unfold opO
  rw [if_pos (by omega)]
theorem opO_go {o : Int} {p : List Int} (h : nOp p ≠ 8) : opO t l o p cu c = (0, (o :: p, false, adv t l cu.1, c)) := by
  unfold opO; rw [if_neg h]
theorem one_openG (h3 : l ≤ 300) (hc : CuOK l cu) (hk : opk cu.2.2.1) (hd : d ≠ 8) (h : OpnG t l sl (oo cu.2.2.1) (d + 1) (adv t l cu.1) c cu1 c1) : OneG t l sl d cu c cu1 c1 := by
  obtain ⟨a1, a2, a3⟩ := cu_adv (t := t) hc h3
  have a4 := a2 (by omega)
  refine ⟨h.1, Sl1.pre a4 h.2.1, fun p hp ha => ?_⟩
  refine Go.rch (Go.one ((one_stp hk).trans (opO_go (by omega)))) (h.2.2 p (by omega))
theorem one_openF (hk : opk cu.2.2.1) (hd : d ≠ 8) (h : OpnF t l sl (oo cu.2.2.1) (d + 1) (adv t l cu.1) c f pl) : OneF t l sl d cu c f pl := by
  intro p hp ha
  exact Go.fal (Go.one ((one_stp hk).trans (opO_go (by omega)))) (h p (by omega))
/-! what is open -/
theorem opn_par (h : SumG t l sl d cu c cu1 c1) (h3 : l ≤ 300) (hc : CuOK l cu1) (hk : cu1.2.2.1 = 41) : OpnG t l sl 40 d cu c (adv t l cu1.1) c1 := by
  obtain ⟨⟨⟨h1, h2, h4⟩, h5⟩, h6⟩ := h
  obtain ⟨a1, a2, a3⟩ := cu_adv (t := t) hc h3
  refine ⟨h1, Sl1.of (Sl.adv h2 a3), fun p hp => ?_⟩
  obtain ⟨q, b, g1, g2⟩ := h4 (40 :: p) (by rw [nOp_c rfl]; exact hp) (fun _ => ask_o (by decide) (by decide)) (lo_c (by decide) (by decide))
  have ho : opn q = 40 := (opn_e (k := 5) (p := 40 :: p) (c := c1) (by decide) (g2.trans (stl_no (by decide)).symm)).trans rfl
  have e1 : stl 1 q b = (40 :: p, c1) := (stl_mono (k := 1) (i := 5) (p := 40 :: p) (c := c1) (by decide) (g2.trans (stl_no (by decide)).symm)).trans (stl_no (by decide))
  have hs := beh_sh (t := t) (l := l) (sl := sl) (cu := cu1) (btw_n ⟨h6.1, h6.2, h5⟩ (by omega)) (by rw [prt_40 ho, if_pos hk]) e1
  rw [if_neg (by omega)] at hs
  exact g1.rch (Rch.one hs)
theorem opn_parx (h : SumG t l sl d cu c cu1 c1) (hk : cu1.2.2.1 ≠ 41) : OpnF t l sl 40 d cu c 1 cu1.2.1 := by
  obtain ⟨⟨⟨h1, h2, h4⟩, h5⟩, h6⟩ := h
  intro p hp
  obtain ⟨q, b, g1, g2⟩ := h4 (40 :: p) (by rw [nOp_c rfl]; exact hp) (fun _ => ask_o (by decide) (by decide)) (lo_c (by decide) (by decide))
  have ho : opn q = 40 := (opn_e (k := 5) (p := 40 :: p) (c := c1) (by decide) (g2.trans (stl_no (by decide)).symm)).trans rfl
  exact g1.fal (Fal.one (beh_no (btw_n ⟨h6.1, h6.2, h5⟩ (by omega)) (by rw [prt_40 ho, if_neg hk]) (by omega)) rfl)
theorem opn_parF (h : SumF t l sl d cu c f pl) : OpnF t l sl 40 d cu c f pl := fun p hp => h (40 :: p) (by rw [nOp_c rfl]; exact hp) (fun _ => ask_o (by decide) (by decide)) (lo_c (by decide) (by decide))
theorem opn_un {o : Int} (ho : o = 5 ∨ o = 2) (h : OneG t l sl d cu c cu1 c1) : OpnG t l sl o d cu c cu1 (c1 ++ [ivm o * 16384]) := by
  obtain ⟨h1, h2, h4⟩ := h
  refine ⟨?_, Sl1.w h2, fun p hp => ?_⟩
  · rcases ho with rfl | rfl
    · exact Ap1 h1 (wd_op (x := 2) (by omega) (by omega)) (fun r => rfl)
    · exact Ap1 h1 (wd_op (x := 3) (by omega) (by omega)) (fun r => rfl)
  · have := h4 (o :: p) (by rw [nOp_c (by rcases ho with rfl | rfl <;> rfl)]; exact hp) (fun _ => by rcases ho with rfl | rfl <;> exact ask_f (by decide) (by decide))
    rw [endO_go (by rcases ho with rfl | rfl <;> rfl)] at this
    exact this
theorem opn_unF {o : Int} (ho : o = 5 ∨ o = 2) (h : OneF t l sl d cu c f pl) : OpnF t l sl o d cu c f pl := fun p hp => h (o :: p) (by rw [nOp_c (by rcases ho with rfl | rfl <;> rfl)]; exact hp) (fun _ => by rcases ho with rfl | rfl <;> exact ask_f (by decide) (by decide))
theorem opn_rsF (h : OneF t l sl d cu c f pl) : OpnF t l sl 41 d cu c f pl := fun p hp => h (41 :: p) (by rw [nOp_c rfl]; exact hp) (fun _ => ask_o (by decide) (by decide))
theorem opn_rsx (h : OneG t l sl d cu c cu1 c1) (hk : cu1.2.2.1 ≠ 139) : OpnF t l sl 41 d cu c 1 cu1.2.1 := by
  intro p hp
  have := h.2.2 (41 :: p) (by rw [nOp_c rfl]; exact hp) (fun _ => ask_o (by decide) (by decide))
  rw [endO_41, if_neg hk] at this
  exact this.fal rfl
theorem opn_rs2 (h : OneG t l sl d cu c cu1 c1) (hk : cu1.2.2.1 = 139) {p : List Int} (hp : nOp p + 1 = d) : Go t l sl (41 :: p, false, cu, c) (4 :: p, false, adv t l cu1.1, c1) := by
  have := h.2.2 (41 :: p) (by rw [nOp_c rfl]; exact hp) (fun _ => ask_o (by decide) (by decide))
  rw [endO_41, if_pos hk] at this
  exact this.go
theorem opn_rs2F (h : OneG t l sl d cu c cu1 c1) (hk : cu1.2.2.1 = 139) (h2 : OneF t l sl d (adv t l cu1.1) c1 f pl) : OpnF t l sl 41 d cu c f pl := fun p hp => (opn_rs2 h hk hp).fal (h2 (4 :: p) (by rw [nOp_c rfl]; exact hp) (fun _ => ask_f (by decide) (by decide)))
theorem opn_rs (h : OneG t l sl d cu c cu1 c1) (h3 : l ≤ 300) (hc : CuOK l cu1) (hk : cu1.2.2.1 = 139) (h2 : OneG t l sl d (adv t l cu1.1) c1 cu2 c2) : OpnG t l sl 41 d cu c cu2 (c2 ++ [147456]) := by
  obtain ⟨a1, a2, a3⟩ := cu_adv (t := t) hc h3
  refine ⟨Ap2 h.1 h2.1 (wd_op (x := 9) (by omega) (by omega)) (fun r => rfl), Sl1.of (h.2.1.op (a2 (by omega)) h2.2.1), fun p hp => (opn_rs2 h hk hp).rch ?_⟩
  have := h2.2.2 (4 :: p) (by rw [nOp_c rfl]; exact hp) (fun _ => ask_f (by decide) (by decide))
  rw [endO_go rfl] at this
  exact this
/-! products and sums -/
theorem prd_one (h : OneG t l sl d cu c cu1 c1) : PrdI t l sl d cu c cu1 c1 := by
  refine ⟨h.1, h.2.1, fun p hp ha hl => ⟨p, c1, ?_, hl.1 c1⟩⟩
  have := h.2.2 p hp ha
  rw [endO_no ((lo_up hl (by decide)).1 c1) hl.2] at this
  exact this.go
theorem prd_oneF (h : OneF t l sl d cu c f pl) : PrdF t l sl d cu c f pl := fun p hp ha _ => h p hp ha
theorem prd_2 {o k : Int} (hk : cu1.2.2.1 = k) (hko : (k = 42 ∧ o = 8) ∨ (k = 47 ∧ o = 9)) (h : PrdI t l sl d cu c cu1 c1) {p : List Int} (hp : nOp p = d) (ha : cu.2.2.1 = 149 → askA p = false) (hl : lo 6 p) : Go t l sl (p, false, cu, c) (o :: p, false, adv t l cu1.1, c1) := by
  obtain ⟨q, b, g1, g2⟩ := h.2.2 p hp ha hl
  refine g1.tr (Go.one (beh_op (k := 6) ?_ ?_ ?_ g2))
  · rw [hk]; rcases hko with ⟨rfl, rfl⟩ | ⟨rfl, rfl⟩ <;> rfl
  · omega
  · rcases hko with ⟨rfl, rfl⟩ | ⟨rfl, rfl⟩ <;> rfl
theorem prd_2F {o k : Int} (hk : cu1.2.2.1 = k) (hko : (k = 42 ∧ o = 8) ∨ (k = 47 ∧ o = 9)) (h : PrdI t l sl d cu c cu1 c1) (h2 : OneF t l sl d (adv t l cu1.1) c1 f pl) : PrdF t l sl d cu c f pl := fun p hp ha hl => (prd_2 hk hko h hp ha hl).fal (h2 (o :: p) (by rw [nOp_n (by rcases hko with ⟨rfl, rfl⟩ | ⟨rfl, rfl⟩ <;> rfl)]; exact hp) (fun _ => by rcases hko with ⟨rfl, rfl⟩ | ⟨rfl, rfl⟩ <;> exact ask_f (by decide) (by decide)))
theorem prd_s {o k : Int} (hk : cu1.2.2.1 = k) (hko : (k = 42 ∧ o = 8) ∨ (k = 47 ∧ o = 9)) (h3 : l ≤ 300) (hc : CuOK l cu1) (h : PrdI t l sl d cu c cu1 c1) (h2 : OneG t l sl d (adv t l cu1.1) c1 cu2 c2) : PrdI t l sl d cu c cu2 (c2 ++ [ivm o * 16384]) := by
  obtain ⟨a1, a2, a3⟩ := cu_adv (t := t) hc h3
  refine ⟨?_, h.2.1.op (a2 (by omega)) h2.2.1, fun p hp ha hl => ⟨o :: p, c2, (prd_2 hk hko h hp ha hl).tr ?_, ?_⟩⟩
  · rcases hko with ⟨rfl, rfl⟩ | ⟨rfl, rfl⟩
    · exact Ap2 h.1 h2.1 (wd_op (x := 7) (by omega) (by omega)) (fun r => rfl)
    · exact Ap2 h.1 h2.1 (wd_op (x := 8) (by omega) (by omega)) (fun r => rfl)
  · have := h2.2.2 (o :: p) (by rw [nOp_n (by rcases hko with ⟨rfl, rfl⟩ | ⟨rfl, rfl⟩ <;> rfl)]; exact hp) (fun _ => by rcases hko with ⟨rfl, rfl⟩ | ⟨rfl, rfl⟩ <;> exact ask_f (by decide) (by decide))
    rw [endO_no (stl_no (by rcases hko with ⟨rfl, rfl⟩ | ⟨rfl, rfl⟩ <;> decide)) (by rcases hko with ⟨rfl, rfl⟩ | ⟨rfl, rfl⟩ <;> simp)] at this
    exact this.go
  · rw [stl_go (by rcases hko with ⟨rfl, rfl⟩ | ⟨rfl, rfl⟩ <;> decide)]
    exact hl.1 _
theorem sum_prd (h : PrdG t l sl d cu c cu1 c1) : SumI t l sl d cu c cu1 c1 := by
  refine ⟨⟨h.1.1, h.1.2.1, fun p hp ha hl => ?_⟩, h.2⟩
  obtain ⟨q, b, g1, g2⟩ := h.1.2.2 p hp ha (lo_up hl (by decide))
  refine ⟨q, b, g1, ?_⟩
  exact (stl_mono (k := 5) (i := 6) (p := p) (c := c1) (by decide) (g2.trans ((lo_up hl (by decide)).1 c1).symm)).trans (hl.1 c1)
theorem sum_prdF (h : PrdF t l sl d cu c f pl) : SumF t l sl d cu c f pl := fun p hp ha hl => h p hp ha (lo_up hl (by decide))
theorem sum_2 {o k : Int} (hk : cu1.2.2.1 = k) (hko : (k = 43 ∧ o = 6) ∨ (k = 45 ∧ o = 7)) (h : SumI t l sl d cu c cu1 c1) {p : List Int} (hp : nOp p = d) (ha : cu.2.2.1 = 149 → askA p = false) (hl : lo 5 p) : Go t l sl (p, false, cu, c) (o :: p, false, adv t l cu1.1, c1) := by
  obtain ⟨q, b, g1, g2⟩ := h.1.2.2 p hp ha hl
  refine g1.tr (Go.one (beh_op (k := 5) ?_ ?_ ?_ g2))
  · rw [hk]; rcases hko with ⟨rfl, rfl⟩ | ⟨rfl, rfl⟩ <;> rfl
  · omega
  · rcases hko with ⟨rfl, rfl⟩ | ⟨rfl, rfl⟩ <;> rfl
theorem sum_2F {o k : Int} (hk : cu1.2.2.1 = k) (hko : (k = 43 ∧ o = 6) ∨ (k = 45 ∧ o = 7)) (h : SumI t l sl d cu c cu1 c1) (h2 : PrdF t l sl d (adv t l cu1.1) c1 f pl) : SumF t l sl d cu c f pl := fun p hp ha hl => (sum_2 hk hko h hp ha hl).fal (h2 (o :: p) (by rw [nOp_n (by rcases hko with ⟨rfl, rfl⟩ | ⟨rfl, rfl⟩ <;> rfl)]; exact hp) (fun _ => by rcases hko with ⟨rfl, rfl⟩ | ⟨rfl, rfl⟩ <;> exact ask_f (by decide) (by decide)) (by rcases hko with ⟨rfl, rfl⟩ | ⟨rfl, rfl⟩ <;> exact lo_c (by decide) (by decide)))
theorem sum_s {o k : Int} (hk : cu1.2.2.1 = k) (hko : (k = 43 ∧ o = 6) ∨ (k = 45 ∧ o = 7)) (h3 : l ≤ 300) (hc : CuOK l cu1) (h : SumI t l sl d cu c cu1 c1) (h2 : PrdG t l sl d (adv t l cu1.1) c1 cu2 c2) : SumI t l sl d cu c cu2 (c2 ++ [ivm o * 16384]) := by
  obtain ⟨a1, a2, a3⟩ := cu_adv (t := t) hc h3
  refine ⟨⟨?_, h.1.2.1.op (a2 (by omega)) h2.1.2.1, fun p hp ha hl => ?_⟩, h2.2⟩
  · rcases hko with ⟨rfl, rfl⟩ | ⟨rfl, rfl⟩
    · exact Ap2 h.1.1 h2.1.1 (wd_op (x := 5) (by omega) (by omega)) (fun r => rfl)
    · exact Ap2 h.1.1 h2.1.1 (wd_op (x := 6) (by omega) (by omega)) (fun r => rfl)
  · have hlo : lo 6 (o :: p) := by rcases hko with ⟨rfl, rfl⟩ | ⟨rfl, rfl⟩ <;> exact lo_c (by decide) (by decide)
    obtain ⟨q, b, g1, g2⟩ := h2.1.2.2 (o :: p) (by rw [nOp_n (by rcases hko with ⟨rfl, rfl⟩ | ⟨rfl, rfl⟩ <;> rfl)]; exact hp) (fun _ => by rcases hko with ⟨rfl, rfl⟩ | ⟨rfl, rfl⟩ <;> exact ask_f (by decide) (by decide)) hlo
    refine ⟨q, b, (sum_2 hk hko h hp ha hl).tr g1, ?_⟩
    rw [stl_mono (k := 5) (i := 6) (p := o :: p) (c := c2) (by decide) (g2.trans (hlo.1 c2).symm), stl_go (by rcases hko with ⟨rfl, rfl⟩ | ⟨rfl, rfl⟩ <;> decide)]
    exact hl.1 _
/-! what is asked -/
theorem ask_not {p : List Int} (hk : cu.2.2.1 = 149) (ha : askA p = true) : stp t l sl (p, false, cu, c) = opO t l 20 p cu c := by
  show begO t l sl p cu c = _
  unfold begO
  rw [if_neg (by omega), if_neg (by omega), if_neg (by omega), if_neg (by omega), if_neg (by omega), if_neg (by omega), if_neg (by omega), if_neg (by omega), if_neg (by omega), if_pos ⟨hk, ha⟩]
theorem ask_deep (hk : cu.2.2.1 = 149) (hd : d = 8) : AskF t l sl d cu c 3 cu.2.1 := by
  intro p hp ha
  refine Fal.one (y := (p, false, cu, c)) ?_ rfl
  rw [ask_not hk ha]
  unfold opO
  rw [if_pos (by omega)]
theorem ask_20 {p : List Int} (ha : askA p = true) : askA (20 :: p) = true := ask_i (by show (if (40 : Int) ≤ 20 then _ else opn p) = 42; rw [if_neg (by decide)]; exact ask_opn ha) (Or.inr (by decide))
theorem ask_nF (hk : cu.2.2.1 = 149) (hd : d ≠ 8) (h : AskF t l sl (d + 1) (adv t l cu.1) c f pl) : AskF t l sl d cu c f pl := by
  intro p hp ha
  exact Go.fal (Go.one ((ask_not hk ha).trans (opO_go (by omega)))) (h (20 :: p) (by rw [nOp_c rfl]; omega) (ask_20 ha))
theorem ask_nG (hk : cu.2.2.1 = 149) (hd : d ≠ 8) (hs : Sl cu c cu1 (c1 ++ [65536])) (h : AskG t l sl (d + 1) (adv t l cu.1) c cu1 c1) : AskG t l sl d cu c cu1 (c1 ++ [65536]) := by
  refine ⟨⟨Ap1 h.1.1 (wd_op (x := 4) (by omega) (by omega)) (fun r => rfl), hs, fun p hp ha => ?_⟩, h.2⟩
  obtain ⟨q, b, g1, g2, g3, g4⟩ := h.1.2.2 (20 :: p) (by rw [nOp_c rfl]; omega) (ask_20 ha)
  refine ⟨q, b, (Go.one ((ask_not hk ha).trans (opO_go (by omega)))).tr g1, ?_, g3, g4⟩
  rw [g2, stl_go (by decide)]
  rfl
theorem ask_sF (hk : cu.2.2.1 ≠ 149) (h : SumF t l sl d cu c f pl) : AskF t l sl d cu c f pl := fun p hp ha => h p hp (fun h9 => absurd h9 hk) (lo_up (ask_lo ha) (by decide))
theorem cmp_b (k : Int) : cmpO k = -1 ∨ (10 ≤ cmpO k ∧ cmpO k ≤ 15) := by
  unfold cmpO
  repeat' split
  all_goals omega
theorem rk_cmp {o : Int} (h : 10 ≤ o ∧ o ≤ 15) : rk o = 4 := by
  unfold rk
  rw [if_neg (by omega), if_neg (by omega), if_neg (by omega), if_neg (by omega), if_pos (by omega)]
theorem ivm_cmp {o : Int} (h : 10 ≤ o ∧ o ≤ 15) : ivm o = o := by
  unfold ivm
  rw [if_neg (by omega), if_neg (by omega), if_neg (by omega), if_neg (by omega), if_neg (by omega), if_neg (by omega), if_neg (by omega), if_neg (by omega), if_neg (by omega), if_neg (by omega)]
theorem ask_sx (hk : cu.2.2.1 ≠ 149) (h : SumG t l sl d cu c cu1 c1) (hc : cmpO cu1.2.2.1 = -1) : AskF t l sl d cu c 1 cu1.2.1 := by
  intro p hp ha
  obtain ⟨⟨⟨h1, h2, h4⟩, h5⟩, h6⟩ := h
  have hl := lo_up (ask_lo ha) (show (4 : Int) ≤ 5 by decide)
  obtain ⟨q, b, g1, g2⟩ := h4 p hp (fun h9 => absurd h9 hk) hl
  have e := g2.trans (hl.1 c1).symm
  have ho : opn q = 42 := (opn_e (by decide) e).trans (ask_opn ha)
  have hm : cmpd q = false := (cmpd_e (by decide) e).trans (ask_cmp ha)
  refine g1.fal (Fal.one (beh_no ((btw_c ⟨h6.1, h6.2, h5⟩ ho hm).trans hc) ?_ (by omega)) rfl)
  rw [prt_42 ho, if_neg (by rw [hm]; simp)]
theorem ask_2 {o : Int} (hk : cu.2.2.1 ≠ 149) (h : SumG t l sl d cu c cu1 c1) (hc : cmpO cu1.2.2.1 = o) (ho2 : 10 ≤ o ∧ o ≤ 15) {p : List Int} (hp : nOp p = d) (ha : askA p = true) : Go t l sl (p, false, cu, c) (o :: p, false, adv t l cu1.1, c1) := by
  obtain ⟨⟨⟨h1, h2, h4⟩, h5⟩, h6⟩ := h
  have hl := lo_up (ask_lo ha) (show (4 : Int) ≤ 5 by decide)
  obtain ⟨q, b, g1, g2⟩ := h4 p hp (fun h9 => absurd h9 hk) hl
  have e := g2.trans (hl.1 c1).symm
  have ho : opn q = 42 := (opn_e (by decide) e).trans (ask_opn ha)
  have hm : cmpd q = false := (cmpd_e (by decide) e).trans (ask_cmp ha)
  exact g1.tr (Go.one (beh_op (k := 5) ((btw_c ⟨h6.1, h6.2, h5⟩ ho hm).trans hc) (by omega) (by rw [rk_cmp ho2]; rfl) g2))
theorem opT_n {o : Int} (h : 10 ≤ o ∧ o ≤ 15) : opT o = false := decide_eq_false (by rw [rk_cmp h]; omega)
theorem ask_2F {o : Int} (hk : cu.2.2.1 ≠ 149) (h : SumG t l sl d cu c cu1 c1) (hc : cmpO cu1.2.2.1 = o) (ho2 : 10 ≤ o ∧ o ≤ 15) (h2 : SumF t l sl d (adv t l cu1.1) c1 f pl) : AskF t l sl d cu c f pl := by
  intro p hp ha
  exact (ask_2 hk h hc ho2 hp ha).fal (h2 (o :: p) (by rw [nOp_n (opT_n ho2)]; exact hp) (fun _ => ask_f (by omega) (by rw [rk_cmp ho2]; omega)) (lo_c (by rw [rk_cmp ho2]; omega) (by omega)))
theorem ask_s {o : Int} (hk : cu.2.2.1 ≠ 149) (h3 : l ≤ 300) (hcu : CuOK l cu1) (h : SumG t l sl d cu c cu1 c1) (hc : cmpO cu1.2.2.1 = o) (ho2 : 10 ≤ o ∧ o ≤ 15) (h2 : SumG t l sl d (adv t l cu1.1) c1 cu2 c2) : AskG t l sl d cu c cu2 (c2 ++ [o * 16384]) := by
  obtain ⟨a1, a2, a3⟩ := cu_adv (t := t) hcu h3
  have hne : cu1.2.2.1 ≠ 0 := by
    intro h0
    rw [h0] at hc
    have : cmpO 0 = -1 := rfl
    omega
  refine ⟨⟨?_, h.1.1.2.1.op (a2 hne) h2.1.1.2.1, fun p hp ha => ?_⟩, h2.2.1, h2.2.2, h2.1.2.1, h2.1.2.2⟩
  · refine Ap2 h.1.1.1 h2.1.1.1 (wd_op (x := o) (by omega) (by omega)) (fun r => ?_)
    rw [show o * 16384 / 16384 = o by omega]
    unfold tyS
    rw [if_neg (by omega), if_neg (by omega), if_neg (by omega), if_neg (by omega), if_pos (by omega)]
  · have hlo : lo 5 (o :: p) := lo_c (by rw [rk_cmp ho2]; omega) (by omega)
    obtain ⟨q, b, g1, g2⟩ := h2.1.1.2.2 (o :: p) (by rw [nOp_n (opT_n ho2)]; exact hp) (fun _ => ask_f (by omega) (by rw [rk_cmp ho2]; omega)) hlo
    have e := g2.trans (hlo.1 c2).symm
    refine ⟨q, b, (ask_2 hk h hc ho2 hp ha).tr g1, ?_, ?_, ?_⟩
    · rw [stl_mono (k := 3) (by decide) e, stl_go (by rw [rk_cmp ho2]; omega), ivm_cmp ho2]
    · rw [cmpd_e (by decide) e]
      show (if 4 < rk o then _ else decide (rk o = 4)) = true
      rw [rk_cmp ho2]; rfl
    · rw [opn_e (by decide) e]
      show (if 40 ≤ o then _ else opn p) = 42
      rw [if_neg (by omega)]
      exact ask_opn ha
/-! both, either -/
theorem bth_a (h : AskG t l sl d cu c cu1 c1) : BthI t l sl d cu c cu1 c1 := by
  refine ⟨⟨h.1.1, h.1.2.1, fun p hp ha hl => ?_⟩, h.2⟩
  obtain ⟨q, b, g1, g2, g3, g4⟩ := h.1.2.2 p hp ha
  exact ⟨q, b, g1, (stl_mono (by decide) g2).trans (hl.1 c1), g3, g4⟩
theorem bth_aF (h : AskF t l sl d cu c f pl) : BthF t l sl d cu c f pl := fun p hp ha _ => h p hp ha
theorem bth_2 (hk : cu1.2.2.1 = 150) (h : BthI t l sl d cu c cu1 c1) {p : List Int} (hp : nOp p = d) (ha : askA p = true) (hl : lo 2 p) : Go t l sl (p, false, cu, c) (21 :: p, false, adv t l cu1.1, c1) := by
  obtain ⟨q, b, g1, g2, g3, g4⟩ := h.1.2.2 p hp ha hl
  exact g1.tr (Go.one (beh_op (k := 2) (by rw [btw_a h.2 g4 g3, if_pos hk]) (by decide) rfl g2))
theorem ask_21 {o : Int} {p : List Int} (ho : o = 21 ∨ o = 22) (ha : askA p = true) : askA (o :: p) = true := ask_i (by show (if (40 : Int) ≤ o then _ else opn p) = 42; rw [if_neg (by omega)]; exact ask_opn ha) (Or.inr (by rcases ho with rfl | rfl <;> decide))
theorem bth_2F (hk : cu1.2.2.1 = 150) (h : BthI t l sl d cu c cu1 c1) (h2 : AskF t l sl d (adv t l cu1.1) c1 f pl) : BthF t l sl d cu c f pl := fun p hp ha hl => (bth_2 hk h hp ha hl).fal (h2 (21 :: p) (by rw [nOp_n rfl]; exact hp) (ask_21 (Or.inl rfl) ha))
theorem bth_s (hk : cu1.2.2.1 = 150) (h3 : l ≤ 300) (hcu : CuOK l cu1) (h : BthI t l sl d cu c cu1 c1) (h2 : AskG t l sl d (adv t l cu1.1) c1 cu2 c2) : BthI t l sl d cu c cu2 (c2 ++ [262144]) := by
  obtain ⟨a1, a2, a3⟩ := cu_adv (t := t) hcu h3
  refine ⟨⟨Ap2 h.1.1 h2.1.1 (wd_op (x := 16) (by omega) (by omega)) (fun r => rfl), h.1.2.1.op (a2 (by omega)) h2.1.2.1, fun p hp ha hl => ?_⟩, h2.2⟩
  obtain ⟨q, b, g1, g2, g3, g4⟩ := h2.1.2.2 (21 :: p) (by rw [nOp_n rfl]; exact hp) (ask_21 (Or.inl rfl) ha)
  refine ⟨q, b, (bth_2 hk h hp ha hl).tr g1, ?_, g3, g4⟩
  rw [stl_mono (k := 2) (by decide) g2, stl_go (by decide)]
  exact hl.1 _
theorem eit_b (h : BthG t l sl d cu c cu1 c1) : EitI t l sl d cu c cu1 c1 := by
  refine ⟨⟨h.1.1.1, h.1.1.2.1, fun p hp ha hl => ?_⟩, h.1.2, h.2⟩
  have hl2 := lo_up hl (show (1 : Int) ≤ 2 by decide)
  obtain ⟨q, b, g1, g2, g3, g4⟩ := h.1.1.2.2 p hp ha hl2
  exact ⟨q, b, g1, (stl_mono (k := 1) (i := 2) (p := p) (c := c1) (by decide) (g2.trans (hl2.1 c1).symm)).trans (hl.1 c1), g3, g4⟩
theorem eit_bF (h : BthF t l sl d cu c f pl) : EitF t l sl d cu c f pl := fun p hp ha hl => h p hp ha (lo_up hl (by decide))
theorem eit_2 (hk : cu1.2.2.1 = 151) (h : EitI t l sl d cu c cu1 c1) {p : List Int} (hp : nOp p = d) (ha : askA p = true) (hl : lo 1 p) : Go t l sl (p, false, cu, c) (22 :: p, false, adv t l cu1.1, c1) := by
  obtain ⟨q, b, g1, g2, g3, g4⟩ := h.1.2.2 p hp ha hl
  exact g1.tr (Go.one (beh_op (k := 1) (by rw [btw_a h.2.1 g4 g3, if_neg (by omega), if_pos hk]) (by decide) rfl g2))
theorem eit_2F (hk : cu1.2.2.1 = 151) (h : EitI t l sl d cu c cu1 c1) (h2 : BthF t l sl d (adv t l cu1.1) c1 f pl) : EitF t l sl d cu c f pl := fun p hp ha hl => (eit_2 hk h hp ha hl).fal (h2 (22 :: p) (by rw [nOp_n rfl]; exact hp) (ask_21 (Or.inr rfl) ha) (lo_c (by decide) (by decide)))
theorem eit_s (hk : cu1.2.2.1 = 151) (h3 : l ≤ 300) (hcu : CuOK l cu1) (h : EitI t l sl d cu c cu1 c1) (h2 : BthG t l sl d (adv t l cu1.1) c1 cu2 c2) : EitI t l sl d cu c cu2 (c2 ++ [278528]) := by
  obtain ⟨a1, a2, a3⟩ := cu_adv (t := t) hcu h3
  refine ⟨⟨Ap2 h.1.1 h2.1.1.1 (wd_op (x := 17) (by omega) (by omega)) (fun r => rfl), h.1.2.1.op (a2 (by omega)) h2.1.1.2.1, fun p hp ha hl => ?_⟩, h2.1.2, h2.2⟩
  have hlo : lo 2 (22 :: p) := lo_c (by decide) (by decide)
  obtain ⟨q, b, g1, g2, g3, g4⟩ := h2.1.1.2.2 (22 :: p) (by rw [nOp_n rfl]; exact hp) (ask_21 (Or.inr rfl) ha) hlo
  refine ⟨q, b, (eit_2 hk h hp ha hl).tr g1, ?_, g3, g4⟩
  rw [stl_mono (k := 1) (i := 2) (p := 22 :: p) (c := c2) (by decide) (g2.trans (hlo.1 c2).symm), stl_go (by decide)]
  exact hl.1 _
/-! a choice -/
def Ch1 (t : Nat → Int) (l : Nat) (sl : Bool) (d : Nat) (cu : Cu) (c : List Int) (cu1 : Cu) (c1 : List Int) : Prop := Ap sl true c c1 ∧ Sl cu c cu1 c1 ∧ ∀ p, nOp p + 1 = d → Go t l sl (42 :: p, false, cu, c) (43 :: p, false, cu1, c1)
def Ch2 (t : Nat → Int) (l : Nat) (sl : Bool) (d : Nat) (cu : Cu) (c : List Int) (cu2 : Cu) (c2 : List Int) : Prop := (∃ c1, Ap sl true c c1 ∧ Ap sl false c1 c2) ∧ Sl cu c cu2 c2 ∧ ∀ p, nOp p + 1 = d → Go t l sl (42 :: p, false, cu, c) (44 :: p, false, cu2, c2)
theorem ask_42 {p : List Int} : askA (42 :: p) = true := rfl
theorem cho_1 (h : EitG t l sl d cu c cu1 c1) (h3 : l ≤ 300) (hcu : CuOK l cu1) (hk : cu1.2.2.1 = 146) : Ch1 t l sl d cu c (adv t l cu1.1) c1 := by
  obtain ⟨a1, a2, a3⟩ := cu_adv (t := t) hcu h3
  refine ⟨h.1.1.1, h.1.1.2.1.adv a3, fun p hp => ?_⟩
  obtain ⟨q, b, g1, g2, g3, g4⟩ := h.1.1.2.2 (42 :: p) (by rw [nOp_c rfl]; exact hp) ask_42 (lo_c (by decide) (by decide))
  exact g1.tr (Go.one (beh_pt (by rw [btw_a h.1.2.1 g4 g3, if_neg (by omega), if_neg (by omega)]) (by rw [prt_42 g4, if_pos ⟨hk, g3⟩]) (by decide) g2))
theorem cho_1x (h : EitG t l sl d cu c cu1 c1) (hk : cu1.2.2.1 ≠ 146) : OpnF t l sl 42 d cu c 1 cu1.2.1 := by
  intro p hp
  obtain ⟨q, b, g1, g2, g3, g4⟩ := h.1.1.2.2 (42 :: p) (by rw [nOp_c rfl]; exact hp) ask_42 (lo_c (by decide) (by decide))
  exact g1.fal (Fal.one (beh_no (by rw [btw_a h.1.2.1 g4 g3, if_neg h.1.2.2, if_neg h.2]) (by rw [prt_42 g4, if_neg (fun h9 => hk h9.1)]) (by omega)) rfl)
theorem cho_0F (h : EitF t l sl d cu c f pl) : OpnF t l sl 42 d cu c f pl := fun p hp => h (42 :: p) (by rw [nOp_c rfl]; exact hp) ask_42 (lo_c (by decide) (by decide))
theorem sum_at {o : Int} (ho : o = 43 ∨ o = 44) (h : SumG t l sl d cu c cu1 c1) {p : List Int} (hp : nOp p + 1 = d) : ∃ q b, Go t l sl (o :: p, false, cu, c) (q, true, cu1, b) ∧ stl 1 q b = (o :: p, c1) ∧ opn q = o := by
  have hr : rk o = 0 := if_pos (by omega)
  have hlo : lo 5 (o :: p) := lo_c (by omega) (by omega)
  obtain ⟨q, b, g1, g2⟩ := h.1.1.2.2 (o :: p) (by rw [nOp_c (by rcases ho with rfl | rfl <;> rfl)]; exact hp) (fun _ => ask_o (by omega) (by omega)) hlo
  have e := g2.trans (hlo.1 c1).symm
  refine ⟨q, b, g1, (stl_mono (k := 1) (by decide) e).trans (stl_no (by omega)), (opn_e (by decide) e).trans (if_pos (by omega))⟩
theorem sum_atF {o : Int} (ho : o = 43 ∨ o = 44) (h : SumF t l sl d cu c f pl) {p : List Int} (hp : nOp p + 1 = d) : Fal t l sl (o :: p, false, cu, c) f pl := by
  have hr : rk o = 0 := if_pos (by omega)
  exact h (o :: p) (by rw [nOp_c (by rcases ho with rfl | rfl <;> rfl)]; exact hp) (fun _ => ask_o (by omega) (by omega)) (lo_c (by omega) (by omega))
theorem cho_1F (h : Ch1 t l sl d cu c cu1 c1) (h2 : SumF t l sl d cu1 c1 f pl) : OpnF t l sl 42 d cu c f pl := fun p hp => (h.2.2 p hp).fal (sum_atF (Or.inl rfl) h2 hp)
theorem cho_2 (h : Ch1 t l sl d cu c cu1 c1) (h2 : SumG t l sl d cu1 c1 cu2 c2) (h3 : l ≤ 300) (hcu : CuOK l cu2) (hk : cu2.2.2.1 = 147) : Ch2 t l sl d cu c (adv t l cu2.1) c2 := by
  obtain ⟨a1, a2, a3⟩ := cu_adv (t := t) hcu h3
  refine ⟨⟨c1, h.1, h2.1.1.1⟩, (h.2.1.tr h2.1.1.2.1).adv a3, fun p hp => ?_⟩
  obtain ⟨q, b, g1, g2, g3⟩ := sum_at (Or.inl rfl) h2 hp
  exact (h.2.2 p hp).tr (g1.tr (Go.one (beh_pt (btw_n ⟨h2.2.1, h2.2.2, h2.1.2⟩ (by omega)) (by rw [prt_43 g3, if_pos hk]) (by decide) g2)))
theorem cho_2x (h : Ch1 t l sl d cu c cu1 c1) (h2 : SumG t l sl d cu1 c1 cu2 c2) (hk : cu2.2.2.1 ≠ 147) : OpnF t l sl 42 d cu c 1 cu2.2.1 := by
  intro p hp
  obtain ⟨q, b, g1, g2, g3⟩ := sum_at (Or.inl rfl) h2 hp
  exact (h.2.2 p hp).fal (g1.fal (Fal.one (beh_no (btw_n ⟨h2.2.1, h2.2.2, h2.1.2⟩ (by omega)) (by rw [prt_43 g3, if_neg hk]) (by omega)) rfl))
theorem cho_2F (h : Ch2 t l sl d cu c cu1 c1) (h2 : SumF t l sl d cu1 c1 f pl) : OpnF t l sl 42 d cu c f pl := fun p hp => (h.2.2 p hp).fal (sum_atF (Or.inr rfl) h2 hp)
theorem cho_3 (h : Ch2 t l sl d cu c cu1 c1) (h2 : SumG t l sl d cu1 c1 cu2 c2) (h3 : l ≤ 300) (hcu : CuOK l cu2) (hk : cu2.2.2.1 = 148) : OpnG t l sl 42 d cu c (adv t l cu2.1) (c2 ++ [294912]) := by
  obtain ⟨a1, a2, a3⟩ := cu_adv (t := t) hcu h3
  obtain ⟨c0, h4, h5⟩ := h.1
  have a4 := a2 (by omega)
  have s1 := h.2.1.tr h2.1.1.2.1
  refine ⟨Ap3 h4 h5 h2.1.1.1 (wd_op (x := 18) (by omega) (by omega)) (fun r => rfl), ⟨by have := s1.1; omega, by have := s1.2; rw [List.length_append, List.length_singleton]; omega⟩, fun p hp => ?_⟩
  obtain ⟨q, b, g1, g2, g3⟩ := sum_at (Or.inr rfl) h2 hp
  have hs := beh_sh (t := t) (l := l) (sl := sl) (cu := cu2) (btw_n ⟨h2.2.1, h2.2.2, h2.1.2⟩ (by omega)) (by rw [prt_44 g3, if_pos hk]) g2
  rw [if_pos g3] at hs
  exact (h.2.2 p hp).rch (g1.rch (Rch.one hs))
theorem cho_3x (h : Ch2 t l sl d cu c cu1 c1) (h2 : SumG t l sl d cu1 c1 cu2 c2) (hk : cu2.2.2.1 ≠ 148) : OpnF t l sl 42 d cu c 1 cu2.2.1 := by
  intro p hp
  obtain ⟨q, b, g1, g2, g3⟩ := sum_at (Or.inr rfl) h2 hp
  exact (h.2.2 p hp).fal (g1.fal (Fal.one (beh_no (btw_n ⟨h2.2.1, h2.2.2, h2.1.2⟩ (by omega)) (by rw [prt_44 g3, if_neg hk]) (by omega)) rfl))
/-- a whole law -/
theorem sum_top (h : SumG t l sl 0 cu c cu1 c1) : ∃ q b, Go t l sl ([], false, cu, c) (q, true, cu1, b) ∧ stl 1 q b = ([], c1) ∧ stp t l sl (q, true, cu1, b) = (-1, (q, true, cu1, b)) := by
  have hlo : lo 5 [] := ⟨fun _ => rfl, by simp⟩
  obtain ⟨q, b, g1, g2⟩ := h.1.1.2.2 [] rfl (fun _ => rfl) hlo
  have e : stl 5 q b = stl 5 [] c1 := g2
  have ho : opn q = -1 := (opn_e (by decide) e).trans rfl
  refine ⟨q, b, g1, (stl_mono (k := 1) (by decide) e).trans rfl, beh_end (btw_n ⟨h.2.1, h.2.2, h.1.2⟩ (by omega)) ?_ (by omega)⟩
  unfold prt
  rw [if_neg (by omega), if_neg (by omega), if_neg (by omega), if_neg (by omega)]
end Gram2
