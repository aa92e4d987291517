section Rm8s
variable {n mc ms : Nat} {M : Md} {pc : Nat} {lv : List (Nat × Value)} {st : List Value} {k j : Nat} {Post : PT} {S : Sh} {I : CI} {R : CR} {A : Nat → Int} {tx : Nat → Nat → Int}
variable {t : Nat → Int} {l o : Nat} {sl : Bool} {cu cu1 : Cu} {p b c1 : List Int}
theorem endO_r : 0 ≤ (endO t l p cu b).1 ∧ (endO t l p cu b).1 ≤ 1 := by
  unfold endO
  repeat' split
  all_goals (constructor <;> (dsimp only; omega))
theorem opO_r {x : Int} : 0 ≤ (opO t l x p cu b).1 ∧ (opO t l x p cu b).1 ≤ 3 := by
  unfold opO
  repeat' split
  all_goals (constructor <;> (dsimp only; omega))
theorem begO_r : 0 ≤ (begO t l sl p cu b).1 ∧ (begO t l sl p cu b).1 ≤ 5 := by
  have e1 : ∀ (c : Cu) (d : List Int), 0 ≤ (endO t l p c d).1 ∧ (endO t l p c d).1 ≤ 5 := fun c d => by
    have := endO_r (t := t) (l := l) (p := p) (cu := c) (b := d)
    omega
  have e2 : ∀ (x : Int) (c : Cu) (d : List Int), 0 ≤ (opO t l x p c d).1 ∧ (opO t l x p c d).1 ≤ 5 := fun x c d => by
    have := opO_r (t := t) (l := l) (x := x) (p := p) (cu := c) (b := d)
    omega
  unfold begO
  repeat' split
  all_goals first
    | exact e1 _ _
    | exact e2 _ _ _
    | (constructor <;> (dsimp only; omega))
theorem behO_r (h : 0 ≤ btw p cu.2.2.1 ∨ 0 ≤ prt p cu.2.2.1) : 0 ≤ (behO t l p cu b).1 ∧ (behO t l p cu b).1 ≤ 5 := by
  unfold behO
  by_cases h1 : 0 ≤ btw p cu.2.2.1
  · rw [if_pos h1]
    exact ⟨(by dsimp only; omega), (by dsimp only; omega)⟩
  · rw [if_neg h1, if_neg (by omega)]
    by_cases h2 : prt p cu.2.2.1 = 0
    · have := endO_r (t := t) (l := l) (p := (stl 1 p b).1.tail) (cu := adv t l cu.1) (b := if opn p = 44 then (stl 1 p b).2 ++ [294912] else (stl 1 p b).2)
      show 0 ≤ (if prt p cu.2.2.1 = 0 then _ else _ : Int × MS).1 ∧ (if prt p cu.2.2.1 = 0 then _ else _ : Int × MS).1 ≤ 5
      rw [if_pos h2]
      omega
    · show 0 ≤ (if prt p cu.2.2.1 = 0 then _ else _ : Int × MS).1 ∧ (if prt p cu.2.2.1 = 0 then _ else _ : Int × MS).1 ≤ 5
      rw [if_neg h2]
      exact ⟨(by dsimp only; omega), (by dsimp only; omega)⟩
theorem sp_beh1 (cs : CS S R) (hn : 6 ≤ n) (h : RfB I t l o sl p cu b) (hw : I 306 18 = 1) (hp : ∀ (J : CI) (r : Int), (-1 ≤ r ∧ r ≤ 5) → ((r = -1 ∧ J = I ∧ btw p cu.2.2.1 < 0 ∧ prt p cu.2.2.1 < 0) ∨ (0 ≤ r ∧ ∃ y, stp t l sl (p, true, cu, b) = (r, y) ∧ RfS J t l o sl y ∧ Frf o I J)) → Post (some (.int (iI r))) S J R) : Call n 0 0 mX12_behindOne [.ref (S.2.1 306)] S I R Post := by
  refine sp_X12_behindOne (t := t) (l := l) (o := o) (sl := sl) (p := p) (cu := cu) (b := b) cs hn h hw (fun h1 h2 => hp I (-1) (by omega) (Or.inl ⟨rfl, rfl, h1, h2⟩)) (fun J h1 h2 h3 => ?_)
  have hr := behO_r (t := t) (l := l) (b := b) h1
  exact hp J _ (by omega) (Or.inr ⟨hr.1, (behO t l p cu b).2, rfl, h2, h3⟩)
theorem sp_beg1 (cs : CS S R) (hn : 7 ≤ n) (h : RfB I t l o sl p cu b) (hw : I 306 18 = 0) (hp : ∀ (J : CI) (r : Int), (0 ≤ r ∧ r ≤ 5) → (∃ y, stp t l sl (p, false, cu, b) = (r, y) ∧ RfS J t l o sl y ∧ Frf o I J) → Post (some (.int (iI r))) S J R) : Call n 0 0 mX12_beginOne [.ref (S.2.1 306)] S I R Post := by
  refine sp_X12_beginOne (t := t) (l := l) (o := o) (sl := sl) (p := p) (cu := cu) (b := b) cs hn h hw (fun J h2 h3 => ?_)
  exact hp J _ begO_r ⟨(begO t l sl p cu b).2, rfl, h2, h3⟩
theorem beh_e (h1 : btw p cu.2.2.1 < 0) (h2 : prt p cu.2.2.1 < 0) : stp t l sl (p, true, cu, b) = if 0 ≤ opn p then (1, (p, true, cu, b)) else (-1, (p, true, cu, b)) := by
  show behO t l p cu b = _
  unfold behO
  rw [if_neg (by omega), if_pos h2]
theorem dX12_summed_0 : decode prog_14_method_51_code 0 = .ok (.aload_n 0, 1) := by decide +kernel
theorem dX12_summed_1 : decode prog_14_method_51_code 1 = .ok (.iconst 0, 1) := by decide +kernel
theorem dX12_summed_2 : decode prog_14_method_51_code 2 = .ok (.putfield 166, 3) := by decide +kernel
theorem dX12_summed_5 : decode prog_14_method_51_code 5 = .ok (.aload_n 0, 1) := by decide +kernel
theorem dX12_summed_6 : decode prog_14_method_51_code 6 = .ok (.iconst 0, 1) := by decide +kernel
theorem dX12_summed_7 : decode prog_14_method_51_code 7 = .ok (.putfield 176, 3) := by decide +kernel
theorem dX12_summed_10 : decode prog_14_method_51_code 10 = .ok (.aload_n 0, 1) := by decide +kernel
theorem dX12_summed_11 : decode prog_14_method_51_code 11 = .ok (.iconst 0, 1) := by decide +kernel
theorem dX12_summed_12 : decode prog_14_method_51_code 12 = .ok (.putfield 212, 3) := by decide +kernel
theorem dX12_summed_15 : decode prog_14_method_51_code 15 = .ok (.aload_n 0, 1) := by decide +kernel
theorem dX12_summed_16 : decode prog_14_method_51_code 16 = .ok (.getfield 212, 3) := by decide +kernel
theorem dX12_summed_19 : decode prog_14_method_51_code 19 = .ok (.ifCond .eq 10, 3) := by decide +kernel
theorem dX12_summed_22 : decode prog_14_method_51_code 22 = .ok (.aload_n 0, 1) := by decide +kernel
theorem dX12_summed_23 : decode prog_14_method_51_code 23 = .ok (.invokevirtual 227, 3) := by decide +kernel
theorem dX12_summed_26 : decode prog_14_method_51_code 26 = .ok (.goto 7, 3) := by decide +kernel
theorem dX12_summed_29 : decode prog_14_method_51_code 29 = .ok (.aload_n 0, 1) := by decide +kernel
theorem dX12_summed_30 : decode prog_14_method_51_code 30 = .ok (.invokevirtual 230, 3) := by decide +kernel
theorem dX12_summed_33 : decode prog_14_method_51_code 33 = .ok (.istore_n 1, 1) := by decide +kernel
theorem dX12_summed_34 : decode prog_14_method_51_code 34 = .ok (.iload_n 1, 1) := by decide +kernel
theorem dX12_summed_35 : decode prog_14_method_51_code 35 = .ok (.ifCond .le 5, 3) := by decide +kernel
theorem dX12_summed_38 : decode prog_14_method_51_code 38 = .ok (.iload_n 1, 1) := by decide +kernel
theorem dX12_summed_39 : decode prog_14_method_51_code 39 = .ok (.ireturn, 1) := by decide +kernel
theorem dX12_summed_40 : decode prog_14_method_51_code 40 = .ok (.iload_n 1, 1) := by decide +kernel
theorem dX12_summed_41 : decode prog_14_method_51_code 41 = .ok (.ifCond .ne 6, 3) := by decide +kernel
theorem dX12_summed_44 : decode prog_14_method_51_code 44 = .ok (.goto (-29), 3) := by decide +kernel
theorem dX12_summed_47 : decode prog_14_method_51_code 47 = .ok (.aload_n 0, 1) := by decide +kernel
theorem dX12_summed_48 : decode prog_14_method_51_code 48 = .ok (.invokevirtual 183, 3) := by decide +kernel
theorem dX12_summed_51 : decode prog_14_method_51_code 51 = .ok (.ifCond .lt 5, 3) := by decide +kernel
theorem dX12_summed_54 : decode prog_14_method_51_code 54 = .ok (.iconst 1, 1) := by decide +kernel
theorem dX12_summed_55 : decode prog_14_method_51_code 55 = .ok (.ireturn, 1) := by decide +kernel
theorem dX12_summed_56 : decode prog_14_method_51_code 56 = .ok (.aload_n 0, 1) := by decide +kernel
theorem dX12_summed_57 : decode prog_14_method_51_code 57 = .ok (.iconst 1, 1) := by decide +kernel
theorem dX12_summed_58 : decode prog_14_method_51_code 58 = .ok (.invokevirtual 209, 3) := by decide +kernel
theorem dX12_summed_61 : decode prog_14_method_51_code 61 = .ok (.iconst 0, 1) := by decide +kernel
theorem dX12_summed_62 : decode prog_14_method_51_code 62 = .ok (.ireturn, 1) := by decide +kernel
theorem sum_step {wh : Bool} (cs : CS S R) (hn : 8 ≤ n) (h : RfS I t l o sl (p, wh, cu, b)) (h0 : ∀ (J : CI) (y : MS), stp t l sl (p, wh, cu, b) = (0, y) → RfS J t l o sl y → Frf o I J → WP n 0 0 mX12_summed Post 15 [(0, .ref (S.2.1 306))] [] 0 0 S J R) (hf : ∀ (J : CI) (f : Int) (y : MS), stp t l sl (p, wh, cu, b) = (f, y) → 0 < f → RfS J t l o sl y → Frf o I J → Post (some (.int (iI f))) S J R) (he : ∀ J : CI, stp t l sl (p, wh, cu, b) = (-1, (p, wh, cu, b)) → RfB J t l o sl (stl 1 p b).1 cu (stl 1 p b).2 → Frf o I J → Post (some (.int (iI 0))) S J R) : WP n 0 0 mX12_summed Post 15 [(0, .ref (S.2.1 306))] [] 0 0 S I R := by
  obtain ⟨hb, hwh⟩ := h
  have hb' : RfB I t l o sl p cu b := hb
  have hwh' : (I 306 18 = 1 ∧ wh = true) ∨ (I 306 18 = 0 ∧ wh = false) := hwh
  have hov := opn_v hb'.2.2.2.2.1
  have hl := okP_160 hb'.2.2.2.2.1 hb'.2.2.2.2.2.1
  have hlb := hb'.2.2.2.2.2.2.1
  have ok1 := hb'.1.2.2.1
  have ok2 := hb'.1.2.2.2.1
  have l3 := hb'.1.1.2.2.1
  refine x_aload_n dX12_summed_15 rfl ?_
  refine x_getI dX12_summed_16 gf_RX12_212 (k_ob_306 cs) (fun _ _ => rfl) ?_
  refine x_if_eq 29 dX12_summed_19 (by decide) (by omega) (fun w19 => ?_) (fun w19 => ?_)
  · refine x_aload_n dX12_summed_29 rfl ?_
    refine x_callV0 (mc1 := 0) (ms1 := 0) dX12_summed_30 cv_RX12_230 (ci := 12) (k_ob_306 cs) rfl (Nat.le_of_ble_eq_true rfl) (n1 := n - 1) (by omega) (by omega) (by omega) ?_
    obtain rfl : wh = false := by
      rcases hwh' with hh | hh
      · exfalso; omega
      · exact hh.2
    refine sp_beg1 (t := t) (l := l) (o := o) (sl := sl) (p := p) (cu := cu) (b := b) cs (by omega) hb' (by omega) (fun J30 r30 g30 s30 => ?_)
    refine x_istore_n (lv2 := [(1, _), (0, _)]) dX12_summed_33 (by decide) rfl ?_
    refine x_iload_n dX12_summed_34 rfl ?_
    refine x_if_le 40 dX12_summed_35 (by decide) (by omega) (fun w35 => ?_) (fun w35 => ?_)
    · refine x_iload_n dX12_summed_40 rfl ?_
      refine x_if_ne 47 dX12_summed_41 (by decide) (by omega) (fun w41 => ?_) (fun w41 => ?_)
      · exfalso; omega
      · refine x_goto 15 dX12_summed_44 (by decide) ?_
        refine x_sub [1] rfl ?_
        first
        | (rcases s23 with hh | ⟨hh, y, h1, h2, h3⟩
           · exfalso; omega
           · obtain rfl : r23 = 0 := by omega
             exact h0 _ y h1 h2 h3)
        | (obtain ⟨y, h1, h2, h3⟩ := s30
           obtain rfl : r30 = 0 := by omega
           exact h0 _ y h1 h2 h3)
    · refine x_iload_n dX12_summed_38 rfl ?_
      exact x_ireturn dX12_summed_39 rfl (by omega) (by omega) (by first
 | (rcases s23 with hh | ⟨hh, y, h1, h2, h3⟩
    · exfalso; omega
    · exact hf _ _ y h1 (by omega) h2 h3)
 | (obtain ⟨y, h1, h2, h3⟩ := s30
    exact hf _ _ y h1 (by omega) h2 h3)
 | (rw [if_pos (by omega)] at e47s
    exact hf _ 1 _ e47s (by omega) ⟨hb', hwh⟩ Frf.rf)
 | (rw [if_neg (by omega)] at e47s
    exact he J58 e47s (rfb_st hb' s58 c58 f58) (Fst.frf f58)))
  · refine x_aload_n dX12_summed_22 rfl ?_
    refine x_callV0 (mc1 := 0) (ms1 := 0) dX12_summed_23 cv_RX12_227 (ci := 12) (k_ob_306 cs) rfl (Nat.le_of_ble_eq_true rfl) (n1 := n - 1) (by omega) (by omega) (by omega) ?_
    obtain rfl : wh = true := by
      rcases hwh' with hh | hh
      · exact hh.2
      · exfalso; omega
    refine sp_beh1 (t := t) (l := l) (o := o) (sl := sl) (p := p) (cu := cu) (b := b) cs (by omega) hb' (by omega) (fun J23 r23 g23 s23 => ?_)
    refine x_goto 33 dX12_summed_26 (by decide) ?_
    refine x_istore_n (lv2 := [(1, _), (0, _)]) dX12_summed_33 (by decide) rfl ?_
    refine x_iload_n dX12_summed_34 rfl ?_
    refine x_if_le 40 dX12_summed_35 (by decide) (by omega) (fun w35 => ?_) (fun w35 => ?_)
    · refine x_iload_n dX12_summed_40 rfl ?_
      refine x_if_ne 47 dX12_summed_41 (by decide) (by omega) (fun w41 => ?_) (fun w41 => ?_)
      · have e47 : J23 = I ∧ btw p cu.2.2.1 < 0 ∧ prt p cu.2.2.1 < 0 := by
          rcases s23 with hh | hh
          · exact hh.2
          · exfalso; have h9 := hh.1; omega
        obtain ⟨rfl, e47b, e47c⟩ := e47
        have e47s := beh_e (t := t) (l := l) (sl := sl) (b := b) e47b e47c
        refine x_aload_n dX12_summed_47 rfl ?_
        refine x_callV0 (mc1 := 0) (ms1 := 0) dX12_summed_48 cv_RX12_183 (ci := 12) (k_ob_306 cs) rfl (Nat.le_of_ble_eq_true rfl) (n1 := n - 1) (by omega) (by omega) (by omega) ?_
        refine sp_X12_openNow cs (by omega) hb'.2.1 hb'.2.2.2.2.1 (by omega) ?_
        refine x_if_lt 56 dX12_summed_51 (by decide) (by omega) (fun w51 => ?_) (fun w51 => ?_)
        · refine x_aload_n dX12_summed_56 rfl ?_
          refine x_iconst dX12_summed_57 ?_
          refine x_callV1 (mc1 := 0) (ms1 := 0) dX12_summed_58 cv_RX12_209 (ci := 12) (k_ob_306 cs) rfl (Nat.le_of_ble_eq_true rfl) (n1 := n - 1) (by omega) (by omega) (by omega) ?_
          refine sp_X12_settle (g := 1) (o := o) (p := p) (b := b) cs (by omega) (by omega) hb'.2.2.2.2.2.2.2 hb'.2.1 hb'.2.2.1 hb'.2.2.2.2.1 (by omega) (by omega) (fun J58 s58 c58 f58 => ?_)
          refine x_iconst dX12_summed_61 ?_
          exact x_ireturn dX12_summed_62 rfl (by omega) (by omega) (by first
 | (rcases s23 with hh | ⟨hh, y, h1, h2, h3⟩
    · exfalso; omega
    · exact hf _ _ y h1 (by omega) h2 h3)
 | (obtain ⟨y, h1, h2, h3⟩ := s30
    exact hf _ _ y h1 (by omega) h2 h3)
 | (rw [if_pos (by omega)] at e47s
    exact hf _ 1 _ e47s (by omega) ⟨hb', hwh⟩ Frf.rf)
 | (rw [if_neg (by omega)] at e47s
    exact he J58 e47s (rfb_st hb' s58 c58 f58) (Fst.frf f58)))
        · refine x_iconst dX12_summed_54 ?_
          exact x_ireturn dX12_summed_55 rfl (by omega) (by omega) (by first
 | (rcases s23 with hh | ⟨hh, y, h1, h2, h3⟩
    · exfalso; omega
    · exact hf _ _ y h1 (by omega) h2 h3)
 | (obtain ⟨y, h1, h2, h3⟩ := s30
    exact hf _ _ y h1 (by omega) h2 h3)
 | (rw [if_pos (by omega)] at e47s
    exact hf _ 1 _ e47s (by omega) ⟨hb', hwh⟩ Frf.rf)
 | (rw [if_neg (by omega)] at e47s
    exact he J58 e47s (rfb_st hb' s58 c58 f58) (Fst.frf f58)))
      · refine x_goto 15 dX12_summed_44 (by decide) ?_
        refine x_sub [1] rfl ?_
        first
        | (rcases s23 with hh | ⟨hh, y, h1, h2, h3⟩
           · exfalso; omega
           · obtain rfl : r23 = 0 := by omega
             exact h0 _ y h1 h2 h3)
        | (obtain ⟨y, h1, h2, h3⟩ := s30
           obtain rfl : r30 = 0 := by omega
           exact h0 _ y h1 h2 h3)
    · refine x_iload_n dX12_summed_38 rfl ?_
      exact x_ireturn dX12_summed_39 rfl (by omega) (by omega) (by first
 | (rcases s23 with hh | ⟨hh, y, h1, h2, h3⟩
    · exfalso; omega
    · exact hf _ _ y h1 (by omega) h2 h3)
 | (obtain ⟨y, h1, h2, h3⟩ := s30
    exact hf _ _ y h1 (by omega) h2 h3)
 | (rw [if_pos (by omega)] at e47s
    exact hf _ 1 _ e47s (by omega) ⟨hb', hwh⟩ Frf.rf)
 | (rw [if_neg (by omega)] at e47s
    exact he J58 e47s (rfb_st hb' s58 c58 f58) (Fst.frf f58)))
/-- what stands ahead of a sum and behind it -/
def RfP (J : CI) (t : Nat → Int) (l o : Nat) (sl : Bool) (cu : Cu) (b : List Int) : Prop := (TpR J t l ∧ TkR J cu ∧ CuOK l cu) ∧ CdS J o b ∧ ((J 306 14 = 1 ∧ sl = true) ∨ (J 306 14 = 0 ∧ sl = false)) ∧ b.length ≤ cu.2.1 ∧ o + 705 ≤ 2820
theorem rfp_b {J : CI} (h : RfP I t l o sl cu b) (e1 : ∀ a, a ≠ 306 → J a = I a) (e6 : ∀ a, (a < 16 ∨ 18 < a) → J 306 a = I 306 a) (z1 : J 306 16 = 0) (z2 : J 306 17 = 0) : RfB J t l o sl [] cu b := by
  obtain ⟨h1, h3, h4, h7, h8⟩ := h
  refine ⟨tk_fr h1 (e1 310 (by omega)) (fun a ha => e6 a (by omega)), ⟨trivial, z1, z2⟩, ⟨by rw [e1 309 (by omega)]; exact h3.1, (e6 13 (by omega)).trans h3.2.1, (e6 12 (by omega)).trans h3.2.2⟩, ?_, trivial, (by show (0 : Nat) ≤ 8; omega), (by show b.length + 0 ≤ _; omega), h8⟩
  rw [e6 14 (by omega)]; exact h4
theorem rfb_p (h : RfB I t l o sl p cu b) : RfP I t l o sl cu b := ⟨h.1, h.2.2.1, h.2.2.2.1, by have := h.2.2.2.2.2.2.1; omega, h.2.2.2.2.2.2.2⟩
def QS (n : Nat) (Post : PT) (S : Sh) (I : CI) (R : CR) (t : Nat → Int) (l o : Nat) (sl : Bool) (x : MS) : Prop := ∀ J : CI, RfS J t l o sl x → Frf o I J → WP n 0 0 mX12_summed Post 15 [(0, .ref (S.2.1 306))] [] 0 0 S J R
theorem QS.go (cs : CS S R) (hn : 8 ≤ n) : ∀ x y : MS, stp t l sl x = (0, y) → QS n Post S I R t l o sl y → QS n Post S I R t l o sl x := by
  intro x y hs hy J hr hF
  obtain ⟨p, wh, cu, b⟩ := x
  refine sum_step cs hn hr (fun K z h1 h2 h3 => ?_) (fun K f z h1 h2 h3 h4 => ?_) (fun K h1 h2 h3 => ?_)
  · rw [hs] at h1
    obtain rfl : y = z := (Prod.mk.inj h1).2
    exact hy K h2 (Frf.tr hF h3)
  · rw [hs] at h1
    have := (Prod.mk.inj h1).1
    omega
  · rw [hs] at h1
    have := (Prod.mk.inj h1).1
    omega
theorem sum_in (cs : CS S R) (h : RfP I t l o sl cu b) (hq : QS n Post S I R t l o sl ([], false, cu, b)) : Call n 0 0 mX12_summed [.ref (S.2.1 306)] S I R Post := by
  refine Call.of (by decide +kernel) (Nat.le_of_ble_eq_true rfl) ?_
  show WP _ _ _ _ _ 0 [(0, _)] [] 0 0 _ _ _
  refine x_aload_n dX12_summed_0 rfl ?_
  refine x_iconst dX12_summed_1 ?_
  refine x_putI dX12_summed_2 gf_RX12_166 (k_ob_306 cs) rfl ?_
  refine x_aload_n dX12_summed_5 rfl ?_
  refine x_iconst dX12_summed_6 ?_
  refine x_putI dX12_summed_7 gf_RX12_176 (k_ob_306 cs) rfl ?_
  refine x_aload_n dX12_summed_10 rfl ?_
  refine x_iconst dX12_summed_11 ?_
  refine x_putZ dX12_summed_12 gf_RX12_212 (k_ob_306 cs) rfl (by omega) ?_
  refine x_sub [0] rfl ?_
  refine hq _ ⟨rfp_b h (fun a h9 => by rw [uI_row h9, uI_row h9, uI_row h9]) (fun a h9 => by rw [uI_o (by omega), uI_o (by omega), uI_o (by omega)]) (by rw [uI_o (by omega), uI_o (by omega), uI_s]) (by rw [uI_o (by omega), uI_s]), Or.inr ⟨by rw [uI_s], rfl⟩⟩ ?_
  exact Frf.u6 (Frf.u6 (Frf.u6 Frf.rf (by omega)) (by omega)) (by omega)
theorem sp_sumG (cs : CS S R) (hn : 8 ≤ n) (h : RfP I t l o sl cu b) (hs : SumG t l sl 0 cu b cu1 c1) (hp : ∀ J, RfP J t l o sl cu1 c1 → Frf o I J → Post (some (.int (iI 0))) S J R) : Call n 0 0 mX12_summed [.ref (S.2.1 306)] S I R Post := by
  refine sum_in cs h ?_
  obtain ⟨q, b2, g1, g2, g3⟩ := sum_top hs
  refine g1 (QS n Post S I R t l o sl) (QS.go cs hn) (fun J hr hF => ?_)
  refine sum_step cs hn hr (fun K z h1 h2 h3 => ?_) (fun K f z h1 h2 h3 h4 => ?_) (fun K h1 h2 h3 => ?_)
  · rw [g3] at h1
    have := (Prod.mk.inj h1).1
    omega
  · rw [g3] at h1
    have := (Prod.mk.inj h1).1
    omega
  · rw [g2] at h2
    exact hp K (rfb_p h2) (Frf.tr hF h3)
theorem sp_sumF {f : Int} {pl : Nat} (cs : CS S R) (hn : 8 ≤ n) (h : RfP I t l o sl cu b) (hf : 0 < f) (hs : SumF t l sl 0 cu b f pl) (hp : ∀ J, (∃ cu2 b2, RfP J t l o sl cu2 b2 ∧ cu2.2.1 = pl) → Frf o I J → Post (some (.int (iI f))) S J R) : Call n 0 0 mX12_summed [.ref (S.2.1 306)] S I R Post := by
  refine sum_in cs h ?_
  refine hs [] rfl (fun _ => rfl) ⟨fun _ => rfl, by simp⟩ (QS n Post S I R t l o sl) (QS.go cs hn) (fun x y g1 g2 J hr hF => ?_)
  obtain ⟨p, wh, cu3, b3⟩ := x
  refine sum_step cs hn hr (fun K z h1 h2 h3 => ?_) (fun K f2 z h1 h2 h3 h4 => ?_) (fun K h1 h2 h3 => ?_)
  · rw [g1] at h1
    have := (Prod.mk.inj h1).1
    omega
  · rw [g1] at h1
    obtain ⟨rfl, rfl⟩ := Prod.mk.inj h1
    exact hp K ⟨_, _, rfb_p h3.1, g2⟩ (Frf.tr hF h4)
  · rw [g1] at h1
    have := (Prod.mk.inj h1).1
    omega
end Rm8s
