section Lw7
variable {n mc ms : Nat} {M : Md} {pc : Nat} {lv : List (Nat × Value)} {st : List Value} {k j : Nat} {Post : PT} {S : Sh} {I : CI} {R : CR} {A : Nat → Int} {tx : Nat → Nat → Int}
theorem kn_of {s : State} {args : Array Value} (hts : ∀ w ∈ bigW, w.before args s = true) {own : String} {idx ci : Nat} (nw : NWf own idx ci) : ∃ z : ClassId × (Nat → Nat), ∀ q, vwCl[ci]? = some q → u_Kn s q.1 q.2.1 q.2.2 z.1 z.2 := by
  obtain ⟨hc, C2, T, N, e1, e2, e4, e5, e6, e7, e8, e9⟩ := nw
  obtain ⟨cC, iS, h⟩ := u_known (C := C2) (T := T) (N := N) (n := N) hts e4 (hts _ e8)
  refine ⟨(cC, iS), fun q hq => ?_⟩
  rw [e1] at hq
  cases hq
  exact h
theorem kn_all {s : State} {args : Array Value} (hts : ∀ w ∈ bigW, w.before args s = true) : ∃ f : Nat → ClassId × (Nat → Nat), ∀ ci q, vwCl[ci]? = some q → u_Kn s q.1 q.2.1 q.2.2 (f ci).1 (f ci).2 := by
  have h : ∀ ci : Nat, ∃ z : ClassId × (Nat → Nat), ∀ q, vwCl[ci]? = some q → u_Kn s q.1 q.2.1 q.2.2 z.1 z.2 := by
    intro ci
    match ci with
    | 0 => exact kn_of hts nw_RX11_28
    | 1 => exact kn_of hts nw_RX11_65
    | 2 => exact kn_of hts nw_RX11_58
    | 3 => exact kn_of hts nw_RX11_19
    | 4 => exact kn_of hts nw_RX11_51
    | 5 => exact kn_of hts nw_RX11_37
    | 6 => exact kn_of hts nw_RX10_24
    | 7 => exact kn_of hts nw_RX11_44
    | 8 => exact kn_of hts nw_RX10_38
    | 9 => exact kn_of hts nw_RX10_44
    | 10 => exact kn_of hts nw_RX11_7
    | 11 => exact kn_of hts nw_RL_7
    | 12 => exact kn_of hts nw_RL_10
    | k + 13 => exact ⟨(0, fun _ => 0), fun q hq => by simp [vwCl] at hq⟩
  exact Classical.skolem.mp h
theorem ar_of {s : State} {args : Array Value} {ty : FieldType} (h : (Cond.arrayClass ty).before args s = true) (hty : ∀ c, va_RA s c ty = (s.vm.findClass ("[" ++ ty.toString) = some c)) : ∃ c : ClassId, ArrOfT s c ty ∧ va_RA s c ty := by
  obtain ⟨c, k, comp, h1, h2, h3⟩ := Cond.arrayClass_spec h
  exact ⟨c, fun n z => ⟨fun k h => (by cases h), k, h2, comp, h3⟩, by rw [hty]; exact h1⟩
theorem ao_of {s : State} {args : Array Value} {C : String} (h : (Cond.arrayOver (.object C)).before args s = true) : ∃ c : ClassId, ArrOfT s c (.object C) ∧ va_RA s c (.object C) := by
  obtain ⟨comp, c, k, h1, h2, h3, h4, h5⟩ := Cond.arrayOver_spec h
  exact ⟨c, fun n z => ⟨fun k h => (by cases h), k, h3, comp, h4⟩, k, comp, h3, h4, h1, h5⟩
def tm2 (i : Nat) : Term := if i = 0 then .string RX5 94 else .string RX5 114
theorem el_0 : ∀ j, j < 121 → Cond.eq (.elem (.field (.string RX5 94) "java/lang/String" "value" "[B") (.int (Int32.ofNat j))) (.int ((txB 0).getD j 0)) ∈ flatC (Cond.and given_1 narrow_1) := by decide +kernel
theorem el_1 : ∀ j, j < 11 → Cond.eq (.elem (.field (.string RX5 114) "java/lang/String" "value" "[B") (.int (Int32.ofNat j))) (.int ((txB 1).getD j 0)) ∈ flatC (Cond.and given_1 narrow_1) := by decide +kernel
theorem i_2 {P : Nat → Prop} (h0 : P 0) (h1 : P 1) : ∀ i, i < 2 → P i := by
  intro i hi
  match i, hi with
  | 0, _ => exact h0
  | 1, _ => exact h1
set_option maxRecDepth 100000 in
theorem vs_st {s : State} {args : Array Value} {A : Nat → Prop} (hgv : (Cond.and given_1 narrow_1).before args s = true) (hA : ∀ a, a < s.heap.size → ¬ A a) : ∃ adK adV : Nat → Nat, vk_S 2 txLs txBs adK adV A s s.heap ∧ ∀ i : Nat, i < 2 → (tm2 i).eval args s none [] s = some (.ref (adK i)) := by
  have hs := flat_of_before _ hgv
  refine vk_Sof (N := 2) (tm := tm2) (len := txLs) (byt := txBs) ?_ ?_ ?_ ?_ ?_ ?_ ?_ hA
  · exact i_2 (by decide) (by decide)
  · exact i_2 (hs _ (by decide +kernel)) (hs _ (by decide +kernel))
  · exact i_2 (hs _ (by decide +kernel)) (hs _ (by decide +kernel))
  · exact i_2 (hs _ (by decide +kernel)) (hs _ (by decide +kernel))
  · exact i_2 (hs _ (by decide +kernel)) (hs _ (by decide +kernel))
  · exact i_2 (fun j hj => hs _ (el_0 j hj)) (fun j hj => hs _ (el_1 j hj))
  · have h01 : (Cond.not (Cond.eq (tm2 0) (tm2 1))).before args s = true := hs _ (by decide +kernel)
    intro i j hi hj hne
    match i, hi, j, hj with
    | 0, _, 0, _ => exact absurd rfl hne
    | 1, _, 1, _ => exact absurd rfl hne
    | 0, _, 1, _ => exact Or.inl h01
    | 1, _, 0, _ => exact Or.inr h01
theorem kk_st {s : State} {args : Array Value} {A : Nat → Prop} (hts : ∀ w ∈ lw_tbl, w.before args s = true) (hgv : (Cond.and given_1 narrow_1).before args s = true) (hA : ∀ a, a < s.heap.size → ¬ A a) : ∃ (D : va_G) (cy : Nat → ClassId) (sa : Nat → Nat), ∀ S : Sh, S.2.2.2.2 = sa → KK D cy S A s := by
  have hs := flat_of_before _ hgv
  have htb : ∀ w ∈ bigW, w.before args s = true := fun w hw => hts w (List.mem_filter.mp hw).1
  obtain ⟨f, hf⟩ := kn_all htb
  obtain ⟨c0, p0⟩ := ar_of (hts (.arrayClass .int) (by decide +kernel)) (fun _ => rfl)
  obtain ⟨c1, p1⟩ := ar_of (hts (.arrayClass .long) (by decide +kernel)) (fun _ => rfl)
  obtain ⟨c2, p2⟩ := ar_of (hts (.arrayClass .boolean) (by decide +kernel)) (fun _ => rfl)
  have w6 := hts (.arrayOver (.object RX6)) (by decide +kernel)
  have w8 := hts (.arrayOver (.object RX8)) (by decide +kernel)
  obtain ⟨c3, p3⟩ := ao_of w6
  obtain ⟨c4, p4⟩ := ao_of w8
  obtain ⟨adK, adV, g1, g2⟩ := vs_st hgv hA
  refine ⟨(fun c => (f c).1, fun c => (f c).2), fun k => if k = 0 then c0 else if k = 1 then c1 else if k = 2 then c2 else if k = 3 then c3 else c4, fun k => if k < 2 then adK k else adV (k - 2), fun S hS => ?_⟩
  have e0 : S.2.2.2.2 0 = adK 0 := by rw [hS]; rfl
  have e1 : S.2.2.2.2 1 = adK 1 := by rw [hS]; rfl
  have e2 : S.2.2.2.2 2 = adV 0 := by rw [hS]; rfl
  have e3 : S.2.2.2.2 3 = adV 1 := by rw [hS]; rfl
  refine ⟨⟨fun c q hq => hf c q hq, fun k q hq => ?_⟩, fun w hw => va_Nw.of (by have := (List.mem_filter.mp hw).2; cases w <;> first | (cases this; done) | rfl) (hts w (List.mem_filter.mp hw).1), va_AO.of w6, va_AO.of w8, ⟨i_2 ?_ ?_, fun i j hi hj => ?_⟩, ?_, ?_, ?_, ?_⟩
  · match k, hq with
    | 0, hq => cases hq; exact p0
    | 1, hq => cases hq; exact p1
    | 2, hq => cases hq; exact p2
    | 3, hq => cases hq; exact p3
    | 4, hq => cases hq; exact p4
    | k + 5, hq => simp [tysL] at hq
  · show va_O _ (S.2.2.2.2 0) _ _ _ ∧ va_OF _ _ _ _ (S.2.2.2.2 0) _ _ _ ∧ va_OF _ _ _ (.ref (S.2.2.2.2 2)) (S.2.2.2.2 0) _ _ _ ∧ va_T _ (S.2.2.2.2 2) _ _ _ _ _
    rw [e0, e2]; exact g1.1 0 (by omega)
  · show va_O _ (S.2.2.2.2 1) _ _ _ ∧ va_OF _ _ _ _ (S.2.2.2.2 1) _ _ _ ∧ va_OF _ _ _ (.ref (S.2.2.2.2 3)) (S.2.2.2.2 1) _ _ _ ∧ va_T _ (S.2.2.2.2 3) _ _ _ _ _
    rw [e1, e3]; exact g1.1 1 (by omega)
  · intro he
    match i, hi, j, hj with
    | 0, _, 0, _ => rfl
    | 1, _, 1, _ => rfl
    | 0, _, 1, _ => rw [e0, e1] at he; exact g1.2 0 1 (by omega) (by omega) he
    | 1, _, 0, _ => rw [e0, e1] at he; exact g1.2 1 0 (by omega) (by omega) he
  · rw [e0]; exact vk_R.of (A := args) (hts (.stringRef RX5 94 (txK 0)) (by decide +kernel)) (g2 0 (by omega))
  · rw [e1]; exact vk_R.of (A := args) (hts (.stringRef RX5 114 (txK 1)) (by decide +kernel)) (g2 1 (by omega))
  · exact va_Zof (hts (.laysStatic "java/lang/String" "COMPACT_STRINGS" "Z") (by decide +kernel)) (hts (.initialized "java/lang/String") (by decide +kernel)) (Cond.eq_int (hs (.eq (.static "java/lang/String" "COMPACT_STRINGS" "Z") (.int 1)) (by decide +kernel)) rfl) hA
  · exact va_Zqof (hts (.laysStatic "jdk/internal/util/Preconditions" "SIOOBE_FORMATTER" "Ljava/util/function/BiFunction;") (by decide +kernel)) (hts (.initialized "jdk/internal/util/Preconditions") (by decide +kernel)) (hs (.isRef (.static "jdk/internal/util/Preconditions" "SIOOBE_FORMATTER" "Ljava/util/function/BiFunction;")) (by decide +kernel)) hA
end Lw7
