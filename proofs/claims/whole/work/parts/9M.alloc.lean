section Alloc1
variable {n mc ms : Nat} {M : Md} {pc : Nat} {lv : List (Nat × Value)} {st : List Value} {k j : Nat} {Post : PT} {S : Sh} {I : CI} {R : CR} {A : Nat → Int} {tx : Nat → Nat → Int}
def nS (S : Sh) (q kd N : Nat) : Sh := (S.1 + 1, (fun i => if i = S.1 then q else S.2.1 i), (fun i => if i = S.1 then kd else S.2.2.1 i), (fun i => if i = S.1 then N else S.2.2.2.1 i), S.2.2.2.2)
def zI (I : CI) (a : Nat) : CI := fun b q => if b = a then 0 else I b q
def zR (R : CR) (a : Nat) : CR := fun b q => if b = a then none else R b q
theorem zI_s (I : CI) (a q : Nat) : zI I a a q = 0 := if_pos rfl
theorem zI_o {I : CI} {a b : Nat} (h : b ≠ a) : zI I a b = I b := by funext q; exact if_neg h
theorem zR_s (R : CR) (a q : Nat) : zR R a a q = none := if_pos rfl
theorem zR_o {R : CR} {a b : Nat} (h : b ≠ a) : zR R a b = R b := by funext q; exact if_neg h
/-- references stay within the cells that there are -/
def RB (S : Sh) (R : CR) : Prop := ∀ a q b, R a q = some b → b < S.1
/-- S2 is S and one more cell -/
def Nw (S S2 : Sh) (kd N : Nat) : Prop := S2.1 = S.1 + 1 ∧ (∀ a, a ≠ S.1 → S2.2.1 a = S.2.1 a ∧ S2.2.2.1 a = S.2.2.1 a ∧ S2.2.2.2.1 a = S.2.2.2.1 a) ∧ S2.2.2.1 S.1 = kd ∧ S2.2.2.2.1 S.1 = N
theorem nw_nS {q kd N : Nat} : Nw S (nS S q kd N) kd N := ⟨rfl, fun a h => ⟨if_neg h, if_neg h, if_neg h⟩, if_pos rfl, if_pos rfl⟩
theorem nS_q {q kd N : Nat} : (nS S q kd N).2.1 S.1 = q := if_pos rfl
theorem RB.zr (h : RB S R) {S2 : Sh} (h2 : S.1 ≤ S2.1) (a : Nat) : RB S2 (zR R a) := by
  intro b q c hc
  by_cases hb : b = a
  · subst hb; rw [zR_s] at hc; cases hc
  · rw [zR_o hb] at hc; have := h b q c hc; omega
theorem RB.ur (h : RB S R) {a q : Nat} {v : Option Nat} (hv : ∀ b, v = some b → b < S.1) : RB S (uR R a q v) := by
  intro b i c hc
  by_cases hb : b = a ∧ i = q
  · obtain ⟨rfl, rfl⟩ := hb
    rw [uR_s] at hc; exact hv c hc
  · rw [uR_o (by by_cases h1 : b = a
                 · right; exact fun h2 => hb ⟨h1, h2⟩
                 · left; exact h1)] at hc
    exact h b i c hc
theorem Nw.ob {S2 : Sh} {kd N a ci : Nat} (h : Nw S S2 kd N) (hb : OB S a ci) : OB S2 a ci := by
  have h1 := hb.1
  have h2 := h.2.1 a (by omega)
  exact ⟨by rw [h.1]; omega, by rw [h2.2.1]; exact hb.2⟩
theorem Nw.ar {S2 : Sh} {kd N a ci N0 : Nat} (h : Nw S S2 kd N) (hb : AR S a ci N0) : AR S2 a ci N0 := by
  have h1 := hb.1
  have h2 := h.2.1 a (by omega)
  exact ⟨by rw [h.1]; omega, by rw [h2.2.1]; exact hb.2.1, by rw [h2.2.2]; exact hb.2.2⟩
theorem Nw.nob {S2 : Sh} {kd N : Nat} (h : Nw S S2 kd N) : OB S2 S.1 kd := ⟨by rw [h.1]; omega, h.2.2.1⟩
theorem Nw.nar {S2 : Sh} {kd N : Nat} (h : Nw S S2 kd N) : AR S2 S.1 kd N := ⟨by rw [h.1]; omega, h.2.2.1, h.2.2.2⟩
theorem pE_ext {cy : Nat → ClassId} {q kd N i : Nat} (hrb : RB S R) (hi : i < S.1) : pE cy (nS S q kd N) (zI I S.1) (zR R S.1) i = pE cy S I R i := by
  have hne : i ≠ S.1 := by omega
  have hm : (fun x => (zR R S.1 i x).map (nS S q kd N).2.1) = fun x => (R i x).map S.2.1 := by
    funext x
    rw [zR_o hne]
    cases hr : R i x with
    | none => rfl
    | some b =>
      have := hrb i x b hr
      show some (if b = S.1 then q else S.2.1 b) = some (S.2.1 b)
      rw [if_neg (by omega)]
  have h1 : (nS S q kd N).2.2.1 i = S.2.2.1 i := if_neg hne
  have h2 : (nS S q kd N).2.2.2.1 i = S.2.2.2.1 i := if_neg hne
  unfold pE
  rw [h1, h2, hm, zI_o hne]
theorem pw_push {cy : Nat → ClassId} {q kd N : Nat} {x : va_E} (hrb : RB S R) (hx : pE cy (nS S q kd N) (zI I S.1) (zR R S.1) S.1 = x) : pW cy S I R ++ [(q, x)] = pW cy (nS S q kd N) (zI I S.1) (zR R S.1) := by
  unfold pW
  show _ = (List.range (S.1 + 1)).map _
  rw [List.range_succ, List.map_append]
  congr 1
  · apply List.map_congr_left
    intro i hi
    have hi' : i < S.1 := List.mem_range.mp hi
    rw [pE_ext hrb hi']
    have : (nS S q kd N).2.1 i = S.2.1 i := if_neg (by omega)
    rw [this]
  · rw [List.map_singleton, hx, nS_q]
def okTy : FieldType → Bool
  | .int => true
  | .boolean => true
  | .long => true
  | .object _ => true
  | .array _ => true
  | _ => false
theorem df_ok {ty : FieldType} (h : okTy ty = true) : defaultValue ty = fv ty 0 none := by
  cases ty <;> first | (cases h; done) | rfl
theorem fs_ok {ci : Nat} {T : Nat → FieldType} (h : ∀ q, q < nfd ci → okTy (fty ci q) = true) : ∀ q, q < nfd ci → defaultValue (fty ci q) = vp_V (fl ci (fun _ => 0) (fun _ => none)) q := by
  intro q hq
  rw [df_ok (h q hq)]
  unfold vp_V
  rw [List.getD_eq_getElem?_getD, fl_at hq]
  rfl
def NWf (own : String) (idx ci : Nat) : Prop := ci < 13 ∧ ∃ (C : String) (T : u_T) (N : Nat), vwCl[ci]? = some (C, T, N) ∧ N = nfd ci ∧ (∀ w ∈ u_ws C T N, w ∈ bigW) ∧ (∀ q, q < N → parseFieldDescriptor (T q).2.2.1 = some (fty ci q)) ∧ (∀ q, q < N → okTy (fty ci q) = true) ∧ Cond.classLink own idx C ∈ bigW ∧ Cond.instantiable C N ∈ bigW ∧ Cond.initialized C ∈ bigW
theorem x_new {idx ci : Nat} (d : decode M.2.1 pc = .ok (.new idx, 3)) (nw : NWf M.1.cls idx ci) (hrb : RB S R) (hk : k + 1 ≤ mc) (hj : j + nfd ci ≤ ms) (h : ∀ S2 : Sh, Nw S S2 ci 0 → WP n mc ms M Post (pc + 3) lv (.ref (S2.2.1 S.1) :: st) (k + 1) (j + nfd ci) S2 (zI I S.1) (zR R S.1)) : WP n mc ms M Post pc lv st k j S I R := by
  intro l p e s m args below meth c D cy A H locs ls C hl hP hD hS
  obtain ⟨hc, C2, T, N, e1, e2, e4, e5, e6, e7, e8, e9⟩ := nw
  subst e2
  have cx := C.2.2.2.2.2.2.2.1
  refine va_new C.1 C.2.1 (own := M.1.cls) cx (fun w hw => List.mem_cons_of_mem _ (e4 w hw)) (fty ci) e5 C.2.2.2.2.2.1 (cx _ (List.mem_cons_of_mem _ e7)) (cx _ (List.mem_cons_of_mem _ e8)) (cx _ (List.mem_cons_of_mem _ e9)) C.2.2.2.2.2.2.2.2.1.1 hP hD hS C.2.2.2.2.2.2.2.2.2 e1 (fs := fl ci (fun _ => 0) (fun _ => none)) (fs_ok (T := fty ci) e6) hk hj d (fun q H1 g1 g2 g3 => ?_)
  have hpe : pE cy (nS S q ci 0) (zI I S.1) (zR R S.1) S.1 = .inr (ci, fl ci (fun _ => 0) (fun _ => none)) := by
    have h1 : (nS S q ci 0).2.2.1 S.1 = ci := if_pos rfl
    have h2 : zI I S.1 S.1 = fun _ => 0 := by funext x; exact zI_s _ _ _
    have h3 : (fun x => (zR R S.1 S.1 x).map (nS S q ci 0).2.1) = fun _ => none := by funext x; rw [zR_s]; rfl
    unfold pE
    rw [h1, h2, h3, if_pos hc]
  rw [pw_push hrb hpe] at g1 g2
  have h9 := h (nS S q ci 0) nw_nS l p e s m args below meth c D cy A H1 locs ls C hl g1 g2 g3
  rw [nS_q] at h9
  exact h9
theorem x_newai {z : Int} {N : Nat} (d : decode M.2.1 pc = .ok (.newarray .int, 2)) (hz : z = (N : Int)) (hN : N ≤ 100000) (hrb : RB S R) (hk : k + 1 ≤ mc) (hj : j + N ≤ ms) (h : ∀ S2 : Sh, Nw S S2 13 N → WP n mc ms M Post (pc + 2) lv (.ref (S2.2.1 S.1) :: st) (k + 1) (j + N) S2 (zI I S.1) (zR R S.1)) : WP n mc ms M Post pc lv (.int (iI z) :: st) k j S I R := by
  intro l p e s m args below meth c D cy A H locs ls C hl hP hD hS
  have cx := C.2.2.2.2.2.2.2.1
  have hK := C.2.2.2.2.2.2.2.2.1.1
  refine va_newa C.1 C.2.1 (atype := .int) (cx _ (List.mem_cons_of_mem _ (bw_in (lwt_1 (List.mem_of_getElem? (i := 106) rfl)) rfl))) (ty := .int) rfl hK hP hD hS C.2.2.2.2.2.2.2.2.2 (N' := N) (a0 := (N, .inl (fun _ => iI 0))) (fun cA => rfl) (iI_nn (by omega) (by omega)) (by rw [iI_clamp (by omega) (by omega)]; omega) (by show N * 4 ≤ 536870912; omega) hk hj d (fun q cA H1 g0 g1 g2 g3 => ?_)
  have e1 : cA = cy 0 := by
    have q1 : s.vm.findClass _ = some (cy 0) := (hK.2 0 (cy 0, .int) rfl).2
    have q2 : s.vm.findClass _ = some cA := (g0.2 5 (cA, .int) rfl).2
    exact Option.some.inj (q2.symm.trans q1)
  subst e1
  have hpe : pE cy (nS S q 13 N) (zI I S.1) (zR R S.1) S.1 = .inl (cy 0, N, .inl (fun _ => iI 0)) := by
    have h1 : (nS S q 13 N).2.2.1 S.1 = 13 := if_pos rfl
    have h2 : (nS S q 13 N).2.2.2.1 S.1 = N := if_pos rfl
    have h3 : zI I S.1 S.1 = fun _ => 0 := by funext x; exact zI_s _ _ _
    unfold pE
    rw [h1, h2, h3]
    rfl
  rw [pw_push hrb hpe] at g1 g2
  have h9 := h (nS S q 13 N) nw_nS l p e s m args below meth c D cy A H1 locs ls C hl g1 g2 g3
  rw [nS_q] at h9
  exact h9
theorem x_newal {z : Int} {N : Nat} (d : decode M.2.1 pc = .ok (.newarray .long, 2)) (hz : z = (N : Int)) (hN : N ≤ 100000) (hrb : RB S R) (hk : k + 1 ≤ mc) (hj : j + N ≤ ms) (h : ∀ S2 : Sh, Nw S S2 14 N → WP n mc ms M Post (pc + 2) lv (.ref (S2.2.1 S.1) :: st) (k + 1) (j + N) S2 (zI I S.1) (zR R S.1)) : WP n mc ms M Post pc lv (.int (iI z) :: st) k j S I R := by
  intro l p e s m args below meth c D cy A H locs ls C hl hP hD hS
  have cx := C.2.2.2.2.2.2.2.1
  have hK := C.2.2.2.2.2.2.2.2.1.1
  refine va_newa C.1 C.2.1 (atype := .long) (cx _ (List.mem_cons_of_mem _ (bw_in (lwt_7 (List.mem_of_getElem? (i := 41) rfl)) rfl))) (ty := .long) rfl hK hP hD hS C.2.2.2.2.2.2.2.2.2 (N' := N) (a0 := (N, .inr (.inl (fun _ => lI 0)))) (fun cA => rfl) (iI_nn (by omega) (by omega)) (by rw [iI_clamp (by omega) (by omega)]; omega) (by show N * 8 ≤ 536870912; omega) hk hj d (fun q cA H1 g0 g1 g2 g3 => ?_)
  have e1 : cA = cy 1 := by
    have q1 : s.vm.findClass _ = some (cy 1) := (hK.2 1 (cy 1, .long) rfl).2
    have q2 : s.vm.findClass _ = some cA := (g0.2 5 (cA, .long) rfl).2
    exact Option.some.inj (q2.symm.trans q1)
  subst e1
  have hpe : pE cy (nS S q 14 N) (zI I S.1) (zR R S.1) S.1 = .inl (cy 1, N, .inr (.inl (fun _ => lI 0))) := by
    have h1 : (nS S q 14 N).2.2.1 S.1 = 14 := if_pos rfl
    have h2 : (nS S q 14 N).2.2.2.1 S.1 = N := if_pos rfl
    have h3 : zI I S.1 S.1 = fun _ => 0 := by funext x; exact zI_s _ _ _
    unfold pE
    rw [h1, h2, h3]
    rfl
  rw [pw_push hrb hpe] at g1 g2
  have h9 := h (nS S q 14 N) nw_nS l p e s m args below meth c D cy A H1 locs ls C hl g1 g2 g3
  rw [nS_q] at h9
  exact h9
theorem x_newaz {z : Int} {N : Nat} (d : decode M.2.1 pc = .ok (.newarray .boolean, 2)) (hz : z = (N : Int)) (hN : N ≤ 100000) (hrb : RB S R) (hk : k + 1 ≤ mc) (hj : j + N ≤ ms) (h : ∀ S2 : Sh, Nw S S2 15 N → WP n mc ms M Post (pc + 2) lv (.ref (S2.2.1 S.1) :: st) (k + 1) (j + N) S2 (zI I S.1) (zR R S.1)) : WP n mc ms M Post pc lv (.int (iI z) :: st) k j S I R := by
  intro l p e s m args below meth c D cy A H locs ls C hl hP hD hS
  have cx := C.2.2.2.2.2.2.2.1
  have hK := C.2.2.2.2.2.2.2.2.1.1
  refine va_newa C.1 C.2.1 (atype := .boolean) (cx _ (List.mem_cons_of_mem _ (bw_in (lwt_7 (List.mem_of_getElem? (i := 42) rfl)) rfl))) (ty := .boolean) rfl hK hP hD hS C.2.2.2.2.2.2.2.2.2 (N' := N) (a0 := (N, .inl (fun _ => iI 0))) (fun cA => rfl) (iI_nn (by omega) (by omega)) (by rw [iI_clamp (by omega) (by omega)]; omega) (by show N * 1 ≤ 536870912; omega) hk hj d (fun q cA H1 g0 g1 g2 g3 => ?_)
  have e1 : cA = cy 2 := by
    have q1 : s.vm.findClass _ = some (cy 2) := (hK.2 2 (cy 2, .boolean) rfl).2
    have q2 : s.vm.findClass _ = some cA := (g0.2 5 (cA, .boolean) rfl).2
    exact Option.some.inj (q2.symm.trans q1)
  subst e1
  have hpe : pE cy (nS S q 15 N) (zI I S.1) (zR R S.1) S.1 = .inl (cy 2, N, .inl (fun _ => iI 0)) := by
    have h1 : (nS S q 15 N).2.2.1 S.1 = 15 := if_pos rfl
    have h2 : (nS S q 15 N).2.2.2.1 S.1 = N := if_pos rfl
    have h3 : zI I S.1 S.1 = fun _ => 0 := by funext x; exact zI_s _ _ _
    unfold pE
    rw [h1, h2, h3]
    rfl
  rw [pw_push hrb hpe] at g1 g2
  have h9 := h (nS S q 15 N) nw_nS l p e s m args below meth c D cy A H1 locs ls C hl g1 g2 g3
  rw [nS_q] at h9
  exact h9
theorem x_newqs {z : Int} {idx N : Nat} (d : decode M.2.1 pc = .ok (.anewarray idx, 3)) (hlk : Cond.classLink M.1.cls idx RX6 ∈ bigW) (hz : z = (N : Int)) (hN : N ≤ 100000) (hrb : RB S R) (hk : k + 1 ≤ mc) (hj : j + N ≤ ms) (h : ∀ S2 : Sh, Nw S S2 16 N → WP n mc ms M Post (pc + 3) lv (.ref (S2.2.1 S.1) :: st) (k + 1) (j + N) S2 (zI I S.1) (zR R S.1)) : WP n mc ms M Post pc lv (.int (iI z) :: st) k j S I R := by
  intro l p e s m args below meth c D cy A H locs ls C hl hP hD hS
  have cx := C.2.2.2.2.2.2.2.1
  have hK := C.2.2.2.2.2.2.2.2.1.1
  refine va_newq C.1 C.2.1 (own := M.1.cls) (C := RX6) C.2.2.2.2.2.1 (cx _ (List.mem_cons_of_mem _ hlk)) C.2.2.2.2.2.2.2.2.1.2.2.1 hK hP hD hS C.2.2.2.2.2.2.2.2.2 (N' := N) (iI_nn (by omega) (by omega)) (by rw [iI_clamp (by omega) (by omega)]; omega) (by omega) hk hj d (fun q cA H1 g0 g1 g2 g3 => ?_)
  have e1 : cA = cy 3 := by
    obtain ⟨-, k1, c1, -, -, -, q1⟩ := hK.2 3 (cy 3, .object RX6) rfl
    obtain ⟨-, k2, c2, -, -, -, q2⟩ := g0.2 5 (cA, .object RX6) rfl
    exact Option.some.inj (q2.symm.trans q1)
  subst e1
  have hpe : pE cy (nS S q 16 N) (zI I S.1) (zR R S.1) S.1 = .inl (cy 3, N, .inr (.inr (.inr (.inr (fun _ => none))))) := by
    have h1 : (nS S q 16 N).2.2.1 S.1 = 16 := if_pos rfl
    have h2 : (nS S q 16 N).2.2.2.1 S.1 = N := if_pos rfl
    have h3 : (fun x => (zR R S.1 S.1 x).map (nS S q 16 N).2.1) = fun _ => none := by funext x; rw [zR_s]; rfl
    unfold pE
    rw [h1, h2, h3]
    rfl
  rw [pw_push hrb hpe] at g1 g2
  have h9 := h (nS S q 16 N) nw_nS l p e s m args below meth c D cy A H1 locs ls C hl g1 g2 g3
  rw [nS_q] at h9
  exact h9
theorem x_newqt {z : Int} {idx N : Nat} (d : decode M.2.1 pc = .ok (.anewarray idx, 3)) (hlk : Cond.classLink M.1.cls idx RX8 ∈ bigW) (hz : z = (N : Int)) (hN : N ≤ 100000) (hrb : RB S R) (hk : k + 1 ≤ mc) (hj : j + N ≤ ms) (h : ∀ S2 : Sh, Nw S S2 17 N → WP n mc ms M Post (pc + 3) lv (.ref (S2.2.1 S.1) :: st) (k + 1) (j + N) S2 (zI I S.1) (zR R S.1)) : WP n mc ms M Post pc lv (.int (iI z) :: st) k j S I R := by
  intro l p e s m args below meth c D cy A H locs ls C hl hP hD hS
  have cx := C.2.2.2.2.2.2.2.1
  have hK := C.2.2.2.2.2.2.2.2.1.1
  refine va_newq C.1 C.2.1 (own := M.1.cls) (C := RX8) C.2.2.2.2.2.1 (cx _ (List.mem_cons_of_mem _ hlk)) C.2.2.2.2.2.2.2.2.1.2.2.2.1 hK hP hD hS C.2.2.2.2.2.2.2.2.2 (N' := N) (iI_nn (by omega) (by omega)) (by rw [iI_clamp (by omega) (by omega)]; omega) (by omega) hk hj d (fun q cA H1 g0 g1 g2 g3 => ?_)
  have e1 : cA = cy 4 := by
    obtain ⟨-, k1, c1, -, -, -, q1⟩ := hK.2 4 (cy 4, .object RX8) rfl
    obtain ⟨-, k2, c2, -, -, -, q2⟩ := g0.2 5 (cA, .object RX8) rfl
    exact Option.some.inj (q2.symm.trans q1)
  subst e1
  have hpe : pE cy (nS S q 17 N) (zI I S.1) (zR R S.1) S.1 = .inl (cy 4, N, .inr (.inr (.inr (.inr (fun _ => none))))) := by
    have h1 : (nS S q 17 N).2.2.1 S.1 = 17 := if_pos rfl
    have h2 : (nS S q 17 N).2.2.2.1 S.1 = N := if_pos rfl
    have h3 : (fun x => (zR R S.1 S.1 x).map (nS S q 17 N).2.1) = fun _ => none := by funext x; rw [zR_s]; rfl
    unfold pE
    rw [h1, h2, h3]
    rfl
  rw [pw_push hrb hpe] at g1 g2
  have h9 := h (nS S q 17 N) nw_nS l p e s m args below meth c D cy A H1 locs ls C hl g1 g2 g3
  rw [nS_q] at h9
  exact h9
theorem x_objInit {idx : Nat} {x : Nat} (d : decode M.2.1 pc = .ok (.invokespecial idx, 3)) (hlk : Cond.methodLink M.1.cls idx objectInit ∈ bigW) (hn : 1 ≤ n) (hst : (st.map fun v => v.category).sum ≤ 8) (h : WP n mc ms M Post (pc + 3) lv st k j S I R) : WP n mc ms M Post pc lv (.ref x :: st) k j S I R := by
  intro l p e s m args below meth c D cy A H locs ls C hl hP hD hS
  have cx := C.2.2.2.2.2.2.2.1
  refine W.objInit (g := F0 m pc ls (.ref x :: st)) C.1 C.2.1 C.2.2.2.2.2.1 (cx _ (List.mem_cons_of_mem _ hlk)) (cx _ (List.mem_cons_of_mem _ (bw_in (lwt_1 (List.mem_of_getElem? (i := 29) rfl)) rfl))) (cx _ (List.mem_cons_of_mem _ (bw_in (lwt_1 (List.mem_of_getElem? (i := 30) rfl)) rfl))) rfl (C.2.2.1.trans hl.1.symm).symm rfl d (by show 1 ≤ n; exact hn) (by show 2 * 0 + _ + 12 ≤ 64 * n; omega) ?_
  exact h l p e s m args below meth c D cy A H locs ls C hl hP hD hS
/-- a copy of a row of whole numbers -/
def clI (I : CI) (a b : Nat) : CI := fun x q => if x = b then I a q else I x q
theorem clI_s (I : CI) (a b q : Nat) : clI I a b b q = I a q := if_pos rfl
theorem clI_o {I : CI} {a b x : Nat} (h : x ≠ b) : clI I a b x = I x := by funext q; exact if_neg h
theorem x_clone {idx a N : Nat} (d : decode M.2.1 pc = .ok (.invokevirtual idx, 3)) (hlk : Cond.methodLink M.1.cls idx ⟨"[I", "clone", "()Ljava/lang/Object;"⟩ ∈ bigW) (hA : AR S a 13 N) (hrb : RB S R) (hn : 1 ≤ n) (hst : (st.map fun v => v.category).sum ≤ 8) (hk : k + 1 ≤ mc) (hj : j + N ≤ ms) (h : ∀ S2 : Sh, Nw S S2 13 N → WP n mc ms M Post (pc + 3) lv (.ref (S2.2.1 S.1) :: st) (k + 1) (j + N) S2 (clI I a S.1) (zR R S.1)) : WP n mc ms M Post pc lv (.ref (S.2.1 a) :: st) k j S I R := by
  intro l p e s m args below meth c D cy A H locs ls C hl hP hD hS
  have cx := C.2.2.2.2.2.2.2.1
  have hK := C.2.2.2.2.2.2.2.2.1.1
  have hne : a ≠ S.1 := by have := hA.1; omega
  refine va_clone C.1 C.2.1 (C.2.2.1.trans hl.1.symm) (own := M.1.cls) (ad := "[I") C.2.2.2.2.2.1 (cx _ (List.mem_cons_of_mem _ hlk)) (cx _ (List.mem_cons_of_mem _ (bw_in (lwt_4 (List.mem_of_getElem? (i := 17) rfl)) rfl))) (cx _ (List.mem_cons_of_mem _ (bw_in (lwt_4 (List.mem_of_getElem? (i := 18) rfl)) rfl))) (cx _ (List.mem_cons_of_mem _ (bw_in (lwt_4 (List.mem_of_getElem? (i := 19) rfl)) rfl))) (cx _ (List.mem_cons_of_mem _ (bw_in (lwt_4 (List.mem_of_getElem? (i := 20) rfl)) rfl))) (C.2.2.2.2.2.2.2.2.1.2.1 _ (List.mem_filter.mpr ⟨lwt_4 (List.mem_of_getElem? (i := 21) rfl), rfl⟩)) hK hP hD hS C.2.2.2.2.2.2.2.2.2 a 0 (x := (N, .inl (fun i => iI (I a i)))) (ty := .int) (by rw [pw_get hA.1, pE_i hA]) rfl (va_nm_int (hK.2 0 (cy 0, .int) rfl).2) (fun i v hv => ?_) (by show 1 ≤ n; exact hn) (by show _ + 14 ≤ 64 * n; omega) hk hj d (fun q H1 g0 g1 g2 g3 => ?_)
  · rw [vp_cell_i] at hv
    exact va_fit (fun i hi => rfl) i v hv
  have hpe : pE cy (nS S q 13 N) (zI (clI I a S.1) S.1) (zR R S.1) S.1 = .inl (cy 0, N, .inl (fun i => iI 0)) := by
    have h1 : (nS S q 13 N).2.2.1 S.1 = 13 := if_pos rfl
    have h2 : (nS S q 13 N).2.2.2.1 S.1 = N := if_pos rfl
    have h3 : zI (clI I a S.1) S.1 S.1 = fun _ => 0 := by funext x; exact zI_s _ _ _
    unfold pE
    rw [h1, h2, h3]
    rfl
  have hpw : pW cy S I R ++ [(q, .inl (cy 0, N, .inl (fun i => iI (I a i))))] = pW cy (nS S q 13 N) (clI I a S.1) (zR R S.1) := by
    unfold pW
    show _ = (List.range (S.1 + 1)).map _
    rw [List.range_succ, List.map_append]
    congr 1
    · apply List.map_congr_left
      intro i hi
      have hi' : i < S.1 := List.mem_range.mp hi
      have h5 := pE_ext (I := I) (cy := cy) (q := q) (kd := 13) (N := N) hrb hi'
      have h6 : pE cy (nS S q 13 N) (clI I a S.1) (zR R S.1) i = pE cy (nS S q 13 N) (zI I S.1) (zR R S.1) i := by
        unfold pE
        rw [clI_o (show i ≠ S.1 by omega), zI_o (show i ≠ S.1 by omega)]
      rw [h6, h5]
      have : (nS S q 13 N).2.1 i = S.2.1 i := if_neg (by omega)
      rw [this]
    · have h1 : (nS S q 13 N).2.2.1 S.1 = 13 := if_pos rfl
      have h2 : (nS S q 13 N).2.2.2.1 S.1 = N := if_pos rfl
      have h3 : clI I a S.1 S.1 = I a := by funext x; exact clI_s _ _ _ _
      have h4 : pE cy (nS S q 13 N) (clI I a S.1) (zR R S.1) S.1 = .inl (cy 0, N, .inl (fun i => iI (I a i))) := by
        unfold pE
        rw [h1, h2, h3]
        rfl
      rw [List.map_singleton, h4, nS_q]
  rw [hpw] at g1 g2
  have h9 := h (nS S q 13 N) nw_nS l p e s m args below meth c D cy A H1 locs ls C hl g1 g2 g3
  rw [nS_q] at h9
  exact h9
theorem x_castI {idx a N : Nat} (d : decode M.2.1 pc = .ok (.checkcast idx, 3)) (hlk : Cond.classLink M.1.cls idx "[I" ∈ bigW) (hA : AR S a 13 N) (h : WP n mc ms M Post (pc + 3) lv (.ref (S.2.1 a) :: st) k j S I R) : WP n mc ms M Post pc lv (.ref (S.2.1 a) :: st) k j S I R := by
  intro l p e s m args below meth c D cy A H locs ls C hl hP hD hS
  have cx := C.2.2.2.2.2.2.2.1
  have hK := C.2.2.2.2.2.2.2.2.1.1
  refine va_castA C.1 C.2.1 (own := M.1.cls) (nm := "[I") C.2.2.2.2.2.1 (cx _ (List.mem_cons_of_mem _ hlk)) hP a (x := (N, .inl (fun i => iI (I a i)))) (by rw [pw_get hA.1, pE_i hA]) (va_nm_int (hK.2 0 (cy 0, .int) rfl).2) d ?_
  exact h l p e s m args below meth c D cy A H locs ls C hl hP hD hS
theorem nw_RL_7 : NWf RL 7 11 := ⟨by decide, RX11, TX11, 9, rfl, rfl, iX11, tyX11_ok, by decide, bw_in (lwt_1 (List.mem_of_getElem? (i := 23) rfl)) rfl, bw_in (lwt_1 (List.mem_of_getElem? (i := 24) rfl)) rfl, bw_in (lwt_1 (List.mem_of_getElem? (i := 1) rfl)) rfl⟩
theorem nw_RX11_7 : NWf RX11 7 10 := ⟨by decide, RX10, TX10, 13, rfl, rfl, iX10, tyX10_ok, by decide, bw_in (lwt_1 (List.mem_of_getElem? (i := 31) rfl)) rfl, bw_in (lwt_1 (List.mem_of_getElem? (i := 32) rfl)) rfl, bw_in (lwt_1 (List.mem_of_getElem? (i := 2) rfl)) rfl⟩
theorem nw_RX10_24 : NWf RX10 24 6 := ⟨by decide, RX6, TX6, 9, rfl, rfl, iX6, tyX6_ok, by decide, bw_in (lwt_1 (List.mem_of_getElem? (i := 37) rfl)) rfl, bw_in (lwt_1 (List.mem_of_getElem? (i := 38) rfl)) rfl, bw_in (lwt_1 (List.mem_of_getElem? (i := 3) rfl)) rfl⟩
theorem nw_RX10_38 : NWf RX10 38 8 := ⟨by decide, RX8, TX8, 7, rfl, rfl, iX8, tyX8_ok, by decide, bw_in (lwt_1 (List.mem_of_getElem? (i := 108) rfl)) rfl, bw_in (lwt_4 (List.mem_of_getElem? (i := 8) rfl)) rfl, bw_in (lwt_1 (List.mem_of_getElem? (i := 20) rfl)) rfl⟩
theorem nw_RX10_44 : NWf RX10 44 9 := ⟨by decide, RX9, TX9, 10, rfl, rfl, iX9, tyX9_ok, by decide, bw_in (lwt_1 (List.mem_of_getElem? (i := 110) rfl)) rfl, bw_in (lwt_1 (List.mem_of_getElem? (i := 111) rfl)) rfl, bw_in (lwt_1 (List.mem_of_getElem? (i := 4) rfl)) rfl⟩
theorem nw_RX11_19 : NWf RX11 19 3 := ⟨by decide, RX3, TX3, 3, rfl, rfl, iX3, tyX3_ok, by decide, bw_in (lwt_1 (List.mem_of_getElem? (i := 233) rfl)) rfl, bw_in (lwt_1 (List.mem_of_getElem? (i := 234) rfl)) rfl, bw_in (lwt_1 (List.mem_of_getElem? (i := 5) rfl)) rfl⟩
theorem nw_RX11_28 : NWf RX11 28 0 := ⟨by decide, RX0, TX0, 3, rfl, rfl, iX0, tyX0_ok, by decide, bw_in (lwt_2 (List.mem_of_getElem? (i := 9) rfl)) rfl, bw_in (lwt_2 (List.mem_of_getElem? (i := 10) rfl)) rfl, bw_in (lwt_1 (List.mem_of_getElem? (i := 6) rfl)) rfl⟩
theorem nw_RX0_9 : NWf RX0 9 6 := ⟨by decide, RX6, TX6, 9, rfl, rfl, iX6, tyX6_ok, by decide, bw_in (lwt_2 (List.mem_of_getElem? (i := 15) rfl)) rfl, bw_in (lwt_1 (List.mem_of_getElem? (i := 38) rfl)) rfl, bw_in (lwt_1 (List.mem_of_getElem? (i := 3) rfl)) rfl⟩
theorem nw_RX11_37 : NWf RX11 37 5 := ⟨by decide, RX5, TX5, 17, rfl, rfl, iX5, tyX5_ok, by decide, bw_in (lwt_2 (List.mem_of_getElem? (i := 27) rfl)) rfl, bw_in (lwt_2 (List.mem_of_getElem? (i := 28) rfl)) rfl, bw_in (lwt_1 (List.mem_of_getElem? (i := 7) rfl)) rfl⟩
theorem nw_RX11_44 : NWf RX11 44 7 := ⟨by decide, RX7, TX7, 5, rfl, rfl, iX7, tyX7_ok, by decide, bw_in (lwt_2 (List.mem_of_getElem? (i := 96) rfl)) rfl, bw_in (lwt_2 (List.mem_of_getElem? (i := 97) rfl)) rfl, bw_in (lwt_1 (List.mem_of_getElem? (i := 8) rfl)) rfl⟩
theorem nw_RX11_51 : NWf RX11 51 4 := ⟨by decide, RX4, TX4, 7, rfl, rfl, iX4, tyX4_ok, by decide, bw_in (lwt_2 (List.mem_of_getElem? (i := 118) rfl)) rfl, bw_in (lwt_2 (List.mem_of_getElem? (i := 119) rfl)) rfl, bw_in (lwt_1 (List.mem_of_getElem? (i := 9) rfl)) rfl⟩
theorem nw_RX11_58 : NWf RX11 58 2 := ⟨by decide, RX2, TX2, 4, rfl, rfl, iX2, tyX2_ok, by decide, bw_in (lwt_2 (List.mem_of_getElem? (i := 149) rfl)) rfl, bw_in (lwt_2 (List.mem_of_getElem? (i := 150) rfl)) rfl, bw_in (lwt_1 (List.mem_of_getElem? (i := 10) rfl)) rfl⟩
theorem nw_RX11_65 : NWf RX11 65 1 := ⟨by decide, RX1, TX1, 5, rfl, rfl, iX1, tyX1_ok, by decide, bw_in (lwt_2 (List.mem_of_getElem? (i := 168) rfl)) rfl, bw_in (lwt_2 (List.mem_of_getElem? (i := 169) rfl)) rfl, bw_in (lwt_1 (List.mem_of_getElem? (i := 11) rfl)) rfl⟩
theorem nw_RX5_48 : NWf RX5 48 8 := ⟨by decide, RX8, TX8, 7, rfl, rfl, iX8, tyX8_ok, by decide, bw_in (lwt_4 (List.mem_of_getElem? (i := 7) rfl)) rfl, bw_in (lwt_4 (List.mem_of_getElem? (i := 8) rfl)) rfl, bw_in (lwt_1 (List.mem_of_getElem? (i := 20) rfl)) rfl⟩
theorem nw_RL_10 : NWf RL 10 12 := ⟨by decide, RX12, TX12, 41, rfl, rfl, iX12, tyX12_ok, by decide, bw_in (lwt_6 (List.mem_of_getElem? (i := 148) rfl)) rfl, bw_in (lwt_6 (List.mem_of_getElem? (i := 149) rfl)) rfl, bw_in (lwt_1 (List.mem_of_getElem? (i := 13) rfl)) rfl⟩
theorem oi_RX11_1 : Cond.methodLink RX11 1 objectInit ∈ bigW := bw_in (lwt_1 (List.mem_of_getElem? (i := 28) rfl)) rfl
theorem oi_RX10_3 : Cond.methodLink RX10 3 objectInit ∈ bigW := bw_in (lwt_1 (List.mem_of_getElem? (i := 36) rfl)) rfl
theorem oi_RX6_3 : Cond.methodLink RX6 3 objectInit ∈ bigW := bw_in (lwt_1 (List.mem_of_getElem? (i := 42) rfl)) rfl
theorem oi_RX9_3 : Cond.methodLink RX9 3 objectInit ∈ bigW := bw_in (lwt_1 (List.mem_of_getElem? (i := 115) rfl)) rfl
theorem oi_RX3_3 : Cond.methodLink RX3 3 objectInit ∈ bigW := bw_in (lwt_1 (List.mem_of_getElem? (i := 238) rfl)) rfl
theorem oi_RX0_3 : Cond.methodLink RX0 3 objectInit ∈ bigW := bw_in (lwt_2 (List.mem_of_getElem? (i := 14) rfl)) rfl
theorem oi_RX5_3 : Cond.methodLink RX5 3 objectInit ∈ bigW := bw_in (lwt_2 (List.mem_of_getElem? (i := 32) rfl)) rfl
theorem oi_RX7_3 : Cond.methodLink RX7 3 objectInit ∈ bigW := bw_in (lwt_2 (List.mem_of_getElem? (i := 101) rfl)) rfl
theorem oi_RX4_3 : Cond.methodLink RX4 3 objectInit ∈ bigW := bw_in (lwt_2 (List.mem_of_getElem? (i := 123) rfl)) rfl
theorem oi_RX2_3 : Cond.methodLink RX2 3 objectInit ∈ bigW := bw_in (lwt_2 (List.mem_of_getElem? (i := 154) rfl)) rfl
theorem oi_RX1_3 : Cond.methodLink RX1 3 objectInit ∈ bigW := bw_in (lwt_2 (List.mem_of_getElem? (i := 173) rfl)) rfl
theorem oi_RX8_3 : Cond.methodLink RX8 3 objectInit ∈ bigW := bw_in (lwt_4 (List.mem_of_getElem? (i := 12) rfl)) rfl
theorem oi_RX12_1 : Cond.methodLink RX12 1 objectInit ∈ bigW := bw_in (lwt_6 (List.mem_of_getElem? (i := 153) rfl)) rfl
end Alloc1
