section Lw0
variable {n mc ms : Nat} {M : Md} {pc : Nat} {lv lv2 : List (Nat × Value)} {st : List Value} {k j : Nat} {Post : PT} {S : Sh} {I : CI} {R : CR} {b0 Ln : Nat} {xs : Nat → Int32}
/-- the script lies at b0, outside what may change -/
def SX (b0 Ln : Nat) (xs : Nat → Int32) (s : State) (A : Nat → Prop) : Prop := va_X b0 Ln xs s s.heap ∧ b0 < s.heap.size ∧ ¬ A b0
def LwP (b0 Ln : Nat) (xs : Nat → Int32) (n mc ms : Nat) (M : Md) (Post : PT) (pc : Nat) (lv : List (Nat × Value)) (st : List Value) (k j : Nat) (S : Sh) (I : CI) (R : CR) : Prop :=
  ∀ (l : Launch) (p : Program) (e : Env) (s : State) (m : MethodId) (args : Array Value) (below : List Frame) (meth : Method) (c : Code) (D : va_G) (cy : Nat → ClassId) (A : Nat → Prop) (H : Heap) (locs : List Loc) (ls : Array Slot),
    SX b0 Ln xs s A → Cx M p s m args meth c D cy S A → lv_has ls M.2.2.1 lv → va_P D vwCl (pW cy S I R) H → va_D A (pW cy S I R) → va_S A s.heap H locs →
    W p l e (rmN n mc ms) s m args below meth c H locs k j (MQ below (QcP D cy S.2.2.2.2 Post A) args s mc ms A) (F0 m pc ls st)
abbrev mL_law : Md := (yL_law, code, 4, some .boolean)
theorem y_iconst {z : Int} (d : decode M.2.1 pc = .ok (.iconst z, 1))  (h : LwP b0 Ln xs n mc ms M Post (pc + 1) lv (.int (iI z) :: st) k j S I R) : LwP b0 Ln xs n mc ms M Post pc lv st k j S I R := by
  intro l p e s m args below meth c D cy A H locs ls hX C hl hP hD hS
  refine lv_iconst C.1 C.2.1 d rfl ?_
  exact h l p e s m args below meth c D cy A H locs ls hX C hl hP hD hS
theorem y_bipush {z : Int} (d : decode M.2.1 pc = .ok (.bipush z, 2)) (hz : -128 ≤ z ∧ z < 128) (h : LwP b0 Ln xs n mc ms M Post (pc + 2) lv (.int (iI z) :: st) k j S I R) : LwP b0 Ln xs n mc ms M Post pc lv st k j S I R := by
  intro l p e s m args below meth c D cy A H locs ls hX C hl hP hD hS
  refine lv_bipush C.1 C.2.1 d (v := iI z) (by rw [← Int32.toInt_inj, Int8.toInt_toInt32, Int8.toInt_ofInt, show Int8.size = 256 from rfl, iI_toInt (by omega) (by omega)]; exact Int.bmod_eq_of_le (by omega) (by omega)) ?_
  exact h l p e s m args below meth c D cy A H locs ls hX C hl hP hD hS
theorem y_iload_n {i : Fin 4} {x : Int} (d : decode M.2.1 pc = .ok (.iload_n i, 1)) (hv : lv.lookup (i : Nat) = some (.int (iI x))) (h : LwP b0 Ln xs n mc ms M Post (pc + 1) lv (.int (iI x) :: st) k j S I R) : LwP b0 Ln xs n mc ms M Post pc lv st k j S I R := by
  intro l p e s m args below meth c D cy A H locs ls hX C hl hP hD hS
  refine lv_iload_n C.1 C.2.1 d rfl (lk_of hl hv) ?_
  exact h l p e s m args below meth c D cy A H locs ls hX C hl hP hD hS
theorem y_aload_n {i : Fin 4} {x : Nat} (d : decode M.2.1 pc = .ok (.aload_n i, 1)) (hv : lv.lookup (i : Nat) = some (.ref x)) (h : LwP b0 Ln xs n mc ms M Post (pc + 1) lv (.ref x :: st) k j S I R) : LwP b0 Ln xs n mc ms M Post pc lv st k j S I R := by
  intro l p e s m args below meth c D cy A H locs ls hX C hl hP hD hS
  refine lv_aload_n C.1 C.2.1 d rfl (lk_of hl hv) ?_
  exact h l p e s m args below meth c D cy A H locs ls hX C hl hP hD hS
theorem y_istore_n {i : Fin 4} {x : Int} (d : decode M.2.1 pc = .ok (.istore_n i, 1)) (hn : (i : Nat) < M.2.2.1) (hl2 : ((i : Nat), Value.int (iI x)) :: lv.filter (fun q => !(q.1 == (i : Nat)) && !(q.1 + 1 == (i : Nat) && q.2.category == 2)) = lv2) (h : LwP b0 Ln xs n mc ms M Post (pc + 1) lv2 st k j S I R) : LwP b0 Ln xs n mc ms M Post pc lv (Value.int (iI x) :: st) k j S I R := by
  intro l p e s m args below meth c D cy A H locs ls hX C hl hP hD hS
  refine lv_istore_n C.1 C.2.1 d rfl hl hn hl2 (fun ls hl => ?_)
  exact h l p e s m args below meth c D cy A H locs ls hX C hl hP hD hS
theorem y_astore_n {i : Fin 4} {x : Nat} (d : decode M.2.1 pc = .ok (.astore_n i, 1)) (hn : (i : Nat) < M.2.2.1) (hl2 : ((i : Nat), Value.ref x) :: lv.filter (fun q => !(q.1 == (i : Nat)) && !(q.1 + 1 == (i : Nat) && q.2.category == 2)) = lv2) (h : LwP b0 Ln xs n mc ms M Post (pc + 1) lv2 st k j S I R) : LwP b0 Ln xs n mc ms M Post pc lv (Value.ref x :: st) k j S I R := by
  intro l p e s m args below meth c D cy A H locs ls hX C hl hP hD hS
  refine lv_astore_n C.1 C.2.1 d rfl hl hn hl2 (fun ls hl => ?_)
  exact h l p e s m args below meth c D cy A H locs ls hX C hl hP hD hS
theorem y_iinc {i : Nat} {z x : Int} (d : decode M.2.1 pc = .ok (.iinc i z, 3)) (hv : lv.lookup i = some (.int (iI x))) (hn : i < M.2.2.1) (hl2 : (i, Value.int (iI (x + z))) :: lv.filter (fun q => !(q.1 == i) && !(q.1 + 1 == i && q.2.category == 2)) = lv2) (h : LwP b0 Ln xs n mc ms M Post (pc + 3) lv2 st k j S I R) : LwP b0 Ln xs n mc ms M Post pc lv st k j S I R := by
  intro l p e s m args below meth c D cy A H locs ls hX C hl hP hD hS
  have hm : (i, Value.int (iI x)) ∈ lv := by
    clear hl2 h d hl hP hD hS C
    induction lv with
    | nil => simp at hv
    | cons q r ih =>
      obtain ⟨a, b⟩ := q
      simp only [List.lookup] at hv
      by_cases ha : i = a
      · subst ha; simp at hv; subst hv; exact List.mem_cons_self
      · have : (i == a) = false := by simp [ha]
        rw [this] at hv
        exact List.mem_cons_of_mem _ (ih hv)
  obtain ⟨kk, hkk⟩ := List.getElem?_of_mem hm
  refine lv_iinc C.1 C.2.1 d hl hkk (v := iI (x + z)) (by rw [← iI_add]; rfl) hn hl2 (fun ls hl => ?_)
  exact h l p e s m args below meth c D cy A H locs ls hX C hl hP hD hS
theorem y_iadd {x y : Int} (d : decode M.2.1 pc = .ok (.iadd, 1))  (h : LwP b0 Ln xs n mc ms M Post (pc + 1) lv (.int (iI (x + y)) :: st) k j S I R) : LwP b0 Ln xs n mc ms M Post pc lv (.int (iI y) :: .int (iI x) :: st) k j S I R := by
  intro l p e s m args below meth c D cy A H locs ls hX C hl hP hD hS
  refine lv_iadd C.1 C.2.1 d ?_
  rw [iI_add]
  exact h l p e s m args below meth c D cy A H locs ls hX C hl hP hD hS
theorem y_isub {x y : Int} (d : decode M.2.1 pc = .ok (.isub, 1))  (h : LwP b0 Ln xs n mc ms M Post (pc + 1) lv (.int (iI (x - y)) :: st) k j S I R) : LwP b0 Ln xs n mc ms M Post pc lv (.int (iI y) :: .int (iI x) :: st) k j S I R := by
  intro l p e s m args below meth c D cy A H locs ls hX C hl hP hD hS
  refine lv_isub C.1 C.2.1 d ?_
  rw [iI_sub]
  exact h l p e s m args below meth c D cy A H locs ls hX C hl hP hD hS
theorem y_dup {v : Value} (d : decode M.2.1 pc = .ok (.dup, 1)) (hv : v.category = 1) (h : LwP b0 Ln xs n mc ms M Post (pc + 1) lv (v :: v :: st) k j S I R) : LwP b0 Ln xs n mc ms M Post pc lv (v :: st) k j S I R := by
  intro l p e s m args below meth c D cy A H locs ls hX C hl hP hD hS
  refine lv_dup C.1 C.2.1 d hv ?_
  exact h l p e s m args below meth c D cy A H locs ls hX C hl hP hD hS
theorem y_icmp_gt {x y off : Int} (tgt : Nat) (d : decode M.2.1 pc = .ok (.if_icmp .gt off, 3)) (ht : (pc : Int) + off = (tgt : Int)) (hr : (-2147483648 ≤ x ∧ x < 2147483648) ∧ (-2147483648 ≤ y ∧ y < 2147483648)) (h1 : y < x → LwP b0 Ln xs n mc ms M Post tgt lv st k j S I R) (h2 : ¬ (y < x) → LwP b0 Ln xs n mc ms M Post (pc + 3) lv st k j S I R) : LwP b0 Ln xs n mc ms M Post pc lv (.int (iI y) :: .int (iI x) :: st) k j S I R := by
  intro l p e s m args below meth c D cy A H locs ls hX C hl hP hD hS
  refine lv_icmp_gt C.1 C.2.1 d ht (fun q => ?_) (fun q => ?_)
  · exact h1 (by first | exact (iI_lt hr.2 hr.1).mp q | exact fun z => q ((iI_lt hr.2 hr.1).mpr z)) l p e s m args below meth c D cy A H locs ls hX C hl hP hD hS
  · exact h2 (by first | exact fun z => q ((iI_lt hr.2 hr.1).mpr z) | exact fun z => z ((iI_lt hr.2 hr.1).mp q)) l p e s m args below meth c D cy A H locs ls hX C hl hP hD hS
theorem y_goto {off : Int} (tgt : Nat) (d : decode M.2.1 pc = .ok (.goto off, 3)) (ht : (pc : Int) + off = (tgt : Int)) (h : LwP b0 Ln xs n mc ms M Post tgt lv st k j S I R) : LwP b0 Ln xs n mc ms M Post pc lv st k j S I R := by
  intro l p e s m args below meth c D cy A H locs ls hX C hl hP hD hS
  exact lv_goto C.1 C.2.1 d ht (h l p e s m args below meth c D cy A H locs ls hX C hl hP hD hS)
theorem y_zreturn {x : Int} (hx : x = 0 ∨ x = 1) (d : decode M.2.1 pc = .ok (.ireturn, 1)) (hret : M.2.2.2 = some .boolean) (hk : k ≤ mc) (hj : j ≤ ms) (h : Post (some (.int (iI x))) S I R) : LwP b0 Ln xs n mc ms M Post pc lv [.int (iI x)] k j S I R := by
  intro l p e s m args below meth c D cy A H locs ls hX C hl hP hD hS
  refine W.widen hk hj ?_
  have hlocks := C.2.2.2.2.1
  exact W.zret C.1 C.2.1 (C.2.2.2.1.trans hret) (ty := .boolean) (by rcases hx with rfl | rfl <;> rfl) (fun t ht hW => ⟨⟨_, S, I, R, rfl, h, by rw [ht]; exact hP, hD, rfl⟩, hS.F ht⟩) hS.2.2 d
theorem y_sub (ks : List Nat) (hk : lv_pick lv ks = lv2) (h : LwP b0 Ln xs n mc ms M Post pc lv2 st k j S I R) : LwP b0 Ln xs n mc ms M Post pc lv st k j S I R := by
  intro l p e s m args below meth c D cy A H locs ls hX C hl hP hD hS
  exact h l p e s m args below meth c D cy A H locs ls hX C (lv_sub hl ks hk) hP hD hS
theorem y_if_eq {x off : Int} (tgt : Nat) (d : decode M.2.1 pc = .ok (.ifCond .eq off, 3)) (ht : (pc : Int) + off = (tgt : Int)) (hr : -2147483648 ≤ x ∧ x < 2147483648) (h1 : x = 0 → LwP b0 Ln xs n mc ms M Post tgt lv st k j S I R) (h2 : ¬ (x = 0) → LwP b0 Ln xs n mc ms M Post (pc + 3) lv st k j S I R) : LwP b0 Ln xs n mc ms M Post pc lv (.int (iI x) :: st) k j S I R := by
  intro l p e s m args below meth c D cy A H locs ls hX C hl hP hD hS
  refine lv_if_eq C.1 C.2.1 d ht (fun q => ?_) (fun q => ?_)
  · exact h1 (by first | exact (iI_eq (y := 0) hr (by omega)).mp q | exact fun z => q ((iI_eq (y := 0) hr (by omega)).mpr z)) l p e s m args below meth c D cy A H locs ls hX C hl hP hD hS
  · exact h2 (by first | exact fun z => q ((iI_eq (y := 0) hr (by omega)).mpr z) | exact fun z => z ((iI_eq (y := 0) hr (by omega)).mp q)) l p e s m args below meth c D cy A H locs ls hX C hl hP hD hS
theorem y_iand {x y : Int} (d : decode M.2.1 pc = .ok (.iand, 1))  (h : LwP b0 Ln xs n mc ms M Post (pc + 1) lv (.int (iI (andI x y)) :: st) k j S I R) : LwP b0 Ln xs n mc ms M Post pc lv (.int (iI y) :: .int (iI x) :: st) k j S I R := by
  intro l p e s m args below meth c D cy A H locs ls hX C hl hP hD hS
  refine lv_iand C.1 C.2.1 d ?_
  have e0 := iI_of (iI x &&& iI y)
  rw [e0]
  exact h l p e s m args below meth c D cy A H locs ls hX C hl hP hD hS
theorem y_tableIn {x dflt lo hi off : Int} {offs : Array Int} {len : Nat} (tgt : Nat) (d : decode M.2.1 pc = .ok (.tableswitch dflt lo hi offs, len)) (hr : Rg x) (hx : lo ≤ x ∧ x ≤ hi) (ho : offs[(x - lo).toNat]? = some off) (ht : (pc : Int) + off = (tgt : Int)) (h : LwP b0 Ln xs n mc ms M Post tgt lv st k j S I R) : LwP b0 Ln xs n mc ms M Post pc lv (.int (iI x) :: st) k j S I R := by
  intro l p e s m args below meth c D cy A H locs ls hX C hl hP hD hS
  refine lv_tableIn C.1 C.2.1 d (by rw [iI_toInt hr.1 hr.2]; omega) (by rw [iI_toInt hr.1 hr.2]; omega) (by rw [iI_toInt hr.1 hr.2]; exact ho) ht ?_
  exact h l p e s m args below meth c D cy A H locs ls hX C hl hP hD hS
theorem y_tableOut {x dflt lo hi : Int} {offs : Array Int} {len : Nat} (tgt : Nat) (d : decode M.2.1 pc = .ok (.tableswitch dflt lo hi offs, len)) (hr : Rg x) (hx : x < lo ∨ hi < x) (ht : (pc : Int) + dflt = (tgt : Int)) (h : LwP b0 Ln xs n mc ms M Post tgt lv st k j S I R) : LwP b0 Ln xs n mc ms M Post pc lv (.int (iI x) :: st) k j S I R := by
  intro l p e s m args below meth c D cy A H locs ls hX C hl hP hD hS
  refine lv_tableOut C.1 C.2.1 d (by rw [iI_toInt hr.1 hr.2]; exact hx) ht ?_
  exact h l p e s m args below meth c D cy A H locs ls hX C hl hP hD hS
theorem y_new {idx ci : Nat} (d : decode M.2.1 pc = .ok (.new idx, 3)) (nw : NWf M.1.cls idx ci) (hrb : RB S R) (hk : k + 1 ≤ mc) (hj : j + nfd ci ≤ ms) (h : ∀ S2 : Sh, Nw S S2 ci 0 → LwP b0 Ln xs n mc ms M Post (pc + 3) lv (.ref (S2.2.1 S.1) :: st) (k + 1) (j + nfd ci) S2 (zI I S.1) (zR R S.1)) : LwP b0 Ln xs n mc ms M Post pc lv st k j S I R := by
  intro l p e s m args below meth c D cy A H locs ls hX C hl hP hD hS
  obtain ⟨hc, C2, T, N, e1, e2, e4, e5, e6, e7, e8, e9⟩ := nw
  subst e2
  have cx := C.2.2.2.2.2.2.2.1
  refine va_new C.1 C.2.1 (own := M.1.cls) cx (fun w hw => List.mem_cons_of_mem _ (e4 w hw)) (fty ci) e5 C.2.2.2.2.2.1 (cx _ (List.mem_cons_of_mem _ e7)) (cx _ (List.mem_cons_of_mem _ e8)) (cx _ (List.mem_cons_of_mem _ e9)) C.2.2.2.2.2.2.2.2.1.1 hP hD hS C.2.2.2.2.2.2.2.2.2 e1 (fs := fl ci (fun _ => 0) (fun _ => none)) (fs_ok (T := fty ci) e6) hk hj d (fun q H1 g1 g2 g3 => ?_)
  have hpe : pE cy (nS S q ci 0) (zI I S.1) (zR R S.1) S.1 = .inr (ci, fl ci (fun _ => 0) (fun _ => none)) := by
    have h1 : (nS S q ci 0).2.2.1 S.1 = ci := if_pos rfl
    have h2 : zI I S.1 S.1 = fun _ => 0 := by funext x; exact zI_s _ _ _
    have h3 : (fun x => (zR R S.1 S.1 x).map (nS S q ci 0).2.1) = fun _ => none := by funext x; rw [zR_s]; rfl
    unfold pE
    rw [h1, h2, h3, if_pos hc]
  rw [pw_push hrb hpe] at g1 g2
  have h9 := h (nS S q ci 0) nw_nS l p e s m args below meth c D cy A H1 locs ls hX C hl g1 g2 g3
  rw [nS_q] at h9
  exact h9
theorem LwP.after {rest st0 : List Value} {Post1 : PT} {mc1 ms1 : Nat} (h : ∀ v S' I' R', Post1 v S' I' R' → LwP b0 Ln xs n mc ms M Post (pc + 3) lv (v.toList ++ rest) (k + mc1) (j + ms1) S' I' R')
    {l : Launch} {p : Program} {e : Env} {s : State} {m : MethodId} {args : Array Value} {below : List Frame} {meth : Method} {c : Code} {D : va_G} {cy : Nat → ClassId} {A : Nat → Prop} {H : Heap} {locs : List Loc} {ls : Array Slot} {a : Array Value}
    (hX : SX b0 Ln xs s A) (C : Cx M p s m args meth c D cy S A) (hl : lv_has ls M.2.2.1 lv) (hD : va_D A (pW cy S I R)) (hS : va_S A s.heap H locs)
    (hr : va_Run p l e (rmN n mc ms) s m args below meth c H locs k j mc1 ms1 (F0 m pc ls st0) rest (QcP D cy S.2.2.2.2 Post1 (va_A (pW cy S I R) H.size) a) (va_A (pW cy S I R) H.size)) :
    W p l e (rmN n mc ms) s m args below meth c H locs k j (MQ below (QcP D cy S.2.2.2.2 Post A) args s mc ms A) (F0 m pc ls st0) := by
  have hF : ∀ q, va_A (pW cy S I R) H.size q → A q := by
    intro q hq
    rcases hq with ⟨i, e2, hi⟩ | hq
    · exact hD.2 i _ hi
    · exact C.2.2.2.2.2.2.2.2.2 q (Nat.le_trans hS.1 hq)
  intro T hT X
  obtain ⟨v, st₀, t, T', L, h0, X', hL, e1, e2, ⟨⟨v', S', I', R', hv, hp, hP', hD', hsa⟩, hz, hk⟩, stp⟩ := hr T hT X
  cases hv
  rw [h0] at hz hk
  have hS' : va_S A s.heap T'.heap (locs ++ L) := ⟨Nat.le_trans hS.1 (by rw [e1]; exact hz), fun q h1 h2 => by
      rw [e1, hk q (Nat.lt_of_lt_of_le h1 hS.1) (fun z => h2 (hF q z))]; exact hS.2.1 q h1 h2, fun q hq => by
      rcases List.mem_append.mp hq with h | h
      · exact hS.2.2 q h
      · exact hF _ (hL q h)⟩
  have C' : Cx M p s m args meth c D cy S' A := by
    unfold Cx KK at C ⊢
    rw [hsa]
    exact C
  have := h v S' I' R' hp l p e s m args below meth c D cy A T'.heap (locs ++ L) ls hX C' hl (by rw [e1]; exact hP') (hD'.weaken (fun _ _ _ h => hF _ h)) hS'
  rw [hsa] at this
  obtain ⟨t2, a1, b1⟩ := this T' rfl X'
  exact ⟨t2, stp t2 a1, b1⟩
theorem y_callV {M1 : Md} {idx ci b n1 mc1 ms1 : Nat} (As rest : List Value) {st0 : List Value} (d : decode M.2.1 pc = .ok (.invokevirtual idx, 3)) (cv : CVf M.1.cls idx M1 As.length) (hb : OB S b ci) (hc : vwCl[ci]?.map (fun q => q.1) = some M1.1.cls) (hst : st0 = As.reverse ++ .ref (S.2.1 b) :: rest) (hrest : (rest.map fun v => v.category).sum ≤ 8) (hn : n1 + 1 ≤ n) (hk : k + mc1 ≤ mc) (hj : j + ms1 ≤ ms) (h : Call n1 mc1 ms1 M1 (.ref (S.2.1 b) :: As) S I R (fun v S' I' R' => LwP b0 Ln xs n mc ms M Post (pc + 3) lv (v.toList ++ rest) (k + mc1) (j + ms1) S' I' R')) : LwP b0 Ln xs n mc ms M Post pc lv st0 k j S I R := by
  intro l p e s m args below meth c D cy A H locs ls hX C hl hP hD hS
  obtain ⟨q, hq, hq1⟩ : ∃ q, vwCl[ci]? = some q ∧ q.1 = M1.1.cls := by
    cases hx : vwCl[ci]? with
    | none => rw [hx] at hc; cases hc
    | some q => rw [hx] at hc; exact ⟨q, rfl, Option.some.inj hc⟩
  have hci : ci < 13 := (List.getElem?_eq_some_iff.mp hq).1
  refine LwP.after (fun _ _ _ _ q => q) hX C hl hD hS (va_runV (As := As) (rest := rest) ⟨C.1, C.2.1, C.2.2.1, C.2.2.2.2.2.1, C.2.2.2.2.2.2.2.1⟩ (h l D cy H.size) ⟨callB_of As.length C.2.2.2.2.2.2.2.1 (gi_md cv.1.2.1) rfl rfl rfl (C.2.2.2.2.2.2.2.1 _ (List.mem_cons_of_mem _ cv.1.1)) (C.2.2.2.2.2.2.2.1 _ (List.mem_cons_of_mem _ cv.2.1)) cv.1.2.2.2 (rm_ok hn cv.1.2.2.1), (C.2.2.2.2.2.2.2.1 _ (List.mem_cons_of_mem _ cv.2.2.1)), (C.2.2.2.2.2.2.2.1 _ (List.mem_cons_of_mem _ cv.2.2.2))⟩ ⟨fun a U g mk q => by obtain ⟨q0, q1, qP, qK, qD⟩ := q; exact ⟨q0, q1, qP, qK.calls g mk a, qD⟩, by rw [← hq1]; exact va_recv C.2.2.2.2.2.2.2.2.1.1 hP hq (by rw [pw_get hb.1, pE_ob hb hci]), fun U hU hW => ⟨rfl, by rw [hU], by rw [hU]; exact hP, C.2.2.2.2.2.2.2.2.1.move (locs := locs) (by rw [hU]; exact hS) hW (WP.free C hD hS), hD.weaken (fun _ _ _ _ => trivial)⟩⟩ rfl rfl hl.1 hst (lv_room hrest) d ⟨hk, hj⟩)
theorem y_callI {M1 : Md} {idx b n1 mc1 ms1 : Nat} (As rest : List Value) {st0 : List Value} (d : decode M.2.1 pc = .ok (.invokespecial idx, 3)) (cv : CIf M.1.cls idx M1 As.length) (hst : st0 = As.reverse ++ .ref (S.2.1 b) :: rest) (hrest : (rest.map fun v => v.category).sum ≤ 8) (hn : n1 + 1 ≤ n) (hk : k + mc1 ≤ mc) (hj : j + ms1 ≤ ms) (h : Call n1 mc1 ms1 M1 (.ref (S.2.1 b) :: As) S I R (fun v S' I' R' => LwP b0 Ln xs n mc ms M Post (pc + 3) lv (v.toList ++ rest) (k + mc1) (j + ms1) S' I' R')) : LwP b0 Ln xs n mc ms M Post pc lv st0 k j S I R := by
  intro l p e s m args below meth c D cy A H locs ls hX C hl hP hD hS
  obtain ⟨y1, bb, mL, rr⟩ := M1
  have hrr : rr = none := cv.2.2.2.2
  subst hrr
  refine LwP.after (fun _ _ _ _ q => q) hX C hl hD hS (va_runI (As := As) (rest := rest) ⟨C.1, C.2.1, C.2.2.1, C.2.2.2.2.2.1, C.2.2.2.2.2.2.2.1⟩ (h l D cy H.size) ⟨callB_of As.length C.2.2.2.2.2.2.2.1 (gi_md cv.1.2.1) rfl rfl rfl (C.2.2.2.2.2.2.2.1 _ (List.mem_cons_of_mem _ cv.1.1)) (C.2.2.2.2.2.2.2.1 _ (List.mem_cons_of_mem _ cv.2.1)) cv.1.2.2.2 (rm_ok hn cv.1.2.2.1), cv.2.2.2.1, (C.2.2.2.2.2.2.2.1 _ (List.mem_cons_of_mem _ cv.2.2.1))⟩ ⟨fun a U g mk q => by obtain ⟨q0, q1, qP, qK, qD⟩ := q; exact ⟨q0, q1, qP, qK.calls g mk a, qD⟩, fun U hU hW => ⟨rfl, by rw [hU], by rw [hU]; exact hP, C.2.2.2.2.2.2.2.2.1.move (locs := locs) (by rw [hU]; exact hS) hW (WP.free C hD hS), hD.weaken (fun _ _ _ _ => trivial)⟩⟩ rfl rfl hl.1 hst (lv_room hrest) d ⟨hk, hj⟩)
theorem y_sld {z : Int} (d : decode M.2.1 pc = .ok (.iaload, 1)) (h0 : 0 ≤ z) (h1 : z < Ln) (hL : Ln ≤ 3072) (h : LwP b0 Ln xs n mc ms M Post (pc + 1) lv (.int (iI (xs z.toNat).toInt) :: st) k j S I R) : LwP b0 Ln xs n mc ms M Post pc lv (.int (iI z) :: .ref b0 :: st) k j S I R := by
  intro l p e s m args below meth c D cy A H locs ls hX C hl hP hD hS
  have e1 : (iI z).toNatClampNeg = z.toNat := iI_clamp h0 (by omega)
  refine va_sld C.1 C.2.1 hX.1 hX.2.1 hX.2.2 hS (i := iI z) ?_ d ?_
  · intro q
    rcases q with q | q
    · rw [show (0 : Int32) = iI 0 from rfl, iI_lt (by omega) (by omega)] at q
      omega
    · rw [e1] at q
      omega
  · rw [e1, iI_of (xs z.toNat)]
    have := h l p e s m args below meth c D cy A H locs ls hX C hl hP hD hS
    exact this
theorem y_slen (d : decode M.2.1 pc = .ok (.arraylength, 1)) (h : LwP b0 Ln xs n mc ms M Post (pc + 1) lv (.int (iI (Ln : Int)) :: st) k j S I R) : LwP b0 Ln xs n mc ms M Post pc lv (.ref b0 :: st) k j S I R := by
  intro l p e s m args below meth c D cy A H locs ls hX C hl hP hD hS
  refine va_slen C.1 C.2.1 hX.1 hX.2.1 hX.2.2 hS d ?_
  exact h l p e s m args below meth c D cy A H locs ls hX C hl hP hD hS
theorem y_same {x off : Int} (tgt : Nat) (d : decode M.2.1 pc = .ok (.if_icmp .eq off, 3)) (ht : (pc : Int) + off = (tgt : Int)) (h : LwP b0 Ln xs n mc ms M Post tgt lv st k j S I R) : LwP b0 Ln xs n mc ms M Post pc lv (.int (iI x) :: .int (iI x) :: st) k j S I R := by
  intro l p e s m args below meth c D cy A H locs ls hX C hl hP hD hS
  exact lv_icmp_eq C.1 C.2.1 d ht (fun _ => h l p e s m args below meth c D cy A H locs ls hX C hl hP hD hS) (fun q => absurd rfl q)
theorem y_one (tgt : Nat) {x : Int} {off : Int} (d : decode M.2.1 pc = .ok (.if_icmp .ne off, 3)) (h : LwP b0 Ln xs n mc ms M Post (pc + 3) lv st k j S I R) (ht : (pc : Int) + off = (tgt : Int)) : LwP b0 Ln xs n mc ms M Post pc lv (.int (iI x) :: .int (iI x) :: st) k j S I R := by
  intro l p e s m args below meth c D cy A H locs ls hX C hl hP hD hS
  exact lv_icmp_ne C.1 C.2.1 d ht (fun q => absurd rfl q) (fun _ => h l p e s m args below meth c D cy A H locs ls hX C hl hP hD hS)
theorem y_arg {z q : Int} (d1 : decode M.2.1 pc = .ok (.aload_n 0, 1)) (d2 : decode M.2.1 (pc + 1) = .ok (.iload_n 3, 1)) (d3 : decode M.2.1 (pc + 2) = .ok (.iconst q, 1)) (d4 : decode M.2.1 (pc + 3) = .ok (.iadd, 1)) (d5 : decode M.2.1 (pc + 4) = .ok (.iaload, 1)) (h0 : lv.lookup 0 = some (.ref b0)) (h3 : lv.lookup 3 = some (.int (iI z))) (hz : 0 ≤ z + q) (hz2 : z + q < Ln) (hL : Ln ≤ 3072) (h : LwP b0 Ln xs n mc ms M Post (pc + 5) lv (.int (iI (xs (z + q).toNat).toInt) :: st) k j S I R) : LwP b0 Ln xs n mc ms M Post pc lv st k j S I R := by
  refine y_aload_n (i := 0) d1 h0 ?_
  refine y_iload_n (i := 3) (x := z) d2 h3 ?_
  refine y_iconst (z := q) d3 ?_
  refine y_iadd (x := z) (y := q) d4 ?_
  exact y_sld (z := z + q) d5 hz hz2 hL h
def bI (z : Int) : Int := if z = 0 then 0 else 1
theorem bI_rg (z : Int) : bI z = 0 ∨ bI z = 1 := by
  unfold bI; split <;> simp
theorem y_bool {z : Int} (hz : -2147483648 ≤ z ∧ z < 2147483648) (d1 : decode M.2.1 pc = .ok (.ifCond .eq 7, 3)) (d2 : decode M.2.1 (pc + 3) = .ok (.iconst 1, 1)) (d3 : decode M.2.1 (pc + 4) = .ok (.goto 4, 3)) (d4 : decode M.2.1 (pc + 7) = .ok (.iconst 0, 1)) (h : LwP b0 Ln xs n mc ms M Post (pc + 8) lv (.int (iI (bI z)) :: st) k j S I R) : LwP b0 Ln xs n mc ms M Post pc lv (.int (iI z) :: st) k j S I R := by
  refine y_if_eq (x := z) (pc + 7) d1 (by omega) hz (fun e => ?_) (fun e => ?_)
  · refine y_iconst (z := 0) d4 ?_
    have e1 : bI z = 0 := if_pos e
    rw [e1] at h; exact h
  · refine y_iconst (z := 1) d2 ?_
    refine y_goto (pc + 8) d3 (by omega) ?_
    have e1 : bI z = 1 := if_neg e
    rw [e1] at h; exact h
end Lw0
