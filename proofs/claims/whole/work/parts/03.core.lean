/-! CORE: a method's walk over a world of pooled cells that hold whole numbers (Int) and references; the machine's clutter is hidden in WP and Call. -/
def bigW : List Cond := lw_tbl.filter goodWord
theorem bw_in {w : Cond} (h : w ∈ lw_tbl) (g : goodWord w = true) : w ∈ bigW := List.mem_filter.mpr ⟨h, g⟩
theorem bw_good : GoodIn bigW bigW := fun w h => ⟨h, good_of_word (List.mem_filter.mp h).2⟩
abbrev wsM (M : Md) : List Cond := .code M.1 M.2.1 M.2.2.1 M.2.2.2 :: bigW
def rmN (n mc ms : Nat) : Room := { frames := n, cells := mc, slots := ms, locals := 64 * n }
def iI (z : Int) : Int32 := Int32.ofInt z
def lI (z : Int) : Int64 := Int64.ofInt z
/-- a shape: how many cells there are, where each lies, of what kind it is, how long; where the text constants lie (their objects at 0, 1, their bytes at 2, 3) -/
abbrev Sh : Type := Nat × (Nat → Nat) × (Nat → Nat) × (Nat → Nat) × (Nat → Nat)
abbrev CI : Type := Nat → Nat → Int
abbrev CR : Type := Nat → Nat → Option Nat
abbrev PT : Type := Option Value → Sh → CI → CR → Prop
def uI (I : CI) (a i : Nat) (v : Int) : CI := fun b j => if b = a ∧ j = i then v else I b j
def uR (R : CR) (a i : Nat) (v : Option Nat) : CR := fun b j => if b = a ∧ j = i then v else R b j
def fv (ty : FieldType) (z : Int) (r : Option Nat) : Value := match ty with
  | .int => .int (iI z)
  | .boolean => .int (iI z)
  | .long => .long (lI z)
  | _ => va_rf r
def fty (ci : Nat) : Nat → FieldType := match ci with
  | 0 => tyX0 | 1 => tyX1 | 2 => tyX2 | 3 => tyX3 | 4 => tyX4 | 5 => tyX5 | 6 => tyX6 | 7 => tyX7 | 8 => tyX8 | 9 => tyX9 | 10 => tyX10 | 11 => tyX11 | _ => tyX12
def nfd (ci : Nat) : Nat := match ci with
  | 0 => 3 | 1 => 5 | 2 => 4 | 3 => 3 | 4 => 7 | 5 => 17 | 6 => 9 | 7 => 5 | 8 => 7 | 9 => 10 | 10 => 13 | 11 => 9 | _ => 41
def fl (ci : Nat) (I : Nat → Int) (R : Nat → Option Nat) : List Value := (List.range (nfd ci)).map (fun k => fv (fty ci k) (I k) (R k))
def pE (cy : Nat → ClassId) (S : Sh) (I : CI) (R : CR) (a : Nat) : va_E :=
  if S.2.2.1 a < 13 then .inr (S.2.2.1 a, fl (S.2.2.1 a) (I a) (fun k => (R a k).map S.2.1))
  else if S.2.2.1 a = 13 then .inl (cy 0, S.2.2.2.1 a, .inl (fun i => iI (I a i)))
  else if S.2.2.1 a = 14 then .inl (cy 1, S.2.2.2.1 a, .inr (.inl (fun i => lI (I a i))))
  else if S.2.2.1 a = 15 then .inl (cy 2, S.2.2.2.1 a, .inl (fun i => iI (I a i)))
  else if S.2.2.1 a = 16 then .inl (cy 3, S.2.2.2.1 a, .inr (.inr (.inr (.inr (fun k => (R a k).map S.2.1)))))
  else .inl (cy 4, S.2.2.2.1 a, .inr (.inr (.inr (.inr (fun k => (R a k).map S.2.1)))))
def pW (cy : Nat → ClassId) (S : Sh) (I : CI) (R : CR) : va_W := (List.range S.1).map (fun i => (S.2.1 i, pE cy S I R i))
theorem pw_get {cy : Nat → ClassId} {S : Sh} {I : CI} {R : CR} {a : Nat} (h : a < S.1) : (pW cy S I R)[a]? = some (S.2.1 a, pE cy S I R a) := by
  simp [pW, h]
theorem pw_set {cy : Nat → ClassId} {S : Sh} {I I' : CI} {R R' : CR} {a : Nat} {e : va_E} (he : pE cy S I' R' a = e) (ho : ∀ b, b ≠ a → pE cy S I' R' b = pE cy S I R b) : (pW cy S I R).set a (S.2.1 a, e) = pW cy S I' R' := by
  apply List.ext_getElem?
  intro i
  by_cases hi : i = a
  · subst hi
    by_cases hl : i < S.1
    · rw [List.getElem?_set_self (by simpa [pW] using hl), pw_get hl, he]
    · rw [List.getElem?_eq_none (by simpa [pW] using hl), List.getElem?_eq_none (by simpa [pW] using hl)]
  · rw [List.getElem?_set_ne (Ne.symm hi)]
    by_cases hl : i < S.1
    · rw [pw_get hl, pw_get hl, ho i hi]
    · rw [List.getElem?_eq_none (by simpa [pW] using hl), List.getElem?_eq_none (by simpa [pW] using hl)]
abbrev tysL (cy : Nat → ClassId) : List (ClassId × FieldType) := [(cy 0, .int), (cy 1, .long), (cy 2, .boolean), (cy 3, .object RX6), (cy 4, .object RX8)]
/-- an object of kind ci; an array of kind kd with N places -/
def OB (S : Sh) (a ci : Nat) : Prop := a < S.1 ∧ S.2.2.1 a = ci
def AR (S : Sh) (a kd N : Nat) : Prop := a < S.1 ∧ S.2.2.1 a = kd ∧ S.2.2.2.1 a = N
def nestOK : Cond → Bool
  | .methodLinkNest _ _ _ _ => true
  | .castable _ _ => true
  | _ => false
def nestW : List Cond := lw_tbl.filter nestOK
def txK (i : Nat) : String := if i = 0 then "day rain number worth heat held purse pawned dues sells quarrel by pawn redeem earn rest hot if then else end not and or " else "<>=#+-*/();"
def txB (i : Nat) : List Int32 := (txK i).toList.map (fun c => Int32.ofNat c.toNat)
abbrev txBs : List (List Int32) := [txB 0, txB 1]
abbrev txLs : List Nat := [121, 11]
/-- what the tables and the constants say, at a state whose cells A may change -/
def KK (D : va_G) (cy : Nat → ClassId) (S : Sh) (A : Nat → Prop) (U : State) : Prop :=
  va_K D vwCl (tysL cy) U ∧ (∀ w ∈ nestW, va_Nw w U) ∧ va_AO RX6 U ∧ va_AO RX8 U ∧ vk_S 2 txLs txBs S.2.2.2.2 (fun i => S.2.2.2.2 (2 + i)) A U U.heap ∧ vk_R RX5 94 (txK 0) (S.2.2.2.2 0) U ∧ vk_R RX5 114 (txK 1) (S.2.2.2.2 1) U ∧ va_Z "java/lang/String" "COMPACT_STRINGS" "Z" (.int 1) A U U.heap ∧ va_Zq "jdk/internal/util/Preconditions" "SIOOBE_FORMATTER" "Ljava/util/function/BiFunction;" A U U.heap
theorem va_Nw.warmN {w : Cond} (hw : nestOK w = true) {s U : State} (hW : s.WarmedH U.vm) (h : va_Nw w s) : va_Nw w U := by
  cases w <;> first | (cases hw; done) | exact va_Nw.warmM hW h | exact va_Nw.warmC hW h
theorem KK.move {D : va_G} {cy : Nat → ClassId} {S : Sh} {A A1 : Nat → Prop} {s U : State} {locs : List Loc} (h : KK D cy S A s) (hS : va_S A s.heap U.heap locs) (hW : s.WarmedH U.vm) (hA : ∀ q, A1 q → A q) : KK D cy S A1 U := by
  obtain ⟨h1, h2, h3, h4, h5, h6, h7, h8, h9⟩ := h
  exact ⟨va_K.moved hW.alike h1, fun w hw => va_Nw.warmN (List.mem_filter.mp hw).2 hW (h2 w hw), va_AO.moved hW.alike h3, va_AO.moved hW.alike h4, ((vk_S.moved hW.alike h5).kept hS.2.1).narrow hA, h6.warm hW, h7.warm hW, ((va_Z.moved hW.alike h8).kept hS.2.1).narrow hA, ((va_Zq.moved hW.alike h9).kept hS.2.1).narrow hA⟩
theorem KK.calls {D : va_G} {cy : Nat → ClassId} {S : Sh} {A : Nat → Prop} {U : State} (h : KK D cy S A U) (g : JFrame) (mk : MethodId) (a : Array Value) : KK D cy S A (U.calling g mk a) := by
  obtain ⟨h1, h2, h3, h4, h5, h6, h7, h8, h9⟩ := h
  have al : U.vm.Alike (U.calling g mk a).vm := Vm.Alike.refl U.vm
  exact ⟨va_K.moved al h1, fun w hw => va_Nw.same (u := U) (U := U.calling g mk a) (by have := (List.mem_filter.mp hw).2; cases w <;> first | (cases this; done) | rfl) rfl (h2 w hw), va_AO.moved al h3, va_AO.moved al h4, vk_S.moved al h5, vk_R.same rfl h6, vk_R.same rfl h7, va_Z.moved al h8, va_Zq.moved al h9⟩
def Cx (M : Md) (p : Program) (s : State) (m : MethodId) (args : Array Value) (meth : Method) (c : Code) (D : va_G) (cy : Nat → ClassId) (S : Sh) (A : Nat → Prop) : Prop :=
  p.tables.exec = Jvm.exec ∧ c.code = M.2.1 ∧ c.maxLocals = M.2.2.1 ∧ meth.sig.returnType = M.2.2.2 ∧ meth.locks = false ∧ s.vm.findClass M.1.cls = some m.cls ∧ meth.name = M.1.name ∧ (∀ w ∈ wsM M, w.before args s = true) ∧ KK D cy S A s ∧ (∀ q, s.heap.size ≤ q → A q)
def QcP (D : va_G) (cy : Nat → ClassId) (sa : Nat → Nat) (Post : PT) (A : Nat → Prop) : Array Value → State → Outcome → State → Prop := fun _ st oc t =>
  (∃ (v : Option Value) (S : Sh) (I : CI) (R : CR), oc = .returned v ∧ Post v S I R ∧ va_P D vwCl (pW cy S I R) t.heap ∧ va_D A (pW cy S I R) ∧ S.2.2.2.2 = sa) ∧ va_F A st t
def WP (n mc ms : Nat) (M : Md) (Post : PT) (pc : Nat) (lv : List (Nat × Value)) (st : List Value) (k j : Nat) (S : Sh) (I : CI) (R : CR) : Prop :=
  ∀ (l : Launch) (p : Program) (e : Env) (s : State) (m : MethodId) (args : Array Value) (below : List Frame) (meth : Method) (c : Code) (D : va_G) (cy : Nat → ClassId) (A : Nat → Prop) (H : Heap) (locs : List Loc) (ls : Array Slot),
    Cx M p s m args meth c D cy S A → lv_has ls M.2.2.1 lv → va_P D vwCl (pW cy S I R) H → va_D A (pW cy S I R) → va_S A s.heap H locs →
    W p l e (rmN n mc ms) s m args below meth c H locs k j (MQ below (QcP D cy S.2.2.2.2 Post A) args s mc ms A) (F0 m pc ls st)
def Call (n mc ms : Nat) (M : Md) (av : List Value) (S : Sh) (I : CI) (R : CR) (Post : PT) : Prop :=
  ∀ (l : Launch) (D : va_G) (cy : Nat → ClassId) (sz : Nat), Met l M.1 (wsM M) (rmN n mc ms) (va_Pc av (fun U => U.heap.size = sz ∧ va_P D vwCl (pW cy S I R) U.heap ∧ KK D cy S (va_A (pW cy S I R) sz) U ∧ va_D (fun _ => True) (pW cy S I R))) (QcP D cy S.2.2.2.2 Post (va_A (pW cy S I R) sz)) mc ms (va_A (pW cy S I R) sz)
theorem Call.of {n mc ms : Nat} {M : Md} {av : List Value} {S : Sh} {I : CI} {R : CR} {Post : PT} (hp : plainName M.1.cls = true) (hlen : (lg_sl av).length ≤ M.2.2.1) (h : WP n mc ms M Post 0 (lv_args 0 av) [] 0 0 S I R) : Call n mc ms M av S I R Post := by
  intro l D cy sz
  refine Met.ofW (cc := M.2.1) (maxL := M.2.2.1) (ret := M.2.2.2) hp rfl ?_
  intro p e s m args below meth c s₁ B hml hv
  obtain ⟨rfl, hsz, hP, hK, hD0⟩ := hv
  subst hsz
  have hl := lv_entry av (n := M.2.2.1) hlen
  rw [lg_entry_eq]
  exact h l p e s m _ below meth c D cy _ s.heap [] _ ⟨B.exec, B.bytes, hml, B.returns, B.notSynchronized, findClass_of_methodNamed B.named, (name_of_methodNamed B.named B.method).1, atoms_spec (ws := wsM M) B.pre, hK, fun q h => Or.inr h⟩ hl hP hD0.self va_S.rf
/-! numbers -/
theorem iI_add (x y : Int) : iI x + iI y = iI (x + y) := by simp [iI, Int32.ofInt_add]
theorem iI_sub (x y : Int) : iI x - iI y = iI (x - y) := by simp [iI, Int32.ofInt_sub]
theorem iI_mul (x y : Int) : iI x * iI y = iI (x * y) := by simp [iI, Int32.ofInt_mul]
theorem iI_neg (x : Int) : - iI x = iI (-x) := by simp [iI, Int32.ofInt_neg]
theorem iI_toInt {x : Int} (h0 : -2147483648 ≤ x) (h1 : x < 2147483648) : (iI x).toInt = x := by
  have hz : Int32.size = 4294967296 := rfl
  unfold iI; rw [Int32.toInt_ofInt, hz]; exact Int.bmod_eq_of_le (by omega) (by omega)
theorem iI_of (x : Int32) : x = iI x.toInt := by unfold iI; exact (Int32.ofInt_toInt x).symm
theorem iI_rg (x : Int32) : -2147483648 ≤ x.toInt ∧ x.toInt < 2147483648 := ⟨Int32.le_toInt x, Int32.toInt_lt x⟩
theorem iI_eq {x y : Int} (hx : -2147483648 ≤ x ∧ x < 2147483648) (hy : -2147483648 ≤ y ∧ y < 2147483648) : iI x = iI y ↔ x = y := by
  constructor
  · intro h; rw [← iI_toInt hx.1 hx.2, ← iI_toInt hy.1 hy.2, h]
  · intro h; rw [h]
theorem iI_lt {x y : Int} (hx : -2147483648 ≤ x ∧ x < 2147483648) (hy : -2147483648 ≤ y ∧ y < 2147483648) : iI x < iI y ↔ x < y := by
  rw [Int32.lt_iff_toInt_lt, iI_toInt hx.1 hx.2, iI_toInt hy.1 hy.2]
theorem iI_le {x y : Int} (hx : -2147483648 ≤ x ∧ x < 2147483648) (hy : -2147483648 ≤ y ∧ y < 2147483648) : iI x ≤ iI y ↔ x ≤ y := by
  rw [Int32.le_iff_toInt_le, iI_toInt hx.1 hx.2, iI_toInt hy.1 hy.2]
theorem iI_clamp {x : Int} (h0 : 0 ≤ x) (h1 : x < 2147483648) : (iI x).toNatClampNeg = x.toNat := by
  show (iI x).toInt.toNat = x.toNat
  rw [iI_toInt (by omega) h1]
theorem iI_in {x : Int} {N : Nat} (h0 : 0 ≤ x) (h1 : x < N) (h2 : x < 2147483648) : vp_in (iI x) N := by
  rw [vp_in_iff, iI_toInt (by omega) h2]; exact ⟨h0, h1⟩
theorem iI_nn {x : Int} (h0 : 0 ≤ x) (h2 : x < 2147483648) : ¬ iI x < 0 := by
  rw [show (0 : Int32) = iI 0 from rfl, iI_lt (by omega) (by omega)]; omega
