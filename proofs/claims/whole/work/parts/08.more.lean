abbrev Rg (x : Int) : Prop := -2147483648 ≤ x ∧ x < 2147483648
abbrev Rl (x : Int) : Prop := -9223372036854775808 ≤ x ∧ x < 9223372036854775808
def andI (x y : Int) : Int := (iI x &&& iI y).toInt
def orI (x y : Int) : Int := (iI x ||| iI y).toInt
def xorI (x y : Int) : Int := (iI x ^^^ iI y).toInt
def shlI (x y : Int) : Int := (iI x <<< (iI y &&& 31)).toInt
def shrI (x y : Int) : Int := (iI x >>> (iI y &&& 31)).toInt
def ushrI (x y : Int) : Int := ((iI x).toUInt32 >>> ((iI y).toUInt32 &&& Int32.toUInt32 31)).toInt32.toInt
def lorI (x y : Int) : Int := (lI x ||| lI y).toInt
def lshlI (x y : Int) : Int := (lI x <<< ((iI y).toInt64 &&& 63)).toInt
def lshrI (x y : Int) : Int := (lI x >>> ((iI y).toInt64 &&& 63)).toInt
def cmpI (x y : Int) : Int := if y < x then 1 else if x = y then 0 else -1
theorem lI_of (x : Int64) : x = lI x.toInt := by unfold lI; exact (Int64.ofInt_toInt x).symm
theorem lI_add (x y : Int) : lI x + lI y = lI (x + y) := by simp [lI, Int64.ofInt_add]
theorem lI_sub (x y : Int) : lI x - lI y = lI (x - y) := by simp [lI, Int64.ofInt_sub]
theorem lI_mul (x y : Int) : lI x * lI y = lI (x * y) := by simp [lI, Int64.ofInt_mul]
theorem lI_neg (x : Int) : - lI x = lI (-x) := by simp [lI, Int64.ofInt_neg]
theorem lI_toInt {x : Int} (h : Rl x) : (lI x).toInt = x := by
  have hz : Int64.size = 18446744073709551616 := rfl
  unfold lI; rw [Int64.toInt_ofInt, hz]; exact Int.bmod_eq_of_le (by omega) (by omega)
theorem lI_eq {x y : Int} (hx : Rl x) (hy : Rl y) : lI x = lI y ↔ x = y := by
  constructor
  · intro h; rw [← lI_toInt hx, ← lI_toInt hy, h]
  · intro h; rw [h]
theorem lI_lt {x y : Int} (hx : Rl x) (hy : Rl y) : lI x < lI y ↔ x < y := by
  rw [Int64.lt_iff_toInt_lt, lI_toInt hx, lI_toInt hy]
theorem lI_cmp {x y : Int} (hx : Rl x) (hy : Rl y) : lg_cmp (lI x) (lI y) = iI (cmpI x y) := by
  unfold lg_cmp cmpI
  by_cases h1 : y < x
  · rw [if_pos ((lI_lt hy hx).mpr h1), if_pos h1]; rfl
  · rw [if_neg (fun q => h1 ((lI_lt hy hx).mp q)), if_neg h1]
    by_cases h2 : x = y
    · rw [if_pos ((lI_eq hx hy).mpr h2), if_pos h2]; rfl
    · rw [if_neg (fun q => h2 ((lI_eq hx hy).mp q)), if_neg h2]; rfl
theorem iI_div {x y : Int} (hx : 0 ≤ x ∧ x < 2147483648) (hy : 0 < y ∧ y < 2147483648) : iI x / iI y = iI (x / y) := by
  have h1 : x / y ≤ x := Int.ediv_le_self y hx.1
  have h0 : 0 ≤ x / y := Int.ediv_nonneg hx.1 (by omega)
  rw [← Int32.toInt_inj, Int32.toInt_div, iI_toInt (by omega) hx.2, iI_toInt (by omega) hy.2, iI_toInt (by omega) (by omega), Int.tdiv_eq_ediv_of_nonneg hx.1]
  exact Int.bmod_eq_of_le (by omega) (by omega)
theorem iI_mod {x y : Int} (hx : 0 ≤ x ∧ x < 2147483648) (hy : 0 < y ∧ y < 2147483648) : iI x - iI x / iI y * iI y = iI (x % y) := by
  rw [iI_div hx hy, iI_mul, iI_sub]
  congr 1
  have := Int.emod_def x y
  rw [this, Int.mul_comm]
theorem iI_lI {x : Int} (h : Rg x) : (iI x).toInt64 = lI x := by
  rw [← Int64.toInt_inj, Int32.toInt_toInt64, iI_toInt h.1 h.2, lI_toInt ⟨by omega, by omega⟩]
theorem lI_iI (x : Int) : (lI x).toInt32 = iI x := by
  unfold lI iI
  apply Int32.toBitVec_inj.mp
  simp
section More
variable {n mc ms : Nat} {M : Md} {Post : PT} {pc : Nat} {lv lv2 : List (Nat × Value)} {st : List Value} {k j : Nat} {S : Sh} {I : CI} {R : CR}
theorem x_iand {x y : Int} (d : decode M.2.1 pc = .ok (.iand, 1))  (h : WP n mc ms M Post (pc + 1) lv (.int (iI (andI x y)) :: st) k j S I R) : WP n mc ms M Post pc lv (.int (iI y) :: .int (iI x) :: st) k j S I R := by
  intro l p e s m args below meth c D cy A H locs ls C hl hP hD hS
  refine lv_iand C.1 C.2.1 d ?_
  have e0 := iI_of (iI x &&& iI y)
  rw [e0]
  exact h l p e s m args below meth c D cy A H locs ls C hl hP hD hS
theorem x_ior {x y : Int} (d : decode M.2.1 pc = .ok (.ior, 1))  (h : WP n mc ms M Post (pc + 1) lv (.int (iI (orI x y)) :: st) k j S I R) : WP n mc ms M Post pc lv (.int (iI y) :: .int (iI x) :: st) k j S I R := by
  intro l p e s m args below meth c D cy A H locs ls C hl hP hD hS
  refine lv_ior C.1 C.2.1 d ?_
  have e0 := iI_of (iI x ||| iI y)
  rw [e0]
  exact h l p e s m args below meth c D cy A H locs ls C hl hP hD hS
theorem x_ixor {x y : Int} (d : decode M.2.1 pc = .ok (.ixor, 1))  (h : WP n mc ms M Post (pc + 1) lv (.int (iI (xorI x y)) :: st) k j S I R) : WP n mc ms M Post pc lv (.int (iI y) :: .int (iI x) :: st) k j S I R := by
  intro l p e s m args below meth c D cy A H locs ls C hl hP hD hS
  refine lv_ixor C.1 C.2.1 d ?_
  have e0 := iI_of (iI x ^^^ iI y)
  rw [e0]
  exact h l p e s m args below meth c D cy A H locs ls C hl hP hD hS
theorem x_ishl {x y : Int} (d : decode M.2.1 pc = .ok (.ishl, 1))  (h : WP n mc ms M Post (pc + 1) lv (.int (iI (shlI x y)) :: st) k j S I R) : WP n mc ms M Post pc lv (.int (iI y) :: .int (iI x) :: st) k j S I R := by
  intro l p e s m args below meth c D cy A H locs ls C hl hP hD hS
  refine lv_ishl C.1 C.2.1 d ?_
  have e0 := iI_of (iI x <<< (iI y &&& 31))
  rw [e0]
  exact h l p e s m args below meth c D cy A H locs ls C hl hP hD hS
theorem x_ishr {x y : Int} (d : decode M.2.1 pc = .ok (.ishr, 1))  (h : WP n mc ms M Post (pc + 1) lv (.int (iI (shrI x y)) :: st) k j S I R) : WP n mc ms M Post pc lv (.int (iI y) :: .int (iI x) :: st) k j S I R := by
  intro l p e s m args below meth c D cy A H locs ls C hl hP hD hS
  refine lv_ishr C.1 C.2.1 d ?_
  have e0 := iI_of (iI x >>> (iI y &&& 31))
  rw [e0]
  exact h l p e s m args below meth c D cy A H locs ls C hl hP hD hS
theorem x_iushr {x y : Int} (d : decode M.2.1 pc = .ok (.iushr, 1))  (h : WP n mc ms M Post (pc + 1) lv (.int (iI (ushrI x y)) :: st) k j S I R) : WP n mc ms M Post pc lv (.int (iI y) :: .int (iI x) :: st) k j S I R := by
  intro l p e s m args below meth c D cy A H locs ls C hl hP hD hS
  refine lv_iushr C.1 C.2.1 d (v := iI (ushrI x y)) (iI_of _) ?_
  exact h l p e s m args below meth c D cy A H locs ls C hl hP hD hS
theorem x_idiv {x y : Int} (d : decode M.2.1 pc = .ok (.idiv, 1)) (hr : (0 ≤ x ∧ x < 2147483648) ∧ 0 < y ∧ y < 2147483648) (h : WP n mc ms M Post (pc + 1) lv (.int (iI (x / y)) :: st) k j S I R) : WP n mc ms M Post pc lv (.int (iI y) :: .int (iI x) :: st) k j S I R := by
  intro l p e s m args below meth c D cy A H locs ls C hl hP hD hS
  refine lv_idiv C.1 C.2.1 d (fun q => by rw [show (0 : Int32) = iI 0 from rfl, iI_eq (by omega) (by omega)] at q; omega) ?_
  rw [iI_div hr.1 hr.2]
  exact h l p e s m args below meth c D cy A H locs ls C hl hP hD hS
theorem x_irem {x y : Int} (d : decode M.2.1 pc = .ok (.irem, 1)) (hr : (0 ≤ x ∧ x < 2147483648) ∧ 0 < y ∧ y < 2147483648) (h : WP n mc ms M Post (pc + 1) lv (.int (iI (x % y)) :: st) k j S I R) : WP n mc ms M Post pc lv (.int (iI y) :: .int (iI x) :: st) k j S I R := by
  intro l p e s m args below meth c D cy A H locs ls C hl hP hD hS
  refine lv_irem C.1 C.2.1 d (fun q => by rw [show (0 : Int32) = iI 0 from rfl, iI_eq (by omega) (by omega)] at q; omega) ?_
  rw [iI_mod hr.1 hr.2]
  exact h l p e s m args below meth c D cy A H locs ls C hl hP hD hS
theorem x_ladd {x y : Int} (d : decode M.2.1 pc = .ok (.ladd, 1))  (h : WP n mc ms M Post (pc + 1) lv (.long (lI (x + y)) :: st) k j S I R) : WP n mc ms M Post pc lv (.long (lI y) :: .long (lI x) :: st) k j S I R := by
  intro l p e s m args below meth c D cy A H locs ls C hl hP hD hS
  refine lv_ladd C.1 C.2.1 d ?_
  rw [lI_add]
  exact h l p e s m args below meth c D cy A H locs ls C hl hP hD hS
theorem x_lsub {x y : Int} (d : decode M.2.1 pc = .ok (.lsub, 1))  (h : WP n mc ms M Post (pc + 1) lv (.long (lI (x - y)) :: st) k j S I R) : WP n mc ms M Post pc lv (.long (lI y) :: .long (lI x) :: st) k j S I R := by
  intro l p e s m args below meth c D cy A H locs ls C hl hP hD hS
  refine lv_lsub C.1 C.2.1 d ?_
  rw [lI_sub]
  exact h l p e s m args below meth c D cy A H locs ls C hl hP hD hS
theorem x_lmul {x y : Int} (d : decode M.2.1 pc = .ok (.lmul, 1))  (h : WP n mc ms M Post (pc + 1) lv (.long (lI (x * y)) :: st) k j S I R) : WP n mc ms M Post pc lv (.long (lI y) :: .long (lI x) :: st) k j S I R := by
  intro l p e s m args below meth c D cy A H locs ls C hl hP hD hS
  refine lv_lmul C.1 C.2.1 d ?_
  rw [lI_mul]
  exact h l p e s m args below meth c D cy A H locs ls C hl hP hD hS
theorem x_lneg {x : Int} (d : decode M.2.1 pc = .ok (.lneg, 1))  (h : WP n mc ms M Post (pc + 1) lv (.long (lI (-x)) :: st) k j S I R) : WP n mc ms M Post pc lv (.long (lI x) :: st) k j S I R := by
  intro l p e s m args below meth c D cy A H locs ls C hl hP hD hS
  refine lv_lneg C.1 C.2.1 d ?_
  rw [lI_neg]
  exact h l p e s m args below meth c D cy A H locs ls C hl hP hD hS
theorem x_lor {x y : Int} (d : decode M.2.1 pc = .ok (.lor, 1))  (h : WP n mc ms M Post (pc + 1) lv (.long (lI (lorI x y)) :: st) k j S I R) : WP n mc ms M Post pc lv (.long (lI y) :: .long (lI x) :: st) k j S I R := by
  intro l p e s m args below meth c D cy A H locs ls C hl hP hD hS
  refine lv_lor C.1 C.2.1 d ?_
  have e0 := lI_of (lI x ||| lI y)
  rw [e0]
  exact h l p e s m args below meth c D cy A H locs ls C hl hP hD hS
theorem x_lshl {x y : Int} (d : decode M.2.1 pc = .ok (.lshl, 1))  (h : WP n mc ms M Post (pc + 1) lv (.long (lI (lshlI x y)) :: st) k j S I R) : WP n mc ms M Post pc lv (.int (iI y) :: .long (lI x) :: st) k j S I R := by
  intro l p e s m args below meth c D cy A H locs ls C hl hP hD hS
  refine lv_lshl C.1 C.2.1 d (v := lI (lshlI x y)) (lI_of _) ?_
  exact h l p e s m args below meth c D cy A H locs ls C hl hP hD hS
theorem x_lshr {x y : Int} (d : decode M.2.1 pc = .ok (.lshr, 1))  (h : WP n mc ms M Post (pc + 1) lv (.long (lI (lshrI x y)) :: st) k j S I R) : WP n mc ms M Post pc lv (.int (iI y) :: .long (lI x) :: st) k j S I R := by
  intro l p e s m args below meth c D cy A H locs ls C hl hP hD hS
  refine lv_lshr C.1 C.2.1 d (v := lI (lshrI x y)) (lI_of _) ?_
  exact h l p e s m args below meth c D cy A H locs ls C hl hP hD hS
theorem x_i2l {x : Int} (d : decode M.2.1 pc = .ok (.i2l, 1)) (hr : Rg x) (h : WP n mc ms M Post (pc + 1) lv (.long (lI x) :: st) k j S I R) : WP n mc ms M Post pc lv (.int (iI x) :: st) k j S I R := by
  intro l p e s m args below meth c D cy A H locs ls C hl hP hD hS
  refine lv_i2l C.1 C.2.1 d (v := lI x) (iI_lI hr) ?_
  exact h l p e s m args below meth c D cy A H locs ls C hl hP hD hS
theorem x_l2i {x : Int} (d : decode M.2.1 pc = .ok (.l2i, 1))  (h : WP n mc ms M Post (pc + 1) lv (.int (iI x) :: st) k j S I R) : WP n mc ms M Post pc lv (.long (lI x) :: st) k j S I R := by
  intro l p e s m args below meth c D cy A H locs ls C hl hP hD hS
  refine lv_l2i C.1 C.2.1 d (v := iI x) (lI_iI x) ?_
  exact h l p e s m args below meth c D cy A H locs ls C hl hP hD hS
theorem x_lcmp {x y : Int} (d : decode M.2.1 pc = .ok (.lcmp, 1)) (hr : Rl x ∧ Rl y) (h : WP n mc ms M Post (pc + 1) lv (.int (iI (cmpI x y)) :: st) k j S I R) : WP n mc ms M Post pc lv (.long (lI y) :: .long (lI x) :: st) k j S I R := by
  intro l p e s m args below meth c D cy A H locs ls C hl hP hD hS
  refine W.lcmp C.1 C.2.1 d ?_
  rw [lI_cmp hr.1 hr.2]
  exact h l p e s m args below meth c D cy A H locs ls C hl hP hD hS
theorem x_ldc {idx : Nat} {z : Int} (d : decode M.2.1 pc = .ok (.ldc idx, 2)) (hw : Cond.constant M.1.cls idx (iI z) ∈ bigW) (h : WP n mc ms M Post (pc + 2) lv (.int (iI z) :: st) k j S I R) : WP n mc ms M Post pc lv st k j S I R := by
  intro l p e s m args below meth c D cy A H locs ls C hl hP hD hS
  refine lv_ldc C.1 C.2.1 C.2.2.2.2.2.1 (C.2.2.2.2.2.2.2.1 _ (List.mem_cons_of_mem _ hw)) d ?_
  exact h l p e s m args below meth c D cy A H locs ls C hl hP hD hS
theorem x_ldcw {idx : Nat} {z : Int} (d : decode M.2.1 pc = .ok (.ldc_w idx, 3)) (hw : Cond.constant M.1.cls idx (iI z) ∈ bigW) (h : WP n mc ms M Post (pc + 3) lv (.int (iI z) :: st) k j S I R) : WP n mc ms M Post pc lv st k j S I R := by
  intro l p e s m args below meth c D cy A H locs ls C hl hP hD hS
  refine lv_ldcw C.1 C.2.1 C.2.2.2.2.2.1 (C.2.2.2.2.2.2.2.1 _ (List.mem_cons_of_mem _ hw)) d ?_
  exact h l p e s m args below meth c D cy A H locs ls C hl hP hD hS
theorem x_ldc2 {idx : Nat} {z : Int} (d : decode M.2.1 pc = .ok (.ldc2_w idx, 3)) (hw : Cond.constantLong M.1.cls idx (lI z) ∈ bigW) (h : WP n mc ms M Post (pc + 3) lv (.long (lI z) :: st) k j S I R) : WP n mc ms M Post pc lv st k j S I R := by
  intro l p e s m args below meth c D cy A H locs ls C hl hP hD hS
  refine lv_ldc2 C.1 C.2.1 C.2.2.2.2.2.1 (C.2.2.2.2.2.2.2.1 _ (List.mem_cons_of_mem _ hw)) d ?_
  exact h l p e s m args below meth c D cy A H locs ls C hl hP hD hS
theorem x_null  (d : decode M.2.1 pc = .ok (.aconst_null, 1))  (h : WP n mc ms M Post (pc + 1) lv (.null :: st) k j S I R) : WP n mc ms M Post pc lv st k j S I R := by
  intro l p e s m args below meth c D cy A H locs ls C hl hP hD hS
  refine lv_null C.1 C.2.1 d ?_
  exact h l p e s m args below meth c D cy A H locs ls C hl hP hD hS
theorem x_tableIn {x dflt lo hi off : Int} {offs : Array Int} {len : Nat} (tgt : Nat) (d : decode M.2.1 pc = .ok (.tableswitch dflt lo hi offs, len)) (hr : Rg x) (hx : lo ≤ x ∧ x ≤ hi) (ho : offs[(x - lo).toNat]? = some off) (ht : (pc : Int) + off = (tgt : Int)) (h : WP n mc ms M Post tgt lv st k j S I R) : WP n mc ms M Post pc lv (.int (iI x) :: st) k j S I R := by
  intro l p e s m args below meth c D cy A H locs ls C hl hP hD hS
  refine lv_tableIn C.1 C.2.1 d (by rw [iI_toInt hr.1 hr.2]; omega) (by rw [iI_toInt hr.1 hr.2]; omega) (by rw [iI_toInt hr.1 hr.2]; exact ho) ht ?_
  exact h l p e s m args below meth c D cy A H locs ls C hl hP hD hS
theorem x_tableOut {x dflt lo hi : Int} {offs : Array Int} {len : Nat} (tgt : Nat) (d : decode M.2.1 pc = .ok (.tableswitch dflt lo hi offs, len)) (hr : Rg x) (hx : x < lo ∨ hi < x) (ht : (pc : Int) + dflt = (tgt : Int)) (h : WP n mc ms M Post tgt lv st k j S I R) : WP n mc ms M Post pc lv (.int (iI x) :: st) k j S I R := by
  intro l p e s m args below meth c D cy A H locs ls C hl hP hD hS
  refine lv_tableOut C.1 C.2.1 d (by rw [iI_toInt hr.1 hr.2]; exact hx) ht ?_
  exact h l p e s m args below meth c D cy A H locs ls C hl hP hD hS
theorem x_lookup {x dflt off : Int} {ps : Array (Int × Int)} {len : Nat} (tgt : Nat) (d : decode M.2.1 pc = .ok (.lookupswitch dflt ps, len)) (hp : (ps.toList.zip (ps.toList.drop 1)).all (fun (a, next) => a.1 < next.1) = true) (hr : Rg x) (ho : Op.lookupswitch.offset ps.toList dflt x = off) (ht : (pc : Int) + off = (tgt : Int)) (h : WP n mc ms M Post tgt lv st k j S I R) : WP n mc ms M Post pc lv (.int (iI x) :: st) k j S I R := by
  intro l p e s m args below meth c D cy A H locs ls C hl hP hD hS
  refine lv_lookup C.1 C.2.1 d hp (by rw [iI_toInt hr.1 hr.2]; exact ho) ht ?_
  exact h l p e s m args below meth c D cy A H locs ls C hl hP hD hS
theorem x_areturn {v : Value} {rt : FieldType} (d : decode M.2.1 pc = .ok (.areturn, 1)) (hret : M.2.2.2 = some rt) (hrt : (∃ n, rt = FieldType.object n) ∨ ∃ t, rt = FieldType.array t) (hv : v = .null ∨ ∃ a, v = .ref a) (hk : k ≤ mc) (hj : j ≤ ms) (h : Post (some v) S I R) : WP n mc ms M Post pc lv [v] k j S I R := by
  intro l p e s m args below meth c D cy A H locs ls C hl hP hD hS
  refine W.widen hk hj ?_
  have hlocks := C.2.2.2.2.1
  exact W.aret C.1 C.2.1 (C.2.2.2.1.trans hret) hrt hv (fun t ht hW => ⟨⟨_, S, I, R, rfl, h, by rw [ht]; exact hP, hD, rfl⟩, hS.F ht⟩) hS.2.2 d
end More
/-- a row of places is copied into another -/
def cpI (I : CI) (a b : Nat) (sp dp len : Nat) : CI := fun q i => if q = b ∧ dp ≤ i ∧ i < dp + len then I a (sp + (i - dp)) else I q i
theorem cpI_row {I : CI} {a b c sp dp len : Nat} (h : c ≠ b) : cpI I a b sp dp len c = I c := by funext q; simp [cpI, h]
theorem cpI_cell {I : CI} {a b sp dp len : Nat} : (fun q => iI (cpI I a b sp dp len b q)) = va_cpy (fun i => iI (I a i)) (fun i => iI (I b i)) sp dp len := by
  funext q
  unfold cpI va_cpy
  by_cases hq : dp ≤ q ∧ q < dp + len
  · rw [if_pos ⟨rfl, hq⟩, if_pos hq]
  · rw [if_neg (fun z => hq z.2), if_neg hq]
theorem cpI_o {I : CI} {a b c sp dp len i : Nat} (h : c ≠ b) : cpI I a b sp dp len c i = I c i := by rw [cpI_row h]
theorem cpI_s {I : CI} {a b sp dp len i : Nat} (h : dp ≤ i ∧ i < dp + len) : cpI I a b sp dp len b i = I a (sp + (i - dp)) := by unfold cpI; rw [if_pos ⟨rfl, h⟩]
theorem cpI_n {I : CI} {a b sp dp len i : Nat} (h : i < dp ∨ dp + len ≤ i) : cpI I a b sp dp len b i = I b i := by unfold cpI; rw [if_neg (fun z => by omega)]
section Copy
variable {n mc ms : Nat} {M : Md} {Post : PT} {pc : Nat} {lv lv2 : List (Nat × Value)} {st : List Value} {k j : Nat} {S : Sh} {I : CI} {R : CR}
theorem x_copyi {idx a b N0 N1 : Nat} {sp dp len : Int} (d : decode M.2.1 pc = .ok (.invokestatic idx, 3)) (hw : Cond.methodLink M.1.cls idx arraycopyName ∈ bigW ∧ Cond.native arraycopyName ∈ bigW ∧ Cond.static arraycopyName ∈ bigW ∧ Cond.initialized "java/lang/System" ∈ bigW) (hn : 1 ≤ n) (hrest : (st.map fun v => v.category).sum ≤ 8) (hA : AR S a 13 N0) (hB : AR S b 13 N1) (hz : 0 ≤ sp ∧ 0 ≤ dp ∧ 0 ≤ len ∧ sp + len ≤ N0 ∧ dp + len ≤ N1) (hN : N0 < 2147483648) (hN1 : N1 < 2147483648) (h : WP n mc ms M Post (pc + 3) lv st k j S (cpI I a b sp.toNat dp.toNat len.toNat) R) : WP n mc ms M Post pc lv (.int (iI len) :: .int (iI dp) :: .ref (S.2.1 b) :: .int (iI sp) :: .ref (S.2.1 a) :: st) k j S I R := by
  intro l p e s m args below meth c D cy A H locs ls C hl hP hD hS
  refine va_copyi C.1 C.2.1 (C.2.2.1.trans hl.1.symm) C.2.2.2.2.2.1 (C.2.2.2.2.2.2.2.1 _ (List.mem_cons_of_mem _ hw.1)) (C.2.2.2.2.2.2.2.1 _ (List.mem_cons_of_mem _ hw.2.1)) (C.2.2.2.2.2.2.2.1 _ (List.mem_cons_of_mem _ hw.2.2.1)) (C.2.2.2.2.2.2.2.1 _ (List.mem_cons_of_mem _ hw.2.2.2)) C.2.2.2.2.2.2.2.2.1.1 hP hD hS a b 0 0 (ty := .int) (ha0 := by rw [pw_get hA.1, pE_i hA]) (ha1 := by rw [pw_get hB.1, pE_i hB]) rfl rfl rfl (iI_nn hz.1 (by omega)) (iI_nn hz.2.1 (by omega)) (iI_nn hz.2.2.1 (by omega)) (by rw [iI_clamp hz.1 (by omega), iI_clamp hz.2.2.1 (by omega)]; omega) (by rw [iI_clamp hz.2.1 (by omega), iI_clamp hz.2.2.1 (by omega)]; omega) (fun _ _ => rfl) hn (by show _ + (_ + 11) ≤ 64 * n; have : nativeFrameWords "java/lang/System" "arraycopy" 5 ≤ 40 := (by decide); omega) d (fun H1 locs1 hP hD hS => ?_)
  rw [iI_clamp hz.1 (by omega), iI_clamp hz.2.1 (by omega), iI_clamp hz.2.2.1 (by omega), pw_set (I' := cpI I a b sp.toNat dp.toNat len.toNat) (R' := R) (by rw [pE_i hB, cpI_cell]) (fun c hc => by simp only [pE, cpI_row hc])] at hP hD
  exact h l p e s m args below meth c D cy A H1 locs1 ls C hl hP hD hS
end Copy
