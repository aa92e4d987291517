/-! sets of bits: whole numbers below 2^31 as Nat -/
theorem iI_bv (x : Nat) : (iI (x : Int)).toBitVec = BitVec.ofNat 32 x := by
  show (Int32.ofInt (x : Int)).toBitVec = _
  rw [Int32.toBitVec_ofInt]
  exact BitVec.ofInt_natCast 32 x
theorem bv_int {b : BitVec 32} {z : Nat} (h : b = BitVec.ofNat 32 z) (hz : z < 2147483648) : b.toInt = (z : Int) := by
  subst h
  have e : (BitVec.ofNat 32 z).toNat = z := by rw [BitVec.toNat_ofNat]; exact Nat.mod_eq_of_lt (by omega)
  rw [BitVec.toInt_eq_toNat_of_lt (by rw [e]; omega), e]
theorem andI_n {x y : Nat} (hx : x < 2147483648) : andI (x : Int) (y : Int) = ((x &&& y : Nat) : Int) := by
  unfold andI
  show (iI (x : Int) &&& iI (y : Int)).toBitVec.toInt = _
  rw [Int32.toBitVec_and, iI_bv, iI_bv]
  have hle : x &&& y ≤ x := Nat.and_le_left
  refine bv_int ?_ (by omega)
  exact (BitVec.ofNat_and).symm
theorem orI_n {x y : Nat} (hx : x < 2147483648) (hy : y < 2147483648) : orI (x : Int) (y : Int) = ((x ||| y : Nat) : Int) := by
  unfold orI
  show (iI (x : Int) ||| iI (y : Int)).toBitVec.toInt = _
  rw [Int32.toBitVec_or, iI_bv, iI_bv]
  refine bv_int ?_ (Nat.or_lt_two_pow (n := 31) hx hy)
  exact (BitVec.ofNat_or).symm
theorem shl1_n {k : Nat} (hk : k < 31) : shlI 1 (k : Int) = ((2 ^ k : Nat) : Int) := by
  have h : ∀ k : Fin 31, shlI 1 ((k.val : Nat) : Int) = ((2 ^ k.val : Nat) : Int) := by decide +kernel
  exact h ⟨k, hk⟩
/-- x without y -/
def sdN (x y : Nat) : Nat := x &&& (2147483647 ^^^ y)
theorem sdN_le (x y : Nat) : sdN x y ≤ x := Nat.and_le_left
theorem sdN_tb {x y k : Nat} (hx : x < 2147483648) : (sdN x y).testBit k = (x.testBit k && !y.testBit k) := by
  unfold sdN
  rw [Nat.testBit_and, Nat.testBit_xor]
  by_cases hk : k < 31
  · rw [show (2147483647 : Nat) = 2 ^ 31 - 1 from rfl, Nat.testBit_two_pow_sub_one, decide_eq_true hk]; simp
  · rw [Nat.testBit_lt_two_pow (show x < 2 ^ k from Nat.lt_of_lt_of_le (show x < 2 ^ 31 from hx) (Nat.pow_le_pow_right (n := 2) (by decide) (by omega)))]; simp
theorem andnot_n {x y : Nat} (hx : x < 2147483648) (hy : y < 2147483648) : andI (x : Int) (xorI (y : Int) (-1)) = ((sdN x y : Nat) : Int) := by
  unfold andI xorI
  have e1 : iI (iI (y : Int) ^^^ iI (-1)).toInt = iI (y : Int) ^^^ iI (-1) := (iI_of _).symm
  rw [e1]
  show (iI (x : Int) &&& (iI (y : Int) ^^^ iI (-1))).toBitVec.toInt = _
  rw [Int32.toBitVec_and, Int32.toBitVec_xor, iI_bv, iI_bv]
  refine bv_int ?_ (by have := sdN_le x y; omega)
  apply BitVec.eq_of_getLsbD_eq
  intro i hi
  have e2 : (iI (-1)).toBitVec = BitVec.allOnes 32 := by decide
  rw [e2, BitVec.getLsbD_and, BitVec.getLsbD_xor, BitVec.getLsbD_allOnes, BitVec.getLsbD_ofNat, BitVec.getLsbD_ofNat, BitVec.getLsbD_ofNat, sdN_tb hx]
  simp [hi]
theorem shr_n {x k : Nat} (hx : x < 2147483648) (hk : k < 31) : shrI (x : Int) (k : Int) = ((x / 2 ^ k : Nat) : Int) := by
  unfold shrI
  have h0 : ∀ k : Fin 31, iI ((k.val : Nat) : Int) &&& 31 = iI ((k.val : Nat) : Int) ∧ ((iI ((k.val : Nat) : Int)).toBitVec.smod 32).toNat = k.val := by decide +kernel
  have hd := h0 ⟨k, hk⟩
  show (iI (x : Int) >>> (iI (k : Int) &&& 31)).toBitVec.toInt = _
  rw [hd.1, Int32.toBitVec_shiftRight, iI_bv]
  have hq : x / 2 ^ k ≤ x := Nat.div_le_self _ _
  have e3 : (iI (k : Int)).toBitVec.smod 32 = BitVec.ofNat 32 k := by
    apply BitVec.eq_of_toNat_eq; rw [hd.2, BitVec.toNat_ofNat]; exact (Nat.mod_eq_of_lt (by omega)).symm
  rw [e3]
  have e4 : (BitVec.ofNat 32 x).toInt = (x : Int) := bv_int rfl hx
  have e5 : (BitVec.ofNat 32 k).toNat = k := by rw [BitVec.toNat_ofNat]; exact Nat.mod_eq_of_lt (by omega)
  show ((BitVec.ofNat 32 x).sshiftRight (BitVec.ofNat 32 k).toNat).toInt = _
  rw [e5, BitVec.toInt_sshiftRight, e4]
  rw [Int.shiftRight_eq_div_pow]
  exact (Int.natCast_ediv _ _).symm
theorem has_n {x k : Nat} (hx : x < 2147483648) (hk : k < 31) : andI (shrI (x : Int) (k : Int)) 1 = if x.testBit k then 1 else 0 := by
  rw [shr_n hx hk]
  have hq : x / 2 ^ k ≤ x := Nat.div_le_self _ _
  rw [show (1 : Int) = ((1 : Nat) : Int) from rfl, andI_n (by omega), Nat.and_one_is_mod]
  rw [Nat.testBit_eq_decide_div_mod_eq]
  by_cases h : x / 2 ^ k % 2 = 1
  · simp [h]
  · have : x / 2 ^ k % 2 = 0 := by omega
    simp [this]
/-- a byte of a number -/
theorem ushr_byte (x : Int) (k : Nat) (hk : k = 0 ∨ k = 8 ∨ k = 16 ∨ k = 24) : andI (ushrI x (k : Int)) 255 = andI (shrI x (k : Int)) 255 := by
  unfold andI ushrI shrI
  rw [← iI_of, ← iI_of]
  apply congrArg
  apply Int32.toBitVec_inj.mp
  rw [Int32.toBitVec_and, Int32.toBitVec_and]
  generalize iI x = z
  apply BitVec.eq_of_getLsbD_eq
  intro i hi
  have e255 : (iI 255).toBitVec = BitVec.ofNat 32 (2 ^ 8 - 1) := by decide
  rw [BitVec.getLsbD_and, BitVec.getLsbD_and, e255, BitVec.getLsbD_ofNat, Nat.testBit_two_pow_sub_one]
  by_cases h8 : i < 8
  · rcases hk with rfl | rfl | rfl | rfl
    · have e1 : (z >>> (iI ((0 : Nat) : Int) &&& 31)).toBitVec = z.toBitVec.sshiftRight 0 := by
        rw [Int32.toBitVec_shiftRight]; exact congrArg z.toBitVec.sshiftRight (by decide)
      have e2 : (z.toUInt32 >>> ((iI ((0 : Nat) : Int)).toUInt32 &&& Int32.toUInt32 31)).toInt32.toBitVec = z.toBitVec >>> 0 := by
        show (z.toUInt32 >>> ((iI ((0 : Nat) : Int)).toUInt32 &&& Int32.toUInt32 31)).toBitVec = _
        rw [UInt32.toBitVec_shiftRight]; exact congrArg (z.toBitVec >>> ·) (by decide : (((iI ((0 : Nat) : Int)).toUInt32 &&& Int32.toUInt32 31).toBitVec % 32).toNat = 0)
      rw [e1, e2, BitVec.getLsbD_sshiftRight, BitVec.getLsbD_ushiftRight]
      simp [show 0 + i < 32 by omega, hi, show ¬ 32 ≤ i by omega]
    · have e1 : (z >>> (iI ((8 : Nat) : Int) &&& 31)).toBitVec = z.toBitVec.sshiftRight 8 := by
        rw [Int32.toBitVec_shiftRight]; exact congrArg z.toBitVec.sshiftRight (by decide)
      have e2 : (z.toUInt32 >>> ((iI ((8 : Nat) : Int)).toUInt32 &&& Int32.toUInt32 31)).toInt32.toBitVec = z.toBitVec >>> 8 := by
        show (z.toUInt32 >>> ((iI ((8 : Nat) : Int)).toUInt32 &&& Int32.toUInt32 31)).toBitVec = _
        rw [UInt32.toBitVec_shiftRight]; exact congrArg (z.toBitVec >>> ·) (by decide : (((iI ((8 : Nat) : Int)).toUInt32 &&& Int32.toUInt32 31).toBitVec % 32).toNat = 8)
      rw [e1, e2, BitVec.getLsbD_sshiftRight, BitVec.getLsbD_ushiftRight]
      simp [show 8 + i < 32 by omega, hi, show ¬ 32 ≤ i by omega]
    · have e1 : (z >>> (iI ((16 : Nat) : Int) &&& 31)).toBitVec = z.toBitVec.sshiftRight 16 := by
        rw [Int32.toBitVec_shiftRight]; exact congrArg z.toBitVec.sshiftRight (by decide)
      have e2 : (z.toUInt32 >>> ((iI ((16 : Nat) : Int)).toUInt32 &&& Int32.toUInt32 31)).toInt32.toBitVec = z.toBitVec >>> 16 := by
        show (z.toUInt32 >>> ((iI ((16 : Nat) : Int)).toUInt32 &&& Int32.toUInt32 31)).toBitVec = _
        rw [UInt32.toBitVec_shiftRight]; exact congrArg (z.toBitVec >>> ·) (by decide : (((iI ((16 : Nat) : Int)).toUInt32 &&& Int32.toUInt32 31).toBitVec % 32).toNat = 16)
      rw [e1, e2, BitVec.getLsbD_sshiftRight, BitVec.getLsbD_ushiftRight]
      simp [show 16 + i < 32 by omega, hi, show ¬ 32 ≤ i by omega]
    · have e1 : (z >>> (iI ((24 : Nat) : Int) &&& 31)).toBitVec = z.toBitVec.sshiftRight 24 := by
        rw [Int32.toBitVec_shiftRight]; exact congrArg z.toBitVec.sshiftRight (by decide)
      have e2 : (z.toUInt32 >>> ((iI ((24 : Nat) : Int)).toUInt32 &&& Int32.toUInt32 31)).toInt32.toBitVec = z.toBitVec >>> 24 := by
        show (z.toUInt32 >>> ((iI ((24 : Nat) : Int)).toUInt32 &&& Int32.toUInt32 31)).toBitVec = _
        rw [UInt32.toBitVec_shiftRight]; exact congrArg (z.toBitVec >>> ·) (by decide : (((iI ((24 : Nat) : Int)).toUInt32 &&& Int32.toUInt32 31).toBitVec % 32).toNat = 24)
      rw [e1, e2, BitVec.getLsbD_sshiftRight, BitVec.getLsbD_ushiftRight]
      simp [show 24 + i < 32 by omega, hi, show ¬ 32 ≤ i by omega]
  · simp [h8]
theorem and255_b (x : Int) : 0 ≤ andI x 255 ∧ andI x 255 ≤ 255 := by
  unfold andI
  show 0 ≤ (iI x &&& iI 255).toBitVec.toInt ∧ (iI x &&& iI 255).toBitVec.toInt ≤ 255
  rw [Int32.toBitVec_and]
  have h1 : ((iI x).toBitVec &&& (iI 255).toBitVec).toNat ≤ 255 := by
    rw [BitVec.toNat_and]
    exact Nat.le_trans Nat.and_le_right (by decide)
  rw [BitVec.toInt_eq_toNat_of_lt (by omega)]
  omega
/-- how many of the eight lowest -/
def bcN (x : Nat) : Nat := x % 2 + x / 2 % 2 + x / 4 % 2 + x / 8 % 2 + x / 16 % 2 + x / 32 % 2 + x / 64 % 2 + x / 128 % 2
def lowN (x : Nat) : Nat := if x % 2 = 1 then 0 else if x / 2 % 2 = 1 then 1 else if x / 4 % 2 = 1 then 2 else if x / 8 % 2 = 1 then 3 else if x / 16 % 2 = 1 then 4 else 5
section Bits
variable {n : Nat} {Post : PT} {S : Sh} {I : CI} {R : CR}
theorem dJ6_bitCount_0f7a4_0 : decode prog_17_method_49_code 0 = .ok (.iload_n 0, 1) := by decide +kernel
theorem dJ6_bitCount_0f7a4_1 : decode prog_17_method_49_code 1 = .ok (.iload_n 0, 1) := by decide +kernel
theorem dJ6_bitCount_0f7a4_2 : decode prog_17_method_49_code 2 = .ok (.iconst 1, 1) := by decide +kernel
theorem dJ6_bitCount_0f7a4_3 : decode prog_17_method_49_code 3 = .ok (.iushr, 1) := by decide +kernel
theorem dJ6_bitCount_0f7a4_4 : decode prog_17_method_49_code 4 = .ok (.ldc_w 265, 3) := by decide +kernel
theorem dJ6_bitCount_0f7a4_7 : decode prog_17_method_49_code 7 = .ok (.iand, 1) := by decide +kernel
theorem dJ6_bitCount_0f7a4_8 : decode prog_17_method_49_code 8 = .ok (.isub, 1) := by decide +kernel
theorem dJ6_bitCount_0f7a4_9 : decode prog_17_method_49_code 9 = .ok (.istore_n 0, 1) := by decide +kernel
theorem dJ6_bitCount_0f7a4_10 : decode prog_17_method_49_code 10 = .ok (.iload_n 0, 1) := by decide +kernel
theorem dJ6_bitCount_0f7a4_11 : decode prog_17_method_49_code 11 = .ok (.ldc_w 266, 3) := by decide +kernel
theorem dJ6_bitCount_0f7a4_14 : decode prog_17_method_49_code 14 = .ok (.iand, 1) := by decide +kernel
theorem dJ6_bitCount_0f7a4_15 : decode prog_17_method_49_code 15 = .ok (.iload_n 0, 1) := by decide +kernel
theorem dJ6_bitCount_0f7a4_16 : decode prog_17_method_49_code 16 = .ok (.iconst 2, 1) := by decide +kernel
theorem dJ6_bitCount_0f7a4_17 : decode prog_17_method_49_code 17 = .ok (.iushr, 1) := by decide +kernel
theorem dJ6_bitCount_0f7a4_18 : decode prog_17_method_49_code 18 = .ok (.ldc_w 266, 3) := by decide +kernel
theorem dJ6_bitCount_0f7a4_21 : decode prog_17_method_49_code 21 = .ok (.iand, 1) := by decide +kernel
theorem dJ6_bitCount_0f7a4_22 : decode prog_17_method_49_code 22 = .ok (.iadd, 1) := by decide +kernel
theorem dJ6_bitCount_0f7a4_23 : decode prog_17_method_49_code 23 = .ok (.istore_n 0, 1) := by decide +kernel
theorem dJ6_bitCount_0f7a4_24 : decode prog_17_method_49_code 24 = .ok (.iload_n 0, 1) := by decide +kernel
theorem dJ6_bitCount_0f7a4_25 : decode prog_17_method_49_code 25 = .ok (.iload_n 0, 1) := by decide +kernel
theorem dJ6_bitCount_0f7a4_26 : decode prog_17_method_49_code 26 = .ok (.iconst 4, 1) := by decide +kernel
theorem dJ6_bitCount_0f7a4_27 : decode prog_17_method_49_code 27 = .ok (.iushr, 1) := by decide +kernel
theorem dJ6_bitCount_0f7a4_28 : decode prog_17_method_49_code 28 = .ok (.iadd, 1) := by decide +kernel
theorem dJ6_bitCount_0f7a4_29 : decode prog_17_method_49_code 29 = .ok (.ldc_w 267, 3) := by decide +kernel
theorem dJ6_bitCount_0f7a4_32 : decode prog_17_method_49_code 32 = .ok (.iand, 1) := by decide +kernel
theorem dJ6_bitCount_0f7a4_33 : decode prog_17_method_49_code 33 = .ok (.istore_n 0, 1) := by decide +kernel
theorem dJ6_bitCount_0f7a4_34 : decode prog_17_method_49_code 34 = .ok (.iload_n 0, 1) := by decide +kernel
theorem dJ6_bitCount_0f7a4_35 : decode prog_17_method_49_code 35 = .ok (.iload_n 0, 1) := by decide +kernel
theorem dJ6_bitCount_0f7a4_36 : decode prog_17_method_49_code 36 = .ok (.bipush 8, 2) := by decide +kernel
theorem dJ6_bitCount_0f7a4_38 : decode prog_17_method_49_code 38 = .ok (.iushr, 1) := by decide +kernel
theorem dJ6_bitCount_0f7a4_39 : decode prog_17_method_49_code 39 = .ok (.iadd, 1) := by decide +kernel
theorem dJ6_bitCount_0f7a4_40 : decode prog_17_method_49_code 40 = .ok (.istore_n 0, 1) := by decide +kernel
theorem dJ6_bitCount_0f7a4_41 : decode prog_17_method_49_code 41 = .ok (.iload_n 0, 1) := by decide +kernel
theorem dJ6_bitCount_0f7a4_42 : decode prog_17_method_49_code 42 = .ok (.iload_n 0, 1) := by decide +kernel
theorem dJ6_bitCount_0f7a4_43 : decode prog_17_method_49_code 43 = .ok (.bipush 16, 2) := by decide +kernel
theorem dJ6_bitCount_0f7a4_45 : decode prog_17_method_49_code 45 = .ok (.iushr, 1) := by decide +kernel
theorem dJ6_bitCount_0f7a4_46 : decode prog_17_method_49_code 46 = .ok (.iadd, 1) := by decide +kernel
theorem dJ6_bitCount_0f7a4_47 : decode prog_17_method_49_code 47 = .ok (.istore_n 0, 1) := by decide +kernel
theorem dJ6_bitCount_0f7a4_48 : decode prog_17_method_49_code 48 = .ok (.iload_n 0, 1) := by decide +kernel
theorem dJ6_bitCount_0f7a4_49 : decode prog_17_method_49_code 49 = .ok (.bipush 63, 2) := by decide +kernel
theorem dJ6_bitCount_0f7a4_51 : decode prog_17_method_49_code 51 = .ok (.iand, 1) := by decide +kernel
theorem dJ6_bitCount_0f7a4_52 : decode prog_17_method_49_code 52 = .ok (.ireturn, 1) := by decide +kernel
def bcE (x : Int) : Int :=
  let x1 := x - andI (ushrI x 1) 1431655765
  let x2 := andI x1 858993459 + andI (ushrI x1 2) 858993459
  let x3 := andI (x2 + ushrI x2 4) 252645135
  let x4 := x3 + ushrI x3 8
  let x5 := x4 + ushrI x4 16
  andI x5 63
theorem bcE_n {x : Nat} (hx : x < 256) : bcE (x : Int) = ((bcN x : Nat) : Int) := by
  have h : ∀ x : Fin 256, bcE ((x.val : Nat) : Int) = ((bcN x.val : Nat) : Int) := by decide +kernel
  exact h ⟨x, hx⟩
theorem sp_bitCount {x : Nat} (hx : x < 256) (hp : Post (some (.int (iI ((bcN x : Nat) : Int)))) S I R) : Call n 0 0 mJ6_bitCount_0f7a4 [.int (iI (x : Int))] S I R Post := by
  rw [← bcE_n hx] at hp
  refine Call.of (by decide +kernel) (Nat.le_of_ble_eq_true rfl) ?_
  show WP _ _ _ _ _ 0 [(0, _)] [] 0 0 _ _ _
  refine x_iload_n dJ6_bitCount_0f7a4_0 rfl ?_
  refine x_iload_n dJ6_bitCount_0f7a4_1 rfl ?_
  refine x_iconst dJ6_bitCount_0f7a4_2 ?_
  refine x_iushr dJ6_bitCount_0f7a4_3 ?_
  refine x_ldcw (z := 1431655765) dJ6_bitCount_0f7a4_4 (bw_in (lwt_5 (List.mem_of_getElem? (i := 78) (by decide +kernel))) (by decide +kernel)) ?_
  refine x_iand dJ6_bitCount_0f7a4_7 ?_
  refine x_isub dJ6_bitCount_0f7a4_8 ?_
  refine x_istore_n (lv2 := [(0, _)]) dJ6_bitCount_0f7a4_9 (by decide) rfl ?_
  refine x_iload_n dJ6_bitCount_0f7a4_10 rfl ?_
  refine x_ldcw (z := 858993459) dJ6_bitCount_0f7a4_11 (bw_in (lwt_5 (List.mem_of_getElem? (i := 79) (by decide +kernel))) (by decide +kernel)) ?_
  refine x_iand dJ6_bitCount_0f7a4_14 ?_
  refine x_iload_n dJ6_bitCount_0f7a4_15 rfl ?_
  refine x_iconst dJ6_bitCount_0f7a4_16 ?_
  refine x_iushr dJ6_bitCount_0f7a4_17 ?_
  refine x_ldcw (z := 858993459) dJ6_bitCount_0f7a4_18 (bw_in (lwt_5 (List.mem_of_getElem? (i := 79) (by decide +kernel))) (by decide +kernel)) ?_
  refine x_iand dJ6_bitCount_0f7a4_21 ?_
  refine x_iadd dJ6_bitCount_0f7a4_22 ?_
  refine x_istore_n (lv2 := [(0, _)]) dJ6_bitCount_0f7a4_23 (by decide) rfl ?_
  refine x_iload_n dJ6_bitCount_0f7a4_24 rfl ?_
  refine x_iload_n dJ6_bitCount_0f7a4_25 rfl ?_
  refine x_iconst dJ6_bitCount_0f7a4_26 ?_
  refine x_iushr dJ6_bitCount_0f7a4_27 ?_
  refine x_iadd dJ6_bitCount_0f7a4_28 ?_
  refine x_ldcw (z := 252645135) dJ6_bitCount_0f7a4_29 (bw_in (lwt_5 (List.mem_of_getElem? (i := 80) (by decide +kernel))) (by decide +kernel)) ?_
  refine x_iand dJ6_bitCount_0f7a4_32 ?_
  refine x_istore_n (lv2 := [(0, _)]) dJ6_bitCount_0f7a4_33 (by decide) rfl ?_
  refine x_iload_n dJ6_bitCount_0f7a4_34 rfl ?_
  refine x_iload_n dJ6_bitCount_0f7a4_35 rfl ?_
  refine x_bipush dJ6_bitCount_0f7a4_36 (by decide) ?_
  refine x_iushr dJ6_bitCount_0f7a4_38 ?_
  refine x_iadd dJ6_bitCount_0f7a4_39 ?_
  refine x_istore_n (lv2 := [(0, _)]) dJ6_bitCount_0f7a4_40 (by decide) rfl ?_
  refine x_iload_n dJ6_bitCount_0f7a4_41 rfl ?_
  refine x_iload_n dJ6_bitCount_0f7a4_42 rfl ?_
  refine x_bipush dJ6_bitCount_0f7a4_43 (by decide) ?_
  refine x_iushr dJ6_bitCount_0f7a4_45 ?_
  refine x_iadd dJ6_bitCount_0f7a4_46 ?_
  refine x_istore_n (lv2 := [(0, _)]) dJ6_bitCount_0f7a4_47 (by decide) rfl ?_
  refine x_iload_n dJ6_bitCount_0f7a4_48 rfl ?_
  refine x_bipush dJ6_bitCount_0f7a4_49 (by decide) ?_
  refine x_iand dJ6_bitCount_0f7a4_51 ?_
  exact x_ireturn dJ6_bitCount_0f7a4_52 rfl (by omega) (by omega) (hp)
theorem dJ6_numberOfTrailingZeros_0f7a4_0 : decode prog_17_method_48_code 0 = .ok (.iload_n 0, 1) := by decide +kernel
theorem dJ6_numberOfTrailingZeros_0f7a4_1 : decode prog_17_method_48_code 1 = .ok (.iconst (-1), 1) := by decide +kernel
theorem dJ6_numberOfTrailingZeros_0f7a4_2 : decode prog_17_method_48_code 2 = .ok (.ixor, 1) := by decide +kernel
theorem dJ6_numberOfTrailingZeros_0f7a4_3 : decode prog_17_method_48_code 3 = .ok (.iload_n 0, 1) := by decide +kernel
theorem dJ6_numberOfTrailingZeros_0f7a4_4 : decode prog_17_method_48_code 4 = .ok (.iconst 1, 1) := by decide +kernel
theorem dJ6_numberOfTrailingZeros_0f7a4_5 : decode prog_17_method_48_code 5 = .ok (.isub, 1) := by decide +kernel
theorem dJ6_numberOfTrailingZeros_0f7a4_6 : decode prog_17_method_48_code 6 = .ok (.iand, 1) := by decide +kernel
theorem dJ6_numberOfTrailingZeros_0f7a4_7 : decode prog_17_method_48_code 7 = .ok (.istore_n 0, 1) := by decide +kernel
theorem dJ6_numberOfTrailingZeros_0f7a4_8 : decode prog_17_method_48_code 8 = .ok (.iload_n 0, 1) := by decide +kernel
theorem dJ6_numberOfTrailingZeros_0f7a4_9 : decode prog_17_method_48_code 9 = .ok (.ifCond .gt 8, 3) := by decide +kernel
theorem dJ6_numberOfTrailingZeros_0f7a4_12 : decode prog_17_method_48_code 12 = .ok (.iload_n 0, 1) := by decide +kernel
theorem dJ6_numberOfTrailingZeros_0f7a4_13 : decode prog_17_method_48_code 13 = .ok (.bipush 32, 2) := by decide +kernel
theorem dJ6_numberOfTrailingZeros_0f7a4_15 : decode prog_17_method_48_code 15 = .ok (.iand, 1) := by decide +kernel
theorem dJ6_numberOfTrailingZeros_0f7a4_16 : decode prog_17_method_48_code 16 = .ok (.ireturn, 1) := by decide +kernel
theorem dJ6_numberOfTrailingZeros_0f7a4_17 : decode prog_17_method_48_code 17 = .ok (.iconst 1, 1) := by decide +kernel
theorem dJ6_numberOfTrailingZeros_0f7a4_18 : decode prog_17_method_48_code 18 = .ok (.istore_n 1, 1) := by decide +kernel
theorem dJ6_numberOfTrailingZeros_0f7a4_19 : decode prog_17_method_48_code 19 = .ok (.iload_n 0, 1) := by decide +kernel
theorem dJ6_numberOfTrailingZeros_0f7a4_20 : decode prog_17_method_48_code 20 = .ok (.ldc_w 264, 3) := by decide +kernel
theorem dJ6_numberOfTrailingZeros_0f7a4_23 : decode prog_17_method_48_code 23 = .ok (.if_icmp .le 11, 3) := by decide +kernel
theorem dJ6_numberOfTrailingZeros_0f7a4_26 : decode prog_17_method_48_code 26 = .ok (.iinc 1 16, 3) := by decide +kernel
theorem dJ6_numberOfTrailingZeros_0f7a4_29 : decode prog_17_method_48_code 29 = .ok (.iload_n 0, 1) := by decide +kernel
theorem dJ6_numberOfTrailingZeros_0f7a4_30 : decode prog_17_method_48_code 30 = .ok (.bipush 16, 2) := by decide +kernel
theorem dJ6_numberOfTrailingZeros_0f7a4_32 : decode prog_17_method_48_code 32 = .ok (.iushr, 1) := by decide +kernel
theorem dJ6_numberOfTrailingZeros_0f7a4_33 : decode prog_17_method_48_code 33 = .ok (.istore_n 0, 1) := by decide +kernel
theorem dJ6_numberOfTrailingZeros_0f7a4_34 : decode prog_17_method_48_code 34 = .ok (.iload_n 0, 1) := by decide +kernel
theorem dJ6_numberOfTrailingZeros_0f7a4_35 : decode prog_17_method_48_code 35 = .ok (.sipush 256, 3) := by decide +kernel
theorem dJ6_numberOfTrailingZeros_0f7a4_38 : decode prog_17_method_48_code 38 = .ok (.if_icmp .le 11, 3) := by decide +kernel
theorem dJ6_numberOfTrailingZeros_0f7a4_41 : decode prog_17_method_48_code 41 = .ok (.iinc 1 8, 3) := by decide +kernel
theorem dJ6_numberOfTrailingZeros_0f7a4_44 : decode prog_17_method_48_code 44 = .ok (.iload_n 0, 1) := by decide +kernel
theorem dJ6_numberOfTrailingZeros_0f7a4_45 : decode prog_17_method_48_code 45 = .ok (.bipush 8, 2) := by decide +kernel
theorem dJ6_numberOfTrailingZeros_0f7a4_47 : decode prog_17_method_48_code 47 = .ok (.iushr, 1) := by decide +kernel
theorem dJ6_numberOfTrailingZeros_0f7a4_48 : decode prog_17_method_48_code 48 = .ok (.istore_n 0, 1) := by decide +kernel
theorem dJ6_numberOfTrailingZeros_0f7a4_49 : decode prog_17_method_48_code 49 = .ok (.iload_n 0, 1) := by decide +kernel
theorem dJ6_numberOfTrailingZeros_0f7a4_50 : decode prog_17_method_48_code 50 = .ok (.bipush 16, 2) := by decide +kernel
theorem dJ6_numberOfTrailingZeros_0f7a4_52 : decode prog_17_method_48_code 52 = .ok (.if_icmp .le 10, 3) := by decide +kernel
theorem dJ6_numberOfTrailingZeros_0f7a4_55 : decode prog_17_method_48_code 55 = .ok (.iinc 1 4, 3) := by decide +kernel
theorem dJ6_numberOfTrailingZeros_0f7a4_58 : decode prog_17_method_48_code 58 = .ok (.iload_n 0, 1) := by decide +kernel
theorem dJ6_numberOfTrailingZeros_0f7a4_59 : decode prog_17_method_48_code 59 = .ok (.iconst 4, 1) := by decide +kernel
theorem dJ6_numberOfTrailingZeros_0f7a4_60 : decode prog_17_method_48_code 60 = .ok (.iushr, 1) := by decide +kernel
theorem dJ6_numberOfTrailingZeros_0f7a4_61 : decode prog_17_method_48_code 61 = .ok (.istore_n 0, 1) := by decide +kernel
theorem dJ6_numberOfTrailingZeros_0f7a4_62 : decode prog_17_method_48_code 62 = .ok (.iload_n 0, 1) := by decide +kernel
theorem dJ6_numberOfTrailingZeros_0f7a4_63 : decode prog_17_method_48_code 63 = .ok (.iconst 4, 1) := by decide +kernel
theorem dJ6_numberOfTrailingZeros_0f7a4_64 : decode prog_17_method_48_code 64 = .ok (.if_icmp .le 10, 3) := by decide +kernel
theorem dJ6_numberOfTrailingZeros_0f7a4_67 : decode prog_17_method_48_code 67 = .ok (.iinc 1 2, 3) := by decide +kernel
theorem dJ6_numberOfTrailingZeros_0f7a4_70 : decode prog_17_method_48_code 70 = .ok (.iload_n 0, 1) := by decide +kernel
theorem dJ6_numberOfTrailingZeros_0f7a4_71 : decode prog_17_method_48_code 71 = .ok (.iconst 2, 1) := by decide +kernel
theorem dJ6_numberOfTrailingZeros_0f7a4_72 : decode prog_17_method_48_code 72 = .ok (.iushr, 1) := by decide +kernel
theorem dJ6_numberOfTrailingZeros_0f7a4_73 : decode prog_17_method_48_code 73 = .ok (.istore_n 0, 1) := by decide +kernel
theorem dJ6_numberOfTrailingZeros_0f7a4_74 : decode prog_17_method_48_code 74 = .ok (.iload_n 1, 1) := by decide +kernel
theorem dJ6_numberOfTrailingZeros_0f7a4_75 : decode prog_17_method_48_code 75 = .ok (.iload_n 0, 1) := by decide +kernel
theorem dJ6_numberOfTrailingZeros_0f7a4_76 : decode prog_17_method_48_code 76 = .ok (.iconst 1, 1) := by decide +kernel
theorem dJ6_numberOfTrailingZeros_0f7a4_77 : decode prog_17_method_48_code 77 = .ok (.iushr, 1) := by decide +kernel
theorem dJ6_numberOfTrailingZeros_0f7a4_78 : decode prog_17_method_48_code 78 = .ok (.iadd, 1) := by decide +kernel
theorem dJ6_numberOfTrailingZeros_0f7a4_79 : decode prog_17_method_48_code 79 = .ok (.ireturn, 1) := by decide +kernel
theorem ntz_0 {x : Int} (hx : Rg x) (hy : andI (xorI x (-1)) (x - 1) = 0) (hp : Post (some (.int (iI 0))) S I R) : Call n 0 0 mJ6_numberOfTrailingZeros_0f7a4 [.int (iI x)] S I R Post := by
  refine Call.of (by decide +kernel) (Nat.le_of_ble_eq_true rfl) ?_
  show WP _ _ _ _ _ 0 [(0, _)] [] 0 0 _ _ _
  refine x_iload_n dJ6_numberOfTrailingZeros_0f7a4_0 rfl ?_
  refine x_iconst dJ6_numberOfTrailingZeros_0f7a4_1 ?_
  refine x_ixor dJ6_numberOfTrailingZeros_0f7a4_2 ?_
  refine x_iload_n dJ6_numberOfTrailingZeros_0f7a4_3 rfl ?_
  refine x_iconst dJ6_numberOfTrailingZeros_0f7a4_4 ?_
  refine x_isub dJ6_numberOfTrailingZeros_0f7a4_5 ?_
  refine x_iand dJ6_numberOfTrailingZeros_0f7a4_6 ?_
  rw [hy]
  refine x_istore_n (lv2 := [(0, _)]) dJ6_numberOfTrailingZeros_0f7a4_7 (by decide) rfl ?_
  refine x_iload_n dJ6_numberOfTrailingZeros_0f7a4_8 rfl ?_
  refine x_if_gt 17 dJ6_numberOfTrailingZeros_0f7a4_9 (by decide) (by omega) (fun w9 => ?_) (fun w9 => ?_)
  · exfalso; omega
  · refine x_iload_n dJ6_numberOfTrailingZeros_0f7a4_12 rfl ?_
    refine x_bipush dJ6_numberOfTrailingZeros_0f7a4_13 (by decide) ?_
    refine x_iand dJ6_numberOfTrailingZeros_0f7a4_15 ?_
    rw [show andI 0 32 = 0 by decide]
    exact x_ireturn dJ6_numberOfTrailingZeros_0f7a4_16 rfl (by omega) (by omega) (hp)
theorem ntz_1 {x : Int} (hx : Rg x) (hy : andI (xorI x (-1)) (x - 1) = 1) (hp : Post (some (.int (iI 1))) S I R) : Call n 0 0 mJ6_numberOfTrailingZeros_0f7a4 [.int (iI x)] S I R Post := by
  refine Call.of (by decide +kernel) (Nat.le_of_ble_eq_true rfl) ?_
  show WP _ _ _ _ _ 0 [(0, _)] [] 0 0 _ _ _
  refine x_iload_n dJ6_numberOfTrailingZeros_0f7a4_0 rfl ?_
  refine x_iconst dJ6_numberOfTrailingZeros_0f7a4_1 ?_
  refine x_ixor dJ6_numberOfTrailingZeros_0f7a4_2 ?_
  refine x_iload_n dJ6_numberOfTrailingZeros_0f7a4_3 rfl ?_
  refine x_iconst dJ6_numberOfTrailingZeros_0f7a4_4 ?_
  refine x_isub dJ6_numberOfTrailingZeros_0f7a4_5 ?_
  refine x_iand dJ6_numberOfTrailingZeros_0f7a4_6 ?_
  rw [hy]
  refine x_istore_n (lv2 := [(0, _)]) dJ6_numberOfTrailingZeros_0f7a4_7 (by decide) rfl ?_
  refine x_iload_n dJ6_numberOfTrailingZeros_0f7a4_8 rfl ?_
  refine x_if_gt 17 dJ6_numberOfTrailingZeros_0f7a4_9 (by decide) (by omega) (fun w9 => ?_) (fun w9 => ?_)
  · refine x_iconst dJ6_numberOfTrailingZeros_0f7a4_17 ?_
    refine x_istore_n (lv2 := [(1, _), (0, _)]) dJ6_numberOfTrailingZeros_0f7a4_18 (by decide) rfl ?_
    refine x_iload_n dJ6_numberOfTrailingZeros_0f7a4_19 rfl ?_
    refine x_ldcw (z := 65536) dJ6_numberOfTrailingZeros_0f7a4_20 (bw_in (lwt_5 (List.mem_of_getElem? (i := 159) (by decide +kernel))) (by decide +kernel)) ?_
    refine x_icmp_le 34 dJ6_numberOfTrailingZeros_0f7a4_23 (by decide) ⟨(by omega), (by omega)⟩ (fun w23 => ?_) (fun w23 => ?_)
    · refine x_iload_n dJ6_numberOfTrailingZeros_0f7a4_34 rfl ?_
      refine x_sipush dJ6_numberOfTrailingZeros_0f7a4_35 (by decide) ?_
      refine x_icmp_le 49 dJ6_numberOfTrailingZeros_0f7a4_38 (by decide) ⟨(by omega), (by omega)⟩ (fun w38 => ?_) (fun w38 => ?_)
      · refine x_iload_n dJ6_numberOfTrailingZeros_0f7a4_49 rfl ?_
        refine x_bipush dJ6_numberOfTrailingZeros_0f7a4_50 (by decide) ?_
        refine x_icmp_le 62 dJ6_numberOfTrailingZeros_0f7a4_52 (by decide) ⟨(by omega), (by omega)⟩ (fun w52 => ?_) (fun w52 => ?_)
        · refine x_iload_n dJ6_numberOfTrailingZeros_0f7a4_62 rfl ?_
          refine x_iconst dJ6_numberOfTrailingZeros_0f7a4_63 ?_
          refine x_icmp_le 74 dJ6_numberOfTrailingZeros_0f7a4_64 (by decide) ⟨(by omega), (by omega)⟩ (fun w64 => ?_) (fun w64 => ?_)
          · refine x_iload_n dJ6_numberOfTrailingZeros_0f7a4_74 rfl ?_
            refine x_iload_n dJ6_numberOfTrailingZeros_0f7a4_75 rfl ?_
            refine x_iconst dJ6_numberOfTrailingZeros_0f7a4_76 ?_
            refine x_iushr dJ6_numberOfTrailingZeros_0f7a4_77 ?_
            rw [show ushrI 1 1 = 0 by decide]
            refine x_iadd dJ6_numberOfTrailingZeros_0f7a4_78 ?_
            exact x_ireturn dJ6_numberOfTrailingZeros_0f7a4_79 rfl (by omega) (by omega) (hp)
          · exfalso; omega
        · exfalso; omega
      · exfalso; omega
    · exfalso; omega
  · exfalso; omega
theorem ntz_2 {x : Int} (hx : Rg x) (hy : andI (xorI x (-1)) (x - 1) = 3) (hp : Post (some (.int (iI 2))) S I R) : Call n 0 0 mJ6_numberOfTrailingZeros_0f7a4 [.int (iI x)] S I R Post := by
  refine Call.of (by decide +kernel) (Nat.le_of_ble_eq_true rfl) ?_
  show WP _ _ _ _ _ 0 [(0, _)] [] 0 0 _ _ _
  refine x_iload_n dJ6_numberOfTrailingZeros_0f7a4_0 rfl ?_
  refine x_iconst dJ6_numberOfTrailingZeros_0f7a4_1 ?_
  refine x_ixor dJ6_numberOfTrailingZeros_0f7a4_2 ?_
  refine x_iload_n dJ6_numberOfTrailingZeros_0f7a4_3 rfl ?_
  refine x_iconst dJ6_numberOfTrailingZeros_0f7a4_4 ?_
  refine x_isub dJ6_numberOfTrailingZeros_0f7a4_5 ?_
  refine x_iand dJ6_numberOfTrailingZeros_0f7a4_6 ?_
  rw [hy]
  refine x_istore_n (lv2 := [(0, _)]) dJ6_numberOfTrailingZeros_0f7a4_7 (by decide) rfl ?_
  refine x_iload_n dJ6_numberOfTrailingZeros_0f7a4_8 rfl ?_
  refine x_if_gt 17 dJ6_numberOfTrailingZeros_0f7a4_9 (by decide) (by omega) (fun w9 => ?_) (fun w9 => ?_)
  · refine x_iconst dJ6_numberOfTrailingZeros_0f7a4_17 ?_
    refine x_istore_n (lv2 := [(1, _), (0, _)]) dJ6_numberOfTrailingZeros_0f7a4_18 (by decide) rfl ?_
    refine x_iload_n dJ6_numberOfTrailingZeros_0f7a4_19 rfl ?_
    refine x_ldcw (z := 65536) dJ6_numberOfTrailingZeros_0f7a4_20 (bw_in (lwt_5 (List.mem_of_getElem? (i := 159) (by decide +kernel))) (by decide +kernel)) ?_
    refine x_icmp_le 34 dJ6_numberOfTrailingZeros_0f7a4_23 (by decide) ⟨(by omega), (by omega)⟩ (fun w23 => ?_) (fun w23 => ?_)
    · refine x_iload_n dJ6_numberOfTrailingZeros_0f7a4_34 rfl ?_
      refine x_sipush dJ6_numberOfTrailingZeros_0f7a4_35 (by decide) ?_
      refine x_icmp_le 49 dJ6_numberOfTrailingZeros_0f7a4_38 (by decide) ⟨(by omega), (by omega)⟩ (fun w38 => ?_) (fun w38 => ?_)
      · refine x_iload_n dJ6_numberOfTrailingZeros_0f7a4_49 rfl ?_
        refine x_bipush dJ6_numberOfTrailingZeros_0f7a4_50 (by decide) ?_
        refine x_icmp_le 62 dJ6_numberOfTrailingZeros_0f7a4_52 (by decide) ⟨(by omega), (by omega)⟩ (fun w52 => ?_) (fun w52 => ?_)
        · refine x_iload_n dJ6_numberOfTrailingZeros_0f7a4_62 rfl ?_
          refine x_iconst dJ6_numberOfTrailingZeros_0f7a4_63 ?_
          refine x_icmp_le 74 dJ6_numberOfTrailingZeros_0f7a4_64 (by decide) ⟨(by omega), (by omega)⟩ (fun w64 => ?_) (fun w64 => ?_)
          · refine x_iload_n dJ6_numberOfTrailingZeros_0f7a4_74 rfl ?_
            refine x_iload_n dJ6_numberOfTrailingZeros_0f7a4_75 rfl ?_
            refine x_iconst dJ6_numberOfTrailingZeros_0f7a4_76 ?_
            refine x_iushr dJ6_numberOfTrailingZeros_0f7a4_77 ?_
            rw [show ushrI 3 1 = 1 by decide]
            refine x_iadd dJ6_numberOfTrailingZeros_0f7a4_78 ?_
            exact x_ireturn dJ6_numberOfTrailingZeros_0f7a4_79 rfl (by omega) (by omega) (hp)
          · exfalso; omega
        · exfalso; omega
      · exfalso; omega
    · exfalso; omega
  · exfalso; omega
theorem ntz_3 {x : Int} (hx : Rg x) (hy : andI (xorI x (-1)) (x - 1) = 7) (hp : Post (some (.int (iI 3))) S I R) : Call n 0 0 mJ6_numberOfTrailingZeros_0f7a4 [.int (iI x)] S I R Post := by
  refine Call.of (by decide +kernel) (Nat.le_of_ble_eq_true rfl) ?_
  show WP _ _ _ _ _ 0 [(0, _)] [] 0 0 _ _ _
  refine x_iload_n dJ6_numberOfTrailingZeros_0f7a4_0 rfl ?_
  refine x_iconst dJ6_numberOfTrailingZeros_0f7a4_1 ?_
  refine x_ixor dJ6_numberOfTrailingZeros_0f7a4_2 ?_
  refine x_iload_n dJ6_numberOfTrailingZeros_0f7a4_3 rfl ?_
  refine x_iconst dJ6_numberOfTrailingZeros_0f7a4_4 ?_
  refine x_isub dJ6_numberOfTrailingZeros_0f7a4_5 ?_
  refine x_iand dJ6_numberOfTrailingZeros_0f7a4_6 ?_
  rw [hy]
  refine x_istore_n (lv2 := [(0, _)]) dJ6_numberOfTrailingZeros_0f7a4_7 (by decide) rfl ?_
  refine x_iload_n dJ6_numberOfTrailingZeros_0f7a4_8 rfl ?_
  refine x_if_gt 17 dJ6_numberOfTrailingZeros_0f7a4_9 (by decide) (by omega) (fun w9 => ?_) (fun w9 => ?_)
  · refine x_iconst dJ6_numberOfTrailingZeros_0f7a4_17 ?_
    refine x_istore_n (lv2 := [(1, _), (0, _)]) dJ6_numberOfTrailingZeros_0f7a4_18 (by decide) rfl ?_
    refine x_iload_n dJ6_numberOfTrailingZeros_0f7a4_19 rfl ?_
    refine x_ldcw (z := 65536) dJ6_numberOfTrailingZeros_0f7a4_20 (bw_in (lwt_5 (List.mem_of_getElem? (i := 159) (by decide +kernel))) (by decide +kernel)) ?_
    refine x_icmp_le 34 dJ6_numberOfTrailingZeros_0f7a4_23 (by decide) ⟨(by omega), (by omega)⟩ (fun w23 => ?_) (fun w23 => ?_)
    · refine x_iload_n dJ6_numberOfTrailingZeros_0f7a4_34 rfl ?_
      refine x_sipush dJ6_numberOfTrailingZeros_0f7a4_35 (by decide) ?_
      refine x_icmp_le 49 dJ6_numberOfTrailingZeros_0f7a4_38 (by decide) ⟨(by omega), (by omega)⟩ (fun w38 => ?_) (fun w38 => ?_)
      · refine x_iload_n dJ6_numberOfTrailingZeros_0f7a4_49 rfl ?_
        refine x_bipush dJ6_numberOfTrailingZeros_0f7a4_50 (by decide) ?_
        refine x_icmp_le 62 dJ6_numberOfTrailingZeros_0f7a4_52 (by decide) ⟨(by omega), (by omega)⟩ (fun w52 => ?_) (fun w52 => ?_)
        · refine x_iload_n dJ6_numberOfTrailingZeros_0f7a4_62 rfl ?_
          refine x_iconst dJ6_numberOfTrailingZeros_0f7a4_63 ?_
          refine x_icmp_le 74 dJ6_numberOfTrailingZeros_0f7a4_64 (by decide) ⟨(by omega), (by omega)⟩ (fun w64 => ?_) (fun w64 => ?_)
          · exfalso; omega
          · refine x_iinc (lv2 := [(1, _), (0, _)]) dJ6_numberOfTrailingZeros_0f7a4_67 rfl (by decide) rfl ?_
            refine x_iload_n dJ6_numberOfTrailingZeros_0f7a4_70 rfl ?_
            refine x_iconst dJ6_numberOfTrailingZeros_0f7a4_71 ?_
            refine x_iushr dJ6_numberOfTrailingZeros_0f7a4_72 ?_
            rw [show ushrI 7 2 = 1 by decide]
            refine x_istore_n (lv2 := [(0, _), (1, _)]) dJ6_numberOfTrailingZeros_0f7a4_73 (by decide) rfl ?_
            refine x_iload_n dJ6_numberOfTrailingZeros_0f7a4_74 rfl ?_
            refine x_iload_n dJ6_numberOfTrailingZeros_0f7a4_75 rfl ?_
            refine x_iconst dJ6_numberOfTrailingZeros_0f7a4_76 ?_
            refine x_iushr dJ6_numberOfTrailingZeros_0f7a4_77 ?_
            rw [show ushrI 1 1 = 0 by decide]
            refine x_iadd dJ6_numberOfTrailingZeros_0f7a4_78 ?_
            exact x_ireturn dJ6_numberOfTrailingZeros_0f7a4_79 rfl (by omega) (by omega) (hp)
        · exfalso; omega
      · exfalso; omega
    · exfalso; omega
  · exfalso; omega
theorem ntz_4 {x : Int} (hx : Rg x) (hy : andI (xorI x (-1)) (x - 1) = 15) (hp : Post (some (.int (iI 4))) S I R) : Call n 0 0 mJ6_numberOfTrailingZeros_0f7a4 [.int (iI x)] S I R Post := by
  refine Call.of (by decide +kernel) (Nat.le_of_ble_eq_true rfl) ?_
  show WP _ _ _ _ _ 0 [(0, _)] [] 0 0 _ _ _
  refine x_iload_n dJ6_numberOfTrailingZeros_0f7a4_0 rfl ?_
  refine x_iconst dJ6_numberOfTrailingZeros_0f7a4_1 ?_
  refine x_ixor dJ6_numberOfTrailingZeros_0f7a4_2 ?_
  refine x_iload_n dJ6_numberOfTrailingZeros_0f7a4_3 rfl ?_
  refine x_iconst dJ6_numberOfTrailingZeros_0f7a4_4 ?_
  refine x_isub dJ6_numberOfTrailingZeros_0f7a4_5 ?_
  refine x_iand dJ6_numberOfTrailingZeros_0f7a4_6 ?_
  rw [hy]
  refine x_istore_n (lv2 := [(0, _)]) dJ6_numberOfTrailingZeros_0f7a4_7 (by decide) rfl ?_
  refine x_iload_n dJ6_numberOfTrailingZeros_0f7a4_8 rfl ?_
  refine x_if_gt 17 dJ6_numberOfTrailingZeros_0f7a4_9 (by decide) (by omega) (fun w9 => ?_) (fun w9 => ?_)
  · refine x_iconst dJ6_numberOfTrailingZeros_0f7a4_17 ?_
    refine x_istore_n (lv2 := [(1, _), (0, _)]) dJ6_numberOfTrailingZeros_0f7a4_18 (by decide) rfl ?_
    refine x_iload_n dJ6_numberOfTrailingZeros_0f7a4_19 rfl ?_
    refine x_ldcw (z := 65536) dJ6_numberOfTrailingZeros_0f7a4_20 (bw_in (lwt_5 (List.mem_of_getElem? (i := 159) (by decide +kernel))) (by decide +kernel)) ?_
    refine x_icmp_le 34 dJ6_numberOfTrailingZeros_0f7a4_23 (by decide) ⟨(by omega), (by omega)⟩ (fun w23 => ?_) (fun w23 => ?_)
    · refine x_iload_n dJ6_numberOfTrailingZeros_0f7a4_34 rfl ?_
      refine x_sipush dJ6_numberOfTrailingZeros_0f7a4_35 (by decide) ?_
      refine x_icmp_le 49 dJ6_numberOfTrailingZeros_0f7a4_38 (by decide) ⟨(by omega), (by omega)⟩ (fun w38 => ?_) (fun w38 => ?_)
      · refine x_iload_n dJ6_numberOfTrailingZeros_0f7a4_49 rfl ?_
        refine x_bipush dJ6_numberOfTrailingZeros_0f7a4_50 (by decide) ?_
        refine x_icmp_le 62 dJ6_numberOfTrailingZeros_0f7a4_52 (by decide) ⟨(by omega), (by omega)⟩ (fun w52 => ?_) (fun w52 => ?_)
        · refine x_iload_n dJ6_numberOfTrailingZeros_0f7a4_62 rfl ?_
          refine x_iconst dJ6_numberOfTrailingZeros_0f7a4_63 ?_
          refine x_icmp_le 74 dJ6_numberOfTrailingZeros_0f7a4_64 (by decide) ⟨(by omega), (by omega)⟩ (fun w64 => ?_) (fun w64 => ?_)
          · exfalso; omega
          · refine x_iinc (lv2 := [(1, _), (0, _)]) dJ6_numberOfTrailingZeros_0f7a4_67 rfl (by decide) rfl ?_
            refine x_iload_n dJ6_numberOfTrailingZeros_0f7a4_70 rfl ?_
            refine x_iconst dJ6_numberOfTrailingZeros_0f7a4_71 ?_
            refine x_iushr dJ6_numberOfTrailingZeros_0f7a4_72 ?_
            rw [show ushrI 15 2 = 3 by decide]
            refine x_istore_n (lv2 := [(0, _), (1, _)]) dJ6_numberOfTrailingZeros_0f7a4_73 (by decide) rfl ?_
            refine x_iload_n dJ6_numberOfTrailingZeros_0f7a4_74 rfl ?_
            refine x_iload_n dJ6_numberOfTrailingZeros_0f7a4_75 rfl ?_
            refine x_iconst dJ6_numberOfTrailingZeros_0f7a4_76 ?_
            refine x_iushr dJ6_numberOfTrailingZeros_0f7a4_77 ?_
            rw [show ushrI 3 1 = 1 by decide]
            refine x_iadd dJ6_numberOfTrailingZeros_0f7a4_78 ?_
            exact x_ireturn dJ6_numberOfTrailingZeros_0f7a4_79 rfl (by omega) (by omega) (hp)
        · exfalso; omega
      · exfalso; omega
    · exfalso; omega
  · exfalso; omega
theorem ntz_5 {x : Int} (hx : Rg x) (hy : andI (xorI x (-1)) (x - 1) = 31) (hp : Post (some (.int (iI 5))) S I R) : Call n 0 0 mJ6_numberOfTrailingZeros_0f7a4 [.int (iI x)] S I R Post := by
  refine Call.of (by decide +kernel) (Nat.le_of_ble_eq_true rfl) ?_
  show WP _ _ _ _ _ 0 [(0, _)] [] 0 0 _ _ _
  refine x_iload_n dJ6_numberOfTrailingZeros_0f7a4_0 rfl ?_
  refine x_iconst dJ6_numberOfTrailingZeros_0f7a4_1 ?_
  refine x_ixor dJ6_numberOfTrailingZeros_0f7a4_2 ?_
  refine x_iload_n dJ6_numberOfTrailingZeros_0f7a4_3 rfl ?_
  refine x_iconst dJ6_numberOfTrailingZeros_0f7a4_4 ?_
  refine x_isub dJ6_numberOfTrailingZeros_0f7a4_5 ?_
  refine x_iand dJ6_numberOfTrailingZeros_0f7a4_6 ?_
  rw [hy]
  refine x_istore_n (lv2 := [(0, _)]) dJ6_numberOfTrailingZeros_0f7a4_7 (by decide) rfl ?_
  refine x_iload_n dJ6_numberOfTrailingZeros_0f7a4_8 rfl ?_
  refine x_if_gt 17 dJ6_numberOfTrailingZeros_0f7a4_9 (by decide) (by omega) (fun w9 => ?_) (fun w9 => ?_)
  · refine x_iconst dJ6_numberOfTrailingZeros_0f7a4_17 ?_
    refine x_istore_n (lv2 := [(1, _), (0, _)]) dJ6_numberOfTrailingZeros_0f7a4_18 (by decide) rfl ?_
    refine x_iload_n dJ6_numberOfTrailingZeros_0f7a4_19 rfl ?_
    refine x_ldcw (z := 65536) dJ6_numberOfTrailingZeros_0f7a4_20 (bw_in (lwt_5 (List.mem_of_getElem? (i := 159) (by decide +kernel))) (by decide +kernel)) ?_
    refine x_icmp_le 34 dJ6_numberOfTrailingZeros_0f7a4_23 (by decide) ⟨(by omega), (by omega)⟩ (fun w23 => ?_) (fun w23 => ?_)
    · refine x_iload_n dJ6_numberOfTrailingZeros_0f7a4_34 rfl ?_
      refine x_sipush dJ6_numberOfTrailingZeros_0f7a4_35 (by decide) ?_
      refine x_icmp_le 49 dJ6_numberOfTrailingZeros_0f7a4_38 (by decide) ⟨(by omega), (by omega)⟩ (fun w38 => ?_) (fun w38 => ?_)
      · refine x_iload_n dJ6_numberOfTrailingZeros_0f7a4_49 rfl ?_
        refine x_bipush dJ6_numberOfTrailingZeros_0f7a4_50 (by decide) ?_
        refine x_icmp_le 62 dJ6_numberOfTrailingZeros_0f7a4_52 (by decide) ⟨(by omega), (by omega)⟩ (fun w52 => ?_) (fun w52 => ?_)
        · exfalso; omega
        · refine x_iinc (lv2 := [(1, _), (0, _)]) dJ6_numberOfTrailingZeros_0f7a4_55 rfl (by decide) rfl ?_
          refine x_iload_n dJ6_numberOfTrailingZeros_0f7a4_58 rfl ?_
          refine x_iconst dJ6_numberOfTrailingZeros_0f7a4_59 ?_
          refine x_iushr dJ6_numberOfTrailingZeros_0f7a4_60 ?_
          rw [show ushrI 31 4 = 1 by decide]
          refine x_istore_n (lv2 := [(0, _), (1, _)]) dJ6_numberOfTrailingZeros_0f7a4_61 (by decide) rfl ?_
          refine x_iload_n dJ6_numberOfTrailingZeros_0f7a4_62 rfl ?_
          refine x_iconst dJ6_numberOfTrailingZeros_0f7a4_63 ?_
          refine x_icmp_le 74 dJ6_numberOfTrailingZeros_0f7a4_64 (by decide) ⟨(by omega), (by omega)⟩ (fun w64 => ?_) (fun w64 => ?_)
          · refine x_iload_n dJ6_numberOfTrailingZeros_0f7a4_74 rfl ?_
            refine x_iload_n dJ6_numberOfTrailingZeros_0f7a4_75 rfl ?_
            refine x_iconst dJ6_numberOfTrailingZeros_0f7a4_76 ?_
            refine x_iushr dJ6_numberOfTrailingZeros_0f7a4_77 ?_
            rw [show ushrI 1 1 = 0 by decide]
            refine x_iadd dJ6_numberOfTrailingZeros_0f7a4_78 ?_
            exact x_ireturn dJ6_numberOfTrailingZeros_0f7a4_79 rfl (by omega) (by omega) (hp)
          · exfalso; omega
      · exfalso; omega
    · exfalso; omega
  · exfalso; omega
theorem ntz_y {x : Nat} (hx : 0 < x ∧ x < 64) : (lowN x = 0 ∧ andI (xorI (x : Int) (-1)) ((x : Int) - 1) = 0) ∨ (lowN x = 1 ∧ andI (xorI (x : Int) (-1)) ((x : Int) - 1) = 1) ∨ (lowN x = 2 ∧ andI (xorI (x : Int) (-1)) ((x : Int) - 1) = 3) ∨ (lowN x = 3 ∧ andI (xorI (x : Int) (-1)) ((x : Int) - 1) = 7) ∨ (lowN x = 4 ∧ andI (xorI (x : Int) (-1)) ((x : Int) - 1) = 15) ∨ (lowN x = 5 ∧ andI (xorI (x : Int) (-1)) ((x : Int) - 1) = 31) := by
  have h : ∀ x : Fin 64, 0 < x.val → ((lowN x.val = 0 ∧ andI (xorI ((x.val : Nat) : Int) (-1)) (((x.val : Nat) : Int) - 1) = 0) ∨ (lowN x.val = 1 ∧ andI (xorI ((x.val : Nat) : Int) (-1)) (((x.val : Nat) : Int) - 1) = 1) ∨ (lowN x.val = 2 ∧ andI (xorI ((x.val : Nat) : Int) (-1)) (((x.val : Nat) : Int) - 1) = 3) ∨ (lowN x.val = 3 ∧ andI (xorI ((x.val : Nat) : Int) (-1)) (((x.val : Nat) : Int) - 1) = 7) ∨ (lowN x.val = 4 ∧ andI (xorI ((x.val : Nat) : Int) (-1)) (((x.val : Nat) : Int) - 1) = 15) ∨ (lowN x.val = 5 ∧ andI (xorI ((x.val : Nat) : Int) (-1)) (((x.val : Nat) : Int) - 1) = 31)) := by decide +kernel
  exact h ⟨x, hx.2⟩ hx.1
theorem sp_ntz {x : Nat} (hx : 0 < x ∧ x < 64) (hp : Post (some (.int (iI ((lowN x : Nat) : Int)))) S I R) : Call n 0 0 mJ6_numberOfTrailingZeros_0f7a4 [.int (iI (x : Int))] S I R Post := by
  rcases ntz_y hx with h | h | h | h | h | h
  · rw [h.1] at hp; exact ntz_0 (by omega) h.2 hp
  · rw [h.1] at hp; exact ntz_1 (by omega) h.2 hp
  · rw [h.1] at hp; exact ntz_2 (by omega) h.2 hp
  · rw [h.1] at hp; exact ntz_3 (by omega) h.2 hp
  · rw [h.1] at hp; exact ntz_4 (by omega) h.2 hp
  · rw [h.1] at hp; exact ntz_5 (by omega) h.2 hp
theorem dJ7_fill_53178_0 : decode prog_23_method_103_code 0 = .ok (.iconst 0, 1) := by decide +kernel
theorem dJ7_fill_53178_1 : decode prog_23_method_103_code 1 = .ok (.istore_n 2, 1) := by decide +kernel
theorem dJ7_fill_53178_2 : decode prog_23_method_103_code 2 = .ok (.aload_n 0, 1) := by decide +kernel
theorem dJ7_fill_53178_3 : decode prog_23_method_103_code 3 = .ok (.arraylength, 1) := by decide +kernel
theorem dJ7_fill_53178_4 : decode prog_23_method_103_code 4 = .ok (.istore_n 3, 1) := by decide +kernel
theorem dJ7_fill_53178_5 : decode prog_23_method_103_code 5 = .ok (.iload_n 2, 1) := by decide +kernel
theorem dJ7_fill_53178_6 : decode prog_23_method_103_code 6 = .ok (.iload_n 3, 1) := by decide +kernel
theorem dJ7_fill_53178_7 : decode prog_23_method_103_code 7 = .ok (.if_icmp .ge 13, 3) := by decide +kernel
theorem dJ7_fill_53178_10 : decode prog_23_method_103_code 10 = .ok (.aload_n 0, 1) := by decide +kernel
theorem dJ7_fill_53178_11 : decode prog_23_method_103_code 11 = .ok (.iload_n 2, 1) := by decide +kernel
theorem dJ7_fill_53178_12 : decode prog_23_method_103_code 12 = .ok (.iload_n 1, 1) := by decide +kernel
theorem dJ7_fill_53178_13 : decode prog_23_method_103_code 13 = .ok (.iastore, 1) := by decide +kernel
theorem dJ7_fill_53178_14 : decode prog_23_method_103_code 14 = .ok (.iinc 2 1, 3) := by decide +kernel
theorem dJ7_fill_53178_17 : decode prog_23_method_103_code 17 = .ok (.goto (-12), 3) := by decide +kernel
theorem dJ7_fill_53178_20 : decode prog_23_method_103_code 20 = .ok (.return_, 1) := by decide +kernel
theorem lp_fill {a N : Nat} {v : Int} (hA : AR S a 13 N) (hN : N ≤ 1000) (hp : ∀ I', (∀ i, i < N → I' a i = v) → (∀ c, c ≠ a → I' c = I c) → Post none S I' R) : ∀ (d k : Nat) (J : CI), k ≤ N → N - k = d → (∀ i, i < k → J a i = v) → (∀ c, c ≠ a → J c = I c) → WP n 0 0 mJ7_fill_53178 Post 5 [(0, .ref (S.2.1 a)), (1, .int (iI v)), (2, .int (iI (k : Int))), (3, .int (iI (N : Int)))] [] 0 0 S J R := by
  intro d
  induction d using Nat.strongRecOn with
  | ind d ih =>
    intro k J k1 k2 h1 h2
    refine x_iload_n dJ7_fill_53178_5 rfl ?_
    refine x_iload_n dJ7_fill_53178_6 rfl ?_
    refine x_icmp_ge 20 dJ7_fill_53178_7 (by decide) ⟨(by omega), (by omega)⟩ (fun w7 => ?_) (fun w7 => ?_)
    · exact x_return dJ7_fill_53178_20 rfl (by omega) (by omega) (by obtain rfl : k = N := (by omega); exact hp _ h1 h2)
    · refine x_aload_n dJ7_fill_53178_10 rfl ?_
      refine x_iload_n dJ7_fill_53178_11 rfl ?_
      refine x_iload_n dJ7_fill_53178_12 rfl ?_
      refine x_iastore dJ7_fill_53178_13 hA (by omega) (by omega) ?_
      refine x_iinc (lv2 := [(2, _), (0, _), (1, _), (3, _)]) dJ7_fill_53178_14 rfl (by decide) rfl ?_
      refine x_goto 5 dJ7_fill_53178_17 (by decide) ?_
      refine x_sub [1, 2, 0, 3] rfl ?_
      rw [show ((k : Nat) : Int).toNat = k by omega]
      refine ih _ (by omega) (k + 1) _ (by omega) rfl (fun i hi => ?_) (fun c hc => (uI_row hc).trans (h2 c hc))
      by_cases e : i = k
      · subst e; exact uI_s _ _ _ _
      · rw [uI_o (by omega)]; exact h1 i (by omega)
theorem sp_fill {a N : Nat} {v : Int} (hA : AR S a 13 N) (hN : N ≤ 1000) (hp : ∀ I', (∀ i, i < N → I' a i = v) → (∀ c, c ≠ a → I' c = I c) → Post none S I' R) : Call n 0 0 mJ7_fill_53178 [.ref (S.2.1 a), .int (iI v)] S I R Post := by
  refine Call.of (by decide +kernel) (Nat.le_of_ble_eq_true rfl) ?_
  show WP _ _ _ _ _ 0 [(0, _), (1, _)] [] 0 0 _ _ _
  refine x_iconst dJ7_fill_53178_0 ?_
  refine x_istore_n (lv2 := [(2, _), (0, _), (1, _)]) dJ7_fill_53178_1 (by decide) rfl ?_
  refine x_aload_n dJ7_fill_53178_2 rfl ?_
  refine x_alen dJ7_fill_53178_3 hA ?_
  refine x_istore_n (lv2 := [(3, _), (2, _), (0, _), (1, _)]) dJ7_fill_53178_4 (by decide) rfl ?_
  refine x_sub [2, 3, 1, 0] rfl ?_
  exact lp_fill hA hN hp _ 0 I (by omega) rfl (fun i hi => by omega) (fun _ _ => rfl)
end Bits
