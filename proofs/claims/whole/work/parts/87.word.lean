section Word
variable {n mc ms : Nat} {M : Md} {pc : Nat} {lv : List (Nat × Value)} {st : List Value} {k j : Nat} {Post : PT} {S : Sh} {I : CI} {R : CR} {A : Nat → Int} {tx : Nat → Nat → Int}
theorem lI_bv (x : Nat) : (lI (x : Int)).toBitVec = BitVec.ofNat 64 x := by
  show (Int64.ofInt (x : Int)).toBitVec = _
  rw [Int64.toBitVec_ofInt]
  exact BitVec.ofInt_natCast 64 x
theorem bvl_int {b : BitVec 64} {z : Nat} (h : b = BitVec.ofNat 64 z) (hz : z < 9223372036854775808) : b.toInt = (z : Int) := by
  subst h
  have e : (BitVec.ofNat 64 z).toNat = z := by rw [BitVec.toNat_ofNat]; exact Nat.mod_eq_of_lt (by omega)
  rw [BitVec.toInt_eq_toNat_of_lt (by rw [e]; omega), e]
theorem lorI_n {x y : Nat} (hx : x < 9223372036854775808) (hy : y < 9223372036854775808) : lorI (x : Int) (y : Int) = ((x ||| y : Nat) : Int) := by
  unfold lorI
  show (lI (x : Int) ||| lI (y : Int)).toBitVec.toInt = _
  rw [Int64.toBitVec_or, lI_bv, lI_bv]
  refine bvl_int ?_ (Nat.or_lt_two_pow (n := 63) hx hy)
  exact (BitVec.ofNat_or).symm
theorem lshl_8 {x : Nat} (hx : x < 36028797018963968) : lshlI (x : Int) 8 = ((x * 256 : Nat) : Int) := by
  unfold lshlI
  rw [show ((iI 8).toInt64 &&& 63 : Int64) = 8 by decide +kernel]
  show (lI (x : Int) <<< (8 : Int64)).toBitVec.toInt = _
  rw [Int64.toBitVec_shiftLeft, lI_bv, show ((8 : Int64).toBitVec.smod 64) = 8#64 by decide +kernel]
  refine bvl_int ?_ (by omega)
  apply BitVec.eq_of_toNat_eq
  rw [BitVec.shiftLeft_eq', BitVec.toNat_shiftLeft, show (8#64).toNat = 8 by decide, BitVec.toNat_ofNat, BitVec.toNat_ofNat, Nat.mod_eq_of_lt (show x < 2 ^ 64 by omega), Nat.shiftLeft_eq]
theorem lshr_48 {x : Nat} (hx : x < 9223372036854775808) : lshrI (x : Int) 48 = ((x / 281474976710656 : Nat) : Int) := by
  unfold lshrI
  rw [show ((iI 48).toInt64 &&& 63 : Int64) = 48 by decide +kernel]
  show (lI (x : Int) >>> (48 : Int64)).toBitVec.toInt = _
  rw [Int64.toBitVec_shiftRight, lI_bv, show ((48 : Int64).toBitVec.smod 64) = 48#64 by decide +kernel, BitVec.sshiftRight_eq', BitVec.toInt_sshiftRight, show (48#64).toNat = 48 by decide, bvl_int rfl hx, Int.shiftRight_eq_div_pow]
  rfl
theorem or_add8 {x c : Nat} (hc : c < 256) : x * 256 ||| c = x * 256 + c := by
  have h := Nat.two_pow_add_eq_or_of_lt (i := 8) (b := c) (show c < 2 ^ 8 from hc) x
  rw [Nat.mul_comm x 256]
  exact h.symm
/-- one letter more -/
theorem wd_step {w c : Int} (hw : 0 ≤ w ∧ w < 281474976710656) (hc : 0 ≤ c ∧ c < 256) : lorI (lshlI w 8) c = w * 256 + c := by
  obtain ⟨v, rfl⟩ : ∃ v : Nat, w = (v : Int) := ⟨w.toNat, by omega⟩
  obtain ⟨x, rfl⟩ : ∃ x : Nat, c = (x : Int) := ⟨c.toNat, by omega⟩
  rw [lshl_8 (by omega), lorI_n (by omega) (by omega), or_add8 (by omega)]
  omega

def TpR (I : CI) (t : Nat → Int) (l : Nat) : Prop := I 310 = t ∧ I 306 4 = (l : Int) ∧ l ≤ 300 ∧ ∀ i, i < 300 → 0 ≤ t i ∧ t i < 256
theorem dX12_isLetterByte_0 : decode prog_14_method_24_code 0 = .ok (.iload_n 0, 1) := by decide +kernel
theorem dX12_isLetterByte_1 : decode prog_14_method_24_code 1 = .ok (.bipush 97, 2) := by decide +kernel
theorem dX12_isLetterByte_3 : decode prog_14_method_24_code 3 = .ok (.if_icmp .lt 9, 3) := by decide +kernel
theorem dX12_isLetterByte_6 : decode prog_14_method_24_code 6 = .ok (.iload_n 0, 1) := by decide +kernel
theorem dX12_isLetterByte_7 : decode prog_14_method_24_code 7 = .ok (.bipush 122, 2) := by decide +kernel
theorem dX12_isLetterByte_9 : decode prog_14_method_24_code 9 = .ok (.if_icmp .le 15, 3) := by decide +kernel
theorem dX12_isLetterByte_12 : decode prog_14_method_24_code 12 = .ok (.iload_n 0, 1) := by decide +kernel
theorem dX12_isLetterByte_13 : decode prog_14_method_24_code 13 = .ok (.bipush 65, 2) := by decide +kernel
theorem dX12_isLetterByte_15 : decode prog_14_method_24_code 15 = .ok (.if_icmp .lt 13, 3) := by decide +kernel
theorem dX12_isLetterByte_18 : decode prog_14_method_24_code 18 = .ok (.iload_n 0, 1) := by decide +kernel
theorem dX12_isLetterByte_19 : decode prog_14_method_24_code 19 = .ok (.bipush 90, 2) := by decide +kernel
theorem dX12_isLetterByte_21 : decode prog_14_method_24_code 21 = .ok (.if_icmp .gt 7, 3) := by decide +kernel
theorem dX12_isLetterByte_24 : decode prog_14_method_24_code 24 = .ok (.iconst 1, 1) := by decide +kernel
theorem dX12_isLetterByte_25 : decode prog_14_method_24_code 25 = .ok (.goto 4, 3) := by decide +kernel
theorem dX12_isLetterByte_28 : decode prog_14_method_24_code 28 = .ok (.iconst 0, 1) := by decide +kernel
theorem dX12_isLetterByte_29 : decode prog_14_method_24_code 29 = .ok (.ireturn, 1) := by decide +kernel
theorem sp_X12_isLetterByte {x : Int} (hx : Rg x) (hp : ∀ r : Int, (r = 1 ∧ ltP x ∨ r = 0 ∧ ¬ ltP x) → Post (some (.int (iI r))) S I R) : Call n 0 0 mX12_isLetterByte [.int (iI x)] S I R Post := by
  refine Call.of (by decide +kernel) (Nat.le_of_ble_eq_true rfl) ?_
  show WP _ _ _ _ _ 0 [(0, _)] [] 0 0 _ _ _
  refine x_iload_n dX12_isLetterByte_0 rfl ?_
  refine x_bipush dX12_isLetterByte_1 (by decide) ?_
  refine x_icmp_lt 12 dX12_isLetterByte_3 (by decide) ⟨(by omega), (by omega)⟩ (fun w3 => ?_) (fun w3 => ?_)
  · refine x_iload_n dX12_isLetterByte_12 rfl ?_
    refine x_bipush dX12_isLetterByte_13 (by decide) ?_
    refine x_icmp_lt 28 dX12_isLetterByte_15 (by decide) ⟨(by omega), (by omega)⟩ (fun w15 => ?_) (fun w15 => ?_)
    · refine x_iconst dX12_isLetterByte_28 ?_
      exact x_zreturn (by omega) dX12_isLetterByte_29 rfl (by omega) (by omega) (hp _ (by omega))
    · refine x_iload_n dX12_isLetterByte_18 rfl ?_
      refine x_bipush dX12_isLetterByte_19 (by decide) ?_
      refine x_icmp_gt 28 dX12_isLetterByte_21 (by decide) ⟨(by omega), (by omega)⟩ (fun w21 => ?_) (fun w21 => ?_)
      · refine x_iconst dX12_isLetterByte_28 ?_
        exact x_zreturn (by omega) dX12_isLetterByte_29 rfl (by omega) (by omega) (hp _ (by omega))
      · refine x_iconst dX12_isLetterByte_24 ?_
        refine x_goto 29 dX12_isLetterByte_25 (by decide) ?_
        exact x_zreturn (by omega) dX12_isLetterByte_29 rfl (by omega) (by omega) (hp _ (by omega))
  · refine x_iload_n dX12_isLetterByte_6 rfl ?_
    refine x_bipush dX12_isLetterByte_7 (by decide) ?_
    refine x_icmp_le 24 dX12_isLetterByte_9 (by decide) ⟨(by omega), (by omega)⟩ (fun w9 => ?_) (fun w9 => ?_)
    · refine x_iconst dX12_isLetterByte_24 ?_
      refine x_goto 29 dX12_isLetterByte_25 (by decide) ?_
      exact x_zreturn (by omega) dX12_isLetterByte_29 rfl (by omega) (by omega) (hp _ (by omega))
    · refine x_iload_n dX12_isLetterByte_12 rfl ?_
      refine x_bipush dX12_isLetterByte_13 (by decide) ?_
      refine x_icmp_lt 28 dX12_isLetterByte_15 (by decide) ⟨(by omega), (by omega)⟩ (fun w15 => ?_) (fun w15 => ?_)
      · refine x_iconst dX12_isLetterByte_28 ?_
        exact x_zreturn (by omega) dX12_isLetterByte_29 rfl (by omega) (by omega) (hp _ (by omega))
      · refine x_iload_n dX12_isLetterByte_18 rfl ?_
        refine x_bipush dX12_isLetterByte_19 (by decide) ?_
        refine x_icmp_gt 28 dX12_isLetterByte_21 (by decide) ⟨(by omega), (by omega)⟩ (fun w21 => ?_) (fun w21 => ?_)
        · refine x_iconst dX12_isLetterByte_28 ?_
          exact x_zreturn (by omega) dX12_isLetterByte_29 rfl (by omega) (by omega) (hp _ (by omega))
        · refine x_iconst dX12_isLetterByte_24 ?_
          refine x_goto 29 dX12_isLetterByte_25 (by decide) ?_
          exact x_zreturn (by omega) dX12_isLetterByte_29 rfl (by omega) (by omega) (hp _ (by omega))
theorem dX12_isFigure_0 : decode prog_14_method_25_code 0 = .ok (.iload_n 0, 1) := by decide +kernel
theorem dX12_isFigure_1 : decode prog_14_method_25_code 1 = .ok (.bipush 48, 2) := by decide +kernel
theorem dX12_isFigure_3 : decode prog_14_method_25_code 3 = .ok (.if_icmp .lt 13, 3) := by decide +kernel
theorem dX12_isFigure_6 : decode prog_14_method_25_code 6 = .ok (.iload_n 0, 1) := by decide +kernel
theorem dX12_isFigure_7 : decode prog_14_method_25_code 7 = .ok (.bipush 57, 2) := by decide +kernel
theorem dX12_isFigure_9 : decode prog_14_method_25_code 9 = .ok (.if_icmp .gt 7, 3) := by decide +kernel
theorem dX12_isFigure_12 : decode prog_14_method_25_code 12 = .ok (.iconst 1, 1) := by decide +kernel
theorem dX12_isFigure_13 : decode prog_14_method_25_code 13 = .ok (.goto 4, 3) := by decide +kernel
theorem dX12_isFigure_16 : decode prog_14_method_25_code 16 = .ok (.iconst 0, 1) := by decide +kernel
theorem dX12_isFigure_17 : decode prog_14_method_25_code 17 = .ok (.ireturn, 1) := by decide +kernel
theorem sp_X12_isFigure {x : Int} (hx : Rg x) (hp : ∀ r : Int, (r = 1 ∧ dgP x ∨ r = 0 ∧ ¬ dgP x) → Post (some (.int (iI r))) S I R) : Call n 0 0 mX12_isFigure [.int (iI x)] S I R Post := by
  refine Call.of (by decide +kernel) (Nat.le_of_ble_eq_true rfl) ?_
  show WP _ _ _ _ _ 0 [(0, _)] [] 0 0 _ _ _
  refine x_iload_n dX12_isFigure_0 rfl ?_
  refine x_bipush dX12_isFigure_1 (by decide) ?_
  refine x_icmp_lt 16 dX12_isFigure_3 (by decide) ⟨(by omega), (by omega)⟩ (fun w3 => ?_) (fun w3 => ?_)
  · refine x_iconst dX12_isFigure_16 ?_
    exact x_zreturn (by omega) dX12_isFigure_17 rfl (by omega) (by omega) (hp _ (by omega))
  · refine x_iload_n dX12_isFigure_6 rfl ?_
    refine x_bipush dX12_isFigure_7 (by decide) ?_
    refine x_icmp_gt 16 dX12_isFigure_9 (by decide) ⟨(by omega), (by omega)⟩ (fun w9 => ?_) (fun w9 => ?_)
    · refine x_iconst dX12_isFigure_16 ?_
      exact x_zreturn (by omega) dX12_isFigure_17 rfl (by omega) (by omega) (hp _ (by omega))
    · refine x_iconst dX12_isFigure_12 ?_
      refine x_goto 17 dX12_isFigure_13 (by decide) ?_
      exact x_zreturn (by omega) dX12_isFigure_17 rfl (by omega) (by omega) (hp _ (by omega))
theorem dX12_isSign_0 : decode prog_14_method_26_code 0 = .ok (.iload_n 0, 1) := by decide +kernel
theorem dX12_isSign_1 : decode prog_14_method_26_code 1 = .ok (.tableswitch 129 35 62 #[127, 129, 129, 129, 129, 127, 127, 127, 127, 129, 127, 129, 127, 129, 129, 129, 129, 129, 129, 129, 129, 129, 129, 127, 127, 127, 127, 127], 127) := by decide +kernel
theorem dX12_isSign_128 : decode prog_14_method_26_code 128 = .ok (.iconst 1, 1) := by decide +kernel
theorem dX12_isSign_129 : decode prog_14_method_26_code 129 = .ok (.ireturn, 1) := by decide +kernel
theorem dX12_isSign_130 : decode prog_14_method_26_code 130 = .ok (.iconst 0, 1) := by decide +kernel
theorem dX12_isSign_131 : decode prog_14_method_26_code 131 = .ok (.ireturn, 1) := by decide +kernel
theorem sp_X12_isSign {x : Int} (hx : Rg x) (hp : ∀ r : Int, (r = 1 ∧ (sgP x ∨ x = 58) ∨ r = 0 ∧ ¬ (sgP x ∨ x = 58)) → Post (some (.int (iI r))) S I R) : Call n 0 0 mX12_isSign [.int (iI x)] S I R Post := by
  refine Call.of (by decide +kernel) (Nat.le_of_ble_eq_true rfl) ?_
  show WP _ _ _ _ _ 0 [(0, _)] [] 0 0 _ _ _
  refine x_iload_n dX12_isSign_0 rfl ?_
  by_cases t1_0 : x = 35
  · refine x_tableIn 128 dX12_isSign_1 (by omega) (by omega) (by rw [t1_0]; rfl) (by decide) ?_
    refine x_iconst dX12_isSign_128 ?_
    exact x_zreturn (by omega) dX12_isSign_129 rfl (by omega) (by omega) (hp _ (by unfold sgP; omega))
  by_cases t1_1 : x = 36
  · refine x_tableIn 130 dX12_isSign_1 (by omega) (by omega) (by rw [t1_1]; rfl) (by decide) ?_
    refine x_iconst dX12_isSign_130 ?_
    exact x_zreturn (by omega) dX12_isSign_131 rfl (by omega) (by omega) (hp _ (by unfold sgP; omega))
  by_cases t1_2 : x = 37
  · refine x_tableIn 130 dX12_isSign_1 (by omega) (by omega) (by rw [t1_2]; rfl) (by decide) ?_
    refine x_iconst dX12_isSign_130 ?_
    exact x_zreturn (by omega) dX12_isSign_131 rfl (by omega) (by omega) (hp _ (by unfold sgP; omega))
  by_cases t1_3 : x = 38
  · refine x_tableIn 130 dX12_isSign_1 (by omega) (by omega) (by rw [t1_3]; rfl) (by decide) ?_
    refine x_iconst dX12_isSign_130 ?_
    exact x_zreturn (by omega) dX12_isSign_131 rfl (by omega) (by omega) (hp _ (by unfold sgP; omega))
  by_cases t1_4 : x = 39
  · refine x_tableIn 130 dX12_isSign_1 (by omega) (by omega) (by rw [t1_4]; rfl) (by decide) ?_
    refine x_iconst dX12_isSign_130 ?_
    exact x_zreturn (by omega) dX12_isSign_131 rfl (by omega) (by omega) (hp _ (by unfold sgP; omega))
  by_cases t1_5 : x = 40
  · refine x_tableIn 128 dX12_isSign_1 (by omega) (by omega) (by rw [t1_5]; rfl) (by decide) ?_
    refine x_iconst dX12_isSign_128 ?_
    exact x_zreturn (by omega) dX12_isSign_129 rfl (by omega) (by omega) (hp _ (by unfold sgP; omega))
  by_cases t1_6 : x = 41
  · refine x_tableIn 128 dX12_isSign_1 (by omega) (by omega) (by rw [t1_6]; rfl) (by decide) ?_
    refine x_iconst dX12_isSign_128 ?_
    exact x_zreturn (by omega) dX12_isSign_129 rfl (by omega) (by omega) (hp _ (by unfold sgP; omega))
  by_cases t1_7 : x = 42
  · refine x_tableIn 128 dX12_isSign_1 (by omega) (by omega) (by rw [t1_7]; rfl) (by decide) ?_
    refine x_iconst dX12_isSign_128 ?_
    exact x_zreturn (by omega) dX12_isSign_129 rfl (by omega) (by omega) (hp _ (by unfold sgP; omega))
  by_cases t1_8 : x = 43
  · refine x_tableIn 128 dX12_isSign_1 (by omega) (by omega) (by rw [t1_8]; rfl) (by decide) ?_
    refine x_iconst dX12_isSign_128 ?_
    exact x_zreturn (by omega) dX12_isSign_129 rfl (by omega) (by omega) (hp _ (by unfold sgP; omega))
  by_cases t1_9 : x = 44
  · refine x_tableIn 130 dX12_isSign_1 (by omega) (by omega) (by rw [t1_9]; rfl) (by decide) ?_
    refine x_iconst dX12_isSign_130 ?_
    exact x_zreturn (by omega) dX12_isSign_131 rfl (by omega) (by omega) (hp _ (by unfold sgP; omega))
  by_cases t1_10 : x = 45
  · refine x_tableIn 128 dX12_isSign_1 (by omega) (by omega) (by rw [t1_10]; rfl) (by decide) ?_
    refine x_iconst dX12_isSign_128 ?_
    exact x_zreturn (by omega) dX12_isSign_129 rfl (by omega) (by omega) (hp _ (by unfold sgP; omega))
  by_cases t1_11 : x = 46
  · refine x_tableIn 130 dX12_isSign_1 (by omega) (by omega) (by rw [t1_11]; rfl) (by decide) ?_
    refine x_iconst dX12_isSign_130 ?_
    exact x_zreturn (by omega) dX12_isSign_131 rfl (by omega) (by omega) (hp _ (by unfold sgP; omega))
  by_cases t1_12 : x = 47
  · refine x_tableIn 128 dX12_isSign_1 (by omega) (by omega) (by rw [t1_12]; rfl) (by decide) ?_
    refine x_iconst dX12_isSign_128 ?_
    exact x_zreturn (by omega) dX12_isSign_129 rfl (by omega) (by omega) (hp _ (by unfold sgP; omega))
  by_cases t1_13 : x = 48
  · refine x_tableIn 130 dX12_isSign_1 (by omega) (by omega) (by rw [t1_13]; rfl) (by decide) ?_
    refine x_iconst dX12_isSign_130 ?_
    exact x_zreturn (by omega) dX12_isSign_131 rfl (by omega) (by omega) (hp _ (by unfold sgP; omega))
  by_cases t1_14 : x = 49
  · refine x_tableIn 130 dX12_isSign_1 (by omega) (by omega) (by rw [t1_14]; rfl) (by decide) ?_
    refine x_iconst dX12_isSign_130 ?_
    exact x_zreturn (by omega) dX12_isSign_131 rfl (by omega) (by omega) (hp _ (by unfold sgP; omega))
  by_cases t1_15 : x = 50
  · refine x_tableIn 130 dX12_isSign_1 (by omega) (by omega) (by rw [t1_15]; rfl) (by decide) ?_
    refine x_iconst dX12_isSign_130 ?_
    exact x_zreturn (by omega) dX12_isSign_131 rfl (by omega) (by omega) (hp _ (by unfold sgP; omega))
  by_cases t1_16 : x = 51
  · refine x_tableIn 130 dX12_isSign_1 (by omega) (by omega) (by rw [t1_16]; rfl) (by decide) ?_
    refine x_iconst dX12_isSign_130 ?_
    exact x_zreturn (by omega) dX12_isSign_131 rfl (by omega) (by omega) (hp _ (by unfold sgP; omega))
  by_cases t1_17 : x = 52
  · refine x_tableIn 130 dX12_isSign_1 (by omega) (by omega) (by rw [t1_17]; rfl) (by decide) ?_
    refine x_iconst dX12_isSign_130 ?_
    exact x_zreturn (by omega) dX12_isSign_131 rfl (by omega) (by omega) (hp _ (by unfold sgP; omega))
  by_cases t1_18 : x = 53
  · refine x_tableIn 130 dX12_isSign_1 (by omega) (by omega) (by rw [t1_18]; rfl) (by decide) ?_
    refine x_iconst dX12_isSign_130 ?_
    exact x_zreturn (by omega) dX12_isSign_131 rfl (by omega) (by omega) (hp _ (by unfold sgP; omega))
  by_cases t1_19 : x = 54
  · refine x_tableIn 130 dX12_isSign_1 (by omega) (by omega) (by rw [t1_19]; rfl) (by decide) ?_
    refine x_iconst dX12_isSign_130 ?_
    exact x_zreturn (by omega) dX12_isSign_131 rfl (by omega) (by omega) (hp _ (by unfold sgP; omega))
  by_cases t1_20 : x = 55
  · refine x_tableIn 130 dX12_isSign_1 (by omega) (by omega) (by rw [t1_20]; rfl) (by decide) ?_
    refine x_iconst dX12_isSign_130 ?_
    exact x_zreturn (by omega) dX12_isSign_131 rfl (by omega) (by omega) (hp _ (by unfold sgP; omega))
  by_cases t1_21 : x = 56
  · refine x_tableIn 130 dX12_isSign_1 (by omega) (by omega) (by rw [t1_21]; rfl) (by decide) ?_
    refine x_iconst dX12_isSign_130 ?_
    exact x_zreturn (by omega) dX12_isSign_131 rfl (by omega) (by omega) (hp _ (by unfold sgP; omega))
  by_cases t1_22 : x = 57
  · refine x_tableIn 130 dX12_isSign_1 (by omega) (by omega) (by rw [t1_22]; rfl) (by decide) ?_
    refine x_iconst dX12_isSign_130 ?_
    exact x_zreturn (by omega) dX12_isSign_131 rfl (by omega) (by omega) (hp _ (by unfold sgP; omega))
  by_cases t1_23 : x = 58
  · refine x_tableIn 128 dX12_isSign_1 (by omega) (by omega) (by rw [t1_23]; rfl) (by decide) ?_
    refine x_iconst dX12_isSign_128 ?_
    exact x_zreturn (by omega) dX12_isSign_129 rfl (by omega) (by omega) (hp _ (by unfold sgP; omega))
  by_cases t1_24 : x = 59
  · refine x_tableIn 128 dX12_isSign_1 (by omega) (by omega) (by rw [t1_24]; rfl) (by decide) ?_
    refine x_iconst dX12_isSign_128 ?_
    exact x_zreturn (by omega) dX12_isSign_129 rfl (by omega) (by omega) (hp _ (by unfold sgP; omega))
  by_cases t1_25 : x = 60
  · refine x_tableIn 128 dX12_isSign_1 (by omega) (by omega) (by rw [t1_25]; rfl) (by decide) ?_
    refine x_iconst dX12_isSign_128 ?_
    exact x_zreturn (by omega) dX12_isSign_129 rfl (by omega) (by omega) (hp _ (by unfold sgP; omega))
  by_cases t1_26 : x = 61
  · refine x_tableIn 128 dX12_isSign_1 (by omega) (by omega) (by rw [t1_26]; rfl) (by decide) ?_
    refine x_iconst dX12_isSign_128 ?_
    exact x_zreturn (by omega) dX12_isSign_129 rfl (by omega) (by omega) (hp _ (by unfold sgP; omega))
  by_cases t1_27 : x = 62
  · refine x_tableIn 128 dX12_isSign_1 (by omega) (by omega) (by rw [t1_27]; rfl) (by decide) ?_
    refine x_iconst dX12_isSign_128 ?_
    exact x_zreturn (by omega) dX12_isSign_129 rfl (by omega) (by omega) (hp _ (by unfold sgP; omega))
  refine x_tableOut 130 dX12_isSign_1 (by omega) (by omega) (by decide) ?_
  refine x_iconst dX12_isSign_130 ?_
  exact x_zreturn (by omega) dX12_isSign_131 rfl (by omega) (by omega) (hp _ (by unfold sgP; omega))
theorem dX12_byteAt_0 : decode prog_14_method_23_code 0 = .ok (.iload_n 1, 1) := by decide +kernel
theorem dX12_byteAt_1 : decode prog_14_method_23_code 1 = .ok (.aload_n 0, 1) := by decide +kernel
theorem dX12_byteAt_2 : decode prog_14_method_23_code 2 = .ok (.getfield 100, 3) := by decide +kernel
theorem dX12_byteAt_5 : decode prog_14_method_23_code 5 = .ok (.if_icmp .ge 12, 3) := by decide +kernel
theorem dX12_byteAt_8 : decode prog_14_method_23_code 8 = .ok (.aload_n 0, 1) := by decide +kernel
theorem dX12_byteAt_9 : decode prog_14_method_23_code 9 = .ok (.getfield 19, 3) := by decide +kernel
theorem dX12_byteAt_12 : decode prog_14_method_23_code 12 = .ok (.iload_n 1, 1) := by decide +kernel
theorem dX12_byteAt_13 : decode prog_14_method_23_code 13 = .ok (.iaload, 1) := by decide +kernel
theorem dX12_byteAt_14 : decode prog_14_method_23_code 14 = .ok (.goto 4, 3) := by decide +kernel
theorem dX12_byteAt_17 : decode prog_14_method_23_code 17 = .ok (.iconst (-1), 1) := by decide +kernel
theorem dX12_byteAt_18 : decode prog_14_method_23_code 18 = .ok (.ireturn, 1) := by decide +kernel
theorem sp_X12_byteAt {t : Nat → Int} {l p : Nat} (cs : CS S R) (hT : TpR I t l) (hb : p ≤ 300) (hp : ∀ r : Int, (p < l ∧ r = t p ∨ l ≤ p ∧ r = -1) → (-1 ≤ r ∧ r < 256) → Post (some (.int (iI r))) S I R) : Call n 0 0 mX12_byteAt [.ref (S.2.1 306), .int (iI (p : Int))] S I R Post := by
  obtain ⟨j310, j4, l3, jb⟩ := id hT
  have hb2 : p < l → _ := fun h => jb p (by omega)
  refine Call.of (by decide +kernel) (Nat.le_of_ble_eq_true rfl) ?_
  show WP _ _ _ _ _ 0 [(0, _), (1, _)] [] 0 0 _ _ _
  refine x_iload_n dX12_byteAt_0 rfl ?_
  refine x_aload_n dX12_byteAt_1 rfl ?_
  refine x_getIv (z := (l : Int)) dX12_byteAt_2 gf_RX12_100 (k_ob_306 cs) (fun _ _ => rfl) (by exact j4) ?_
  refine x_icmp_ge 17 dX12_byteAt_5 (by decide) ⟨(by omega), (by omega)⟩ (fun w5 => ?_) (fun w5 => ?_)
  · refine x_iconst dX12_byteAt_17 ?_
    exact x_ireturn dX12_byteAt_18 rfl (by omega) (by omega) (hp _ (by omega) (by omega))
  · have hb3 := hb2 (by omega)
    refine x_aload_n dX12_byteAt_8 rfl ?_
    refine x_getR (b := 310) dX12_byteAt_9 gf_RX12_19 (k_ob_306 cs) (fun _ _ => rfl) (k_r_306_3 cs) ?_
    refine x_iload_n dX12_byteAt_12 rfl ?_
    refine x_iaload dX12_byteAt_13 (k_ar_310 cs) (by omega) (by omega) ?_
    rw [j310, tN]
    refine x_goto 18 dX12_byteAt_14 (by decide) ?_
    exact x_ireturn dX12_byteAt_18 rfl (by omega) (by omega) (hp _ (by omega) (by omega))
theorem dX12_w2_0 : decode prog_14_method_28_code 0 = .ok (.iload_n 0, 1) := by decide +kernel
theorem dX12_w2_1 : decode prog_14_method_28_code 1 = .ok (.i2l, 1) := by decide +kernel
theorem dX12_w2_2 : decode prog_14_method_28_code 2 = .ok (.bipush 8, 2) := by decide +kernel
theorem dX12_w2_4 : decode prog_14_method_28_code 4 = .ok (.lshl, 1) := by decide +kernel
theorem dX12_w2_5 : decode prog_14_method_28_code 5 = .ok (.iload_n 1, 1) := by decide +kernel
theorem dX12_w2_6 : decode prog_14_method_28_code 6 = .ok (.i2l, 1) := by decide +kernel
theorem dX12_w2_7 : decode prog_14_method_28_code 7 = .ok (.lor, 1) := by decide +kernel
theorem dX12_w2_8 : decode prog_14_method_28_code 8 = .ok (.lreturn, 1) := by decide +kernel
theorem sp_X12_w2 {a b : Int} (hb : (0 ≤ a ∧ a < 256) ∧ (0 ≤ b ∧ b < 256)) (hp : Post (some (.long (lI (a * 256 + b)))) S I R) (hn : 0 ≤ n) : Call n 0 0 mX12_w2 [.int (iI a), .int (iI b)] S I R Post := by
  obtain ⟨ba, bb⟩ := id hb
  refine Call.of (by decide +kernel) (Nat.le_of_ble_eq_true rfl) ?_
  show WP _ _ _ _ _ 0 [(0, _), (1, _)] [] 0 0 _ _ _
  refine x_iload_n dX12_w2_0 rfl ?_
  refine x_i2l dX12_w2_1 (by omega) ?_
  refine x_bipush dX12_w2_2 (by decide) ?_
  refine x_lshl dX12_w2_4 ?_
  refine x_iload_n dX12_w2_5 rfl ?_
  refine x_i2l dX12_w2_6 (by omega) ?_
  refine x_lor dX12_w2_7 ?_
  exact x_lreturn dX12_w2_8 rfl (by omega) (by omega) ((by rw [wd_step (by omega) (by omega)]; exact hp))
theorem dX12_w3_0 : decode prog_14_method_29_code 0 = .ok (.iload_n 0, 1) := by decide +kernel
theorem dX12_w3_1 : decode prog_14_method_29_code 1 = .ok (.iload_n 1, 1) := by decide +kernel
theorem dX12_w3_2 : decode prog_14_method_29_code 2 = .ok (.invokestatic 137, 3) := by decide +kernel
theorem dX12_w3_5 : decode prog_14_method_29_code 5 = .ok (.bipush 8, 2) := by decide +kernel
theorem dX12_w3_7 : decode prog_14_method_29_code 7 = .ok (.lshl, 1) := by decide +kernel
theorem dX12_w3_8 : decode prog_14_method_29_code 8 = .ok (.iload_n 2, 1) := by decide +kernel
theorem dX12_w3_9 : decode prog_14_method_29_code 9 = .ok (.i2l, 1) := by decide +kernel
theorem dX12_w3_10 : decode prog_14_method_29_code 10 = .ok (.lor, 1) := by decide +kernel
theorem dX12_w3_11 : decode prog_14_method_29_code 11 = .ok (.lreturn, 1) := by decide +kernel
theorem sp_X12_w3 {a b c : Int} (hb : (0 ≤ a ∧ a < 256) ∧ (0 ≤ b ∧ b < 256) ∧ (0 ≤ c ∧ c < 256)) (hp : Post (some (.long (lI ((a * 256 + b) * 256 + c)))) S I R) (hn : 1 ≤ n) : Call n 0 0 mX12_w3 [.int (iI a), .int (iI b), .int (iI c)] S I R Post := by
  obtain ⟨ba, bb, bc⟩ := id hb
  refine Call.of (by decide +kernel) (Nat.le_of_ble_eq_true rfl) ?_
  show WP _ _ _ _ _ 0 [(0, _), (1, _), (2, _)] [] 0 0 _ _ _
  refine x_iload_n dX12_w3_0 rfl ?_
  refine x_iload_n dX12_w3_1 rfl ?_
  refine x_callS2 (mc1 := 0) (ms1 := 0) dX12_w3_2 cv_RX12_137 (Nat.le_of_ble_eq_true rfl) (n1 := n - 1) (by omega) (by omega) (by omega) ?_
  refine sp_X12_w2 ⟨ba, bb⟩ ?_ (by omega)
  refine x_bipush dX12_w3_5 (by decide) ?_
  refine x_lshl dX12_w3_7 ?_
  refine x_iload_n dX12_w3_8 rfl ?_
  refine x_i2l dX12_w3_9 (by omega) ?_
  refine x_lor dX12_w3_10 ?_
  exact x_lreturn dX12_w3_11 rfl (by omega) (by omega) ((by rw [wd_step (by omega) (by omega)]; exact hp))
theorem dX12_w4_0 : decode prog_14_method_30_code 0 = .ok (.iload_n 0, 1) := by decide +kernel
theorem dX12_w4_1 : decode prog_14_method_30_code 1 = .ok (.iload_n 1, 1) := by decide +kernel
theorem dX12_w4_2 : decode prog_14_method_30_code 2 = .ok (.iload_n 2, 1) := by decide +kernel
theorem dX12_w4_3 : decode prog_14_method_30_code 3 = .ok (.invokestatic 141, 3) := by decide +kernel
theorem dX12_w4_6 : decode prog_14_method_30_code 6 = .ok (.bipush 8, 2) := by decide +kernel
theorem dX12_w4_8 : decode prog_14_method_30_code 8 = .ok (.lshl, 1) := by decide +kernel
theorem dX12_w4_9 : decode prog_14_method_30_code 9 = .ok (.iload_n 3, 1) := by decide +kernel
theorem dX12_w4_10 : decode prog_14_method_30_code 10 = .ok (.i2l, 1) := by decide +kernel
theorem dX12_w4_11 : decode prog_14_method_30_code 11 = .ok (.lor, 1) := by decide +kernel
theorem dX12_w4_12 : decode prog_14_method_30_code 12 = .ok (.lreturn, 1) := by decide +kernel
theorem sp_X12_w4 {a b c d : Int} (hb : (0 ≤ a ∧ a < 256) ∧ (0 ≤ b ∧ b < 256) ∧ (0 ≤ c ∧ c < 256) ∧ (0 ≤ d ∧ d < 256)) (hp : Post (some (.long (lI (((a * 256 + b) * 256 + c) * 256 + d)))) S I R) (hn : 2 ≤ n) : Call n 0 0 mX12_w4 [.int (iI a), .int (iI b), .int (iI c), .int (iI d)] S I R Post := by
  obtain ⟨ba, bb, bc, bd⟩ := id hb
  refine Call.of (by decide +kernel) (Nat.le_of_ble_eq_true rfl) ?_
  show WP _ _ _ _ _ 0 [(0, _), (1, _), (2, _), (3, _)] [] 0 0 _ _ _
  refine x_iload_n dX12_w4_0 rfl ?_
  refine x_iload_n dX12_w4_1 rfl ?_
  refine x_iload_n dX12_w4_2 rfl ?_
  refine x_callS3 (mc1 := 0) (ms1 := 0) dX12_w4_3 cv_RX12_141 (Nat.le_of_ble_eq_true rfl) (n1 := n - 1) (by omega) (by omega) (by omega) ?_
  refine sp_X12_w3 ⟨ba, bb, bc⟩ ?_ (by omega)
  refine x_bipush dX12_w4_6 (by decide) ?_
  refine x_lshl dX12_w4_8 ?_
  refine x_iload_n dX12_w4_9 rfl ?_
  refine x_i2l dX12_w4_10 (by omega) ?_
  refine x_lor dX12_w4_11 ?_
  exact x_lreturn dX12_w4_12 rfl (by omega) (by omega) ((by rw [wd_step (by omega) (by omega)]; exact hp))
theorem dX12_w5_0 : decode prog_14_method_31_code 0 = .ok (.iload_n 0, 1) := by decide +kernel
theorem dX12_w5_1 : decode prog_14_method_31_code 1 = .ok (.iload_n 1, 1) := by decide +kernel
theorem dX12_w5_2 : decode prog_14_method_31_code 2 = .ok (.iload_n 2, 1) := by decide +kernel
theorem dX12_w5_3 : decode prog_14_method_31_code 3 = .ok (.iload_n 3, 1) := by decide +kernel
theorem dX12_w5_4 : decode prog_14_method_31_code 4 = .ok (.invokestatic 145, 3) := by decide +kernel
theorem dX12_w5_7 : decode prog_14_method_31_code 7 = .ok (.bipush 8, 2) := by decide +kernel
theorem dX12_w5_9 : decode prog_14_method_31_code 9 = .ok (.lshl, 1) := by decide +kernel
theorem dX12_w5_10 : decode prog_14_method_31_code 10 = .ok (.iload 4, 2) := by decide +kernel
theorem dX12_w5_12 : decode prog_14_method_31_code 12 = .ok (.i2l, 1) := by decide +kernel
theorem dX12_w5_13 : decode prog_14_method_31_code 13 = .ok (.lor, 1) := by decide +kernel
theorem dX12_w5_14 : decode prog_14_method_31_code 14 = .ok (.lreturn, 1) := by decide +kernel
theorem sp_X12_w5 {a b c d e : Int} (hb : (0 ≤ a ∧ a < 256) ∧ (0 ≤ b ∧ b < 256) ∧ (0 ≤ c ∧ c < 256) ∧ (0 ≤ d ∧ d < 256) ∧ (0 ≤ e ∧ e < 256)) (hp : Post (some (.long (lI ((((a * 256 + b) * 256 + c) * 256 + d) * 256 + e)))) S I R) (hn : 3 ≤ n) : Call n 0 0 mX12_w5 [.int (iI a), .int (iI b), .int (iI c), .int (iI d), .int (iI e)] S I R Post := by
  obtain ⟨ba, bb, bc, bd, be⟩ := id hb
  refine Call.of (by decide +kernel) (Nat.le_of_ble_eq_true rfl) ?_
  show WP _ _ _ _ _ 0 [(0, _), (1, _), (2, _), (3, _), (4, _)] [] 0 0 _ _ _
  refine x_iload_n dX12_w5_0 rfl ?_
  refine x_iload_n dX12_w5_1 rfl ?_
  refine x_iload_n dX12_w5_2 rfl ?_
  refine x_iload_n dX12_w5_3 rfl ?_
  refine x_callS4 (mc1 := 0) (ms1 := 0) dX12_w5_4 cv_RX12_145 (Nat.le_of_ble_eq_true rfl) (n1 := n - 1) (by omega) (by omega) (by omega) ?_
  refine sp_X12_w4 ⟨ba, bb, bc, bd⟩ ?_ (by omega)
  refine x_bipush dX12_w5_7 (by decide) ?_
  refine x_lshl dX12_w5_9 ?_
  refine x_iload dX12_w5_10 rfl ?_
  refine x_i2l dX12_w5_12 (by omega) ?_
  refine x_lor dX12_w5_13 ?_
  exact x_lreturn dX12_w5_14 rfl (by omega) (by omega) ((by rw [wd_step (by omega) (by omega)]; exact hp))
theorem dX12_w6_0 : decode prog_14_method_32_code 0 = .ok (.iload_n 0, 1) := by decide +kernel
theorem dX12_w6_1 : decode prog_14_method_32_code 1 = .ok (.iload_n 1, 1) := by decide +kernel
theorem dX12_w6_2 : decode prog_14_method_32_code 2 = .ok (.iload_n 2, 1) := by decide +kernel
theorem dX12_w6_3 : decode prog_14_method_32_code 3 = .ok (.iload_n 3, 1) := by decide +kernel
theorem dX12_w6_4 : decode prog_14_method_32_code 4 = .ok (.iload 4, 2) := by decide +kernel
theorem dX12_w6_6 : decode prog_14_method_32_code 6 = .ok (.invokestatic 149, 3) := by decide +kernel
theorem dX12_w6_9 : decode prog_14_method_32_code 9 = .ok (.bipush 8, 2) := by decide +kernel
theorem dX12_w6_11 : decode prog_14_method_32_code 11 = .ok (.lshl, 1) := by decide +kernel
theorem dX12_w6_12 : decode prog_14_method_32_code 12 = .ok (.iload 5, 2) := by decide +kernel
theorem dX12_w6_14 : decode prog_14_method_32_code 14 = .ok (.i2l, 1) := by decide +kernel
theorem dX12_w6_15 : decode prog_14_method_32_code 15 = .ok (.lor, 1) := by decide +kernel
theorem dX12_w6_16 : decode prog_14_method_32_code 16 = .ok (.lreturn, 1) := by decide +kernel
theorem sp_X12_w6 {a b c d e f : Int} (hb : (0 ≤ a ∧ a < 256) ∧ (0 ≤ b ∧ b < 256) ∧ (0 ≤ c ∧ c < 256) ∧ (0 ≤ d ∧ d < 256) ∧ (0 ≤ e ∧ e < 256) ∧ (0 ≤ f ∧ f < 256)) (hp : Post (some (.long (lI (((((a * 256 + b) * 256 + c) * 256 + d) * 256 + e) * 256 + f)))) S I R) (hn : 4 ≤ n) : Call n 0 0 mX12_w6 [.int (iI a), .int (iI b), .int (iI c), .int (iI d), .int (iI e), .int (iI f)] S I R Post := by
  obtain ⟨ba, bb, bc, bd, be, bf⟩ := id hb
  refine Call.of (by decide +kernel) (Nat.le_of_ble_eq_true rfl) ?_
  show WP _ _ _ _ _ 0 [(0, _), (1, _), (2, _), (3, _), (4, _), (5, _)] [] 0 0 _ _ _
  refine x_iload_n dX12_w6_0 rfl ?_
  refine x_iload_n dX12_w6_1 rfl ?_
  refine x_iload_n dX12_w6_2 rfl ?_
  refine x_iload_n dX12_w6_3 rfl ?_
  refine x_iload dX12_w6_4 rfl ?_
  refine x_callS5 (mc1 := 0) (ms1 := 0) dX12_w6_6 cv_RX12_149 (Nat.le_of_ble_eq_true rfl) (n1 := n - 1) (by omega) (by omega) (by omega) ?_
  refine sp_X12_w5 ⟨ba, bb, bc, bd, be⟩ ?_ (by omega)
  refine x_bipush dX12_w6_9 (by decide) ?_
  refine x_lshl dX12_w6_11 ?_
  refine x_iload dX12_w6_12 rfl ?_
  refine x_i2l dX12_w6_14 (by omega) ?_
  refine x_lor dX12_w6_15 ?_
  exact x_lreturn dX12_w6_16 rfl (by omega) (by omega) ((by rw [wd_step (by omega) (by omega)]; exact hp))
end Word
