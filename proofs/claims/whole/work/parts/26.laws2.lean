section LC
variable {n mc ms : Nat} {M : Md} {Post : PT} {pc : Nat} {lv lv2 : List (Nat × Value)} {st : List Value} {k j : Nat} {S : Sh} {I : CI} {R : CR}
theorem x_lconst0 (d : decode M.2.1 pc = .ok (.lconst 0, 1)) (h : WP n mc ms M Post (pc + 1) lv (.long (lI 0) :: st) k j S I R) : WP n mc ms M Post pc lv st k j S I R := x_lconst d h
theorem x_lconst1 (d : decode M.2.1 pc = .ok (.lconst 1, 1)) (h : WP n mc ms M Post (pc + 1) lv (.long (lI 1) :: st) k j S I R) : WP n mc ms M Post pc lv st k j S I R := x_lconst d h
end LC
section Laws2
variable {n : Nat} {Post : PT} {S : Sh} {I : CI} {R : CR} {A : Nat → Int}
theorem mul_b {a b : Int} (ha : -1000000 ≤ a ∧ a ≤ 1000000) (hb : -1000000 ≤ b ∧ b ≤ 1000000) : a * b ≤ 1000000000000 ∧ -1000000000000 ≤ a * b := by
  have h : (a * b).natAbs ≤ 1000000 * 1000000 := by rw [Int.natAbs_mul]; exact Nat.mul_le_mul (by omega) (by omega)
  omega
def tkn (op : Int) : Int := if op ≤ 1 then 0 else if op ≤ 4 then 1 else if op ≤ 17 then 2 else 3
theorem tkn_b (op : Int) : 0 ≤ tkn op ∧ tkn op ≤ 3 ∧ (tkn op = 0 ↔ op ≤ 1) := by unfold tkn; split <;> first | omega | (split <;> first | omega | (split <;> omega))
def ftF (nm : Nat → Int) (op told : Int) : Int := if op = 1 ∧ told < 8 then nm told.toNat else told
def woF (A : Nat → Int) (op a b c : Int) : Int := if op = 2 then -a else if op = 3 then (if 0 ≤ a ∧ a < A 0 then A (14 + 3 * a.toNat) else 0) else if op = 4 then 1 - a else if op = 5 then a + b else if op = 6 then a - b else if op = 7 then a * b else if op = 8 then (if b = 0 then 0 else a.tdiv b) else if op = 9 then (if b = 0 then 0 else (if a < 0 then -a else a) % (if b < 0 then -b else b)) else if op = 10 then (if a < b then 1 else 0) else if op = 11 then (if a ≤ b then 1 else 0) else if op = 12 then (if b < a then 1 else 0) else if op = 13 then (if b ≤ a then 1 else 0) else if op = 14 then (if a = b then 1 else 0) else if op = 15 then (if a = b then 0 else 1) else if op = 16 then a * b else if op = 17 then (if b ≤ a then a else b) else (if a = 0 then c else b)
def clipI (x : Int) : Int := if x < -1000000 then -1000000 else if 1000000 < x then 1000000 else x
theorem clipI_b (x : Int) : -1000000 ≤ clipI x ∧ clipI x ≤ 1000000 := by unfold clipI; split <;> first | omega | (split <;> omega)
theorem dX3_takenBy_0 : decode prog_5_method_9_code 0 = .ok (.iload_n 0, 1) := by decide +kernel
theorem dX3_takenBy_1 : decode prog_5_method_9_code 1 = .ok (.iconst 1, 1) := by decide +kernel
theorem dX3_takenBy_2 : decode prog_5_method_9_code 2 = .ok (.if_icmp .gt 5, 3) := by decide +kernel
theorem dX3_takenBy_5 : decode prog_5_method_9_code 5 = .ok (.iconst 0, 1) := by decide +kernel
theorem dX3_takenBy_6 : decode prog_5_method_9_code 6 = .ok (.ireturn, 1) := by decide +kernel
theorem dX3_takenBy_7 : decode prog_5_method_9_code 7 = .ok (.iload_n 0, 1) := by decide +kernel
theorem dX3_takenBy_8 : decode prog_5_method_9_code 8 = .ok (.iconst 4, 1) := by decide +kernel
theorem dX3_takenBy_9 : decode prog_5_method_9_code 9 = .ok (.if_icmp .gt 5, 3) := by decide +kernel
theorem dX3_takenBy_12 : decode prog_5_method_9_code 12 = .ok (.iconst 1, 1) := by decide +kernel
theorem dX3_takenBy_13 : decode prog_5_method_9_code 13 = .ok (.ireturn, 1) := by decide +kernel
theorem dX3_takenBy_14 : decode prog_5_method_9_code 14 = .ok (.iload_n 0, 1) := by decide +kernel
theorem dX3_takenBy_15 : decode prog_5_method_9_code 15 = .ok (.bipush 17, 2) := by decide +kernel
theorem dX3_takenBy_17 : decode prog_5_method_9_code 17 = .ok (.if_icmp .gt 7, 3) := by decide +kernel
theorem dX3_takenBy_20 : decode prog_5_method_9_code 20 = .ok (.iconst 2, 1) := by decide +kernel
theorem dX3_takenBy_21 : decode prog_5_method_9_code 21 = .ok (.goto 4, 3) := by decide +kernel
theorem dX3_takenBy_24 : decode prog_5_method_9_code 24 = .ok (.iconst 3, 1) := by decide +kernel
theorem dX3_takenBy_25 : decode prog_5_method_9_code 25 = .ok (.ireturn, 1) := by decide +kernel
theorem sp_X3_takenBy {q : Int} (hq : Rg q) (hp : Post (some (.int (iI (tkn q)))) S I R) : Call n 0 0 mX3_takenBy [.int (iI q)] S I R Post := by
  refine Call.of (by decide +kernel) (Nat.le_of_ble_eq_true rfl) ?_
  show WP _ _ _ _ _ 0 [(0, _)] [] 0 0 _ _ _
  refine x_iload_n dX3_takenBy_0 rfl ?_
  refine x_iconst dX3_takenBy_1 ?_
  refine x_icmp_gt 7 dX3_takenBy_2 (by decide) ⟨(by omega), (by omega)⟩ (fun w2 => ?_) (fun w2 => ?_)
  · refine x_iload_n dX3_takenBy_7 rfl ?_
    refine x_iconst dX3_takenBy_8 ?_
    refine x_icmp_gt 14 dX3_takenBy_9 (by decide) ⟨(by omega), (by omega)⟩ (fun w9 => ?_) (fun w9 => ?_)
    · refine x_iload_n dX3_takenBy_14 rfl ?_
      refine x_bipush dX3_takenBy_15 (by decide) ?_
      refine x_icmp_gt 24 dX3_takenBy_17 (by decide) ⟨(by omega), (by omega)⟩ (fun w17 => ?_) (fun w17 => ?_)
      · refine x_iconst dX3_takenBy_24 ?_
        exact x_ireturn dX3_takenBy_25 rfl (by omega) (by omega) (by first | (rw [show tkn q = 0 from if_pos (by omega)] at hp; exact hp) | (rw [show tkn q = 1 from (if_neg (by omega)).trans (if_pos (by omega))] at hp; exact hp) | (rw [show tkn q = 2 from (if_neg (by omega)).trans ((if_neg (by omega)).trans (if_pos (by omega)))] at hp; exact hp) | (rw [show tkn q = 3 from (if_neg (by omega)).trans ((if_neg (by omega)).trans (if_neg (by omega)))] at hp; exact hp))
      · refine x_iconst dX3_takenBy_20 ?_
        refine x_goto 25 dX3_takenBy_21 (by decide) ?_
        exact x_ireturn dX3_takenBy_25 rfl (by omega) (by omega) (by first | (rw [show tkn q = 0 from if_pos (by omega)] at hp; exact hp) | (rw [show tkn q = 1 from (if_neg (by omega)).trans (if_pos (by omega))] at hp; exact hp) | (rw [show tkn q = 2 from (if_neg (by omega)).trans ((if_neg (by omega)).trans (if_pos (by omega)))] at hp; exact hp) | (rw [show tkn q = 3 from (if_neg (by omega)).trans ((if_neg (by omega)).trans (if_neg (by omega)))] at hp; exact hp))
    · refine x_iconst dX3_takenBy_12 ?_
      exact x_ireturn dX3_takenBy_13 rfl (by omega) (by omega) (by first | (rw [show tkn q = 0 from if_pos (by omega)] at hp; exact hp) | (rw [show tkn q = 1 from (if_neg (by omega)).trans (if_pos (by omega))] at hp; exact hp) | (rw [show tkn q = 2 from (if_neg (by omega)).trans ((if_neg (by omega)).trans (if_pos (by omega)))] at hp; exact hp) | (rw [show tkn q = 3 from (if_neg (by omega)).trans ((if_neg (by omega)).trans (if_neg (by omega)))] at hp; exact hp))
  · refine x_iconst dX3_takenBy_5 ?_
    exact x_ireturn dX3_takenBy_6 rfl (by omega) (by omega) (by first | (rw [show tkn q = 0 from if_pos (by omega)] at hp; exact hp) | (rw [show tkn q = 1 from (if_neg (by omega)).trans (if_pos (by omega))] at hp; exact hp) | (rw [show tkn q = 2 from (if_neg (by omega)).trans ((if_neg (by omega)).trans (if_pos (by omega)))] at hp; exact hp) | (rw [show tkn q = 3 from (if_neg (by omega)).trans ((if_neg (by omega)).trans (if_neg (by omega)))] at hp; exact hp))
theorem dX3_fetched_0 : decode prog_5_method_10_code 0 = .ok (.iload_n 1, 1) := by decide +kernel
theorem dX3_fetched_1 : decode prog_5_method_10_code 1 = .ok (.iconst 1, 1) := by decide +kernel
theorem dX3_fetched_2 : decode prog_5_method_10_code 2 = .ok (.if_icmp .ne 18, 3) := by decide +kernel
theorem dX3_fetched_5 : decode prog_5_method_10_code 5 = .ok (.iload_n 2, 1) := by decide +kernel
theorem dX3_fetched_6 : decode prog_5_method_10_code 6 = .ok (.bipush 8, 2) := by decide +kernel
theorem dX3_fetched_8 : decode prog_5_method_10_code 8 = .ok (.if_icmp .ge 12, 3) := by decide +kernel
theorem dX3_fetched_11 : decode prog_5_method_10_code 11 = .ok (.aload_n 0, 1) := by decide +kernel
theorem dX3_fetched_12 : decode prog_5_method_10_code 12 = .ok (.getfield 9, 3) := by decide +kernel
theorem dX3_fetched_15 : decode prog_5_method_10_code 15 = .ok (.iload_n 2, 1) := by decide +kernel
theorem dX3_fetched_16 : decode prog_5_method_10_code 16 = .ok (.iaload, 1) := by decide +kernel
theorem dX3_fetched_17 : decode prog_5_method_10_code 17 = .ok (.goto 4, 3) := by decide +kernel
theorem dX3_fetched_20 : decode prog_5_method_10_code 20 = .ok (.iload_n 2, 1) := by decide +kernel
theorem dX3_fetched_21 : decode prog_5_method_10_code 21 = .ok (.ireturn, 1) := by decide +kernel
theorem sp_X3_fetched {q t : Int} (cs : CS S R) (hq : Rg q) (ht : 0 ≤ t ∧ t < 2147483648) (hp : Post (some (.int (iI (ftF (I 280) q t)))) S I R) : Call n 0 0 mX3_fetched [.ref (S.2.1 279), .int (iI q), .int (iI t)] S I R Post := by
  refine Call.of (by decide +kernel) (Nat.le_of_ble_eq_true rfl) ?_
  show WP _ _ _ _ _ 0 [(0, _), (1, _), (2, _)] [] 0 0 _ _ _
  refine x_iload_n dX3_fetched_0 rfl ?_
  refine x_iconst dX3_fetched_1 ?_
  refine x_icmp_ne 20 dX3_fetched_2 (by decide) ⟨(by omega), (by omega)⟩ (fun w2 => ?_) (fun w2 => ?_)
  · refine x_iload_n dX3_fetched_20 rfl ?_
    exact x_ireturn dX3_fetched_21 rfl (by omega) (by omega) (by first | (rw [show ftF (I 280) q t = I 280 t.toNat from if_pos (by omega)] at hp; exact hp) | (rw [show ftF (I 280) q t = t from if_neg (by omega)] at hp; exact hp))
  · refine x_iload_n dX3_fetched_5 rfl ?_
    refine x_bipush dX3_fetched_6 (by decide) ?_
    refine x_icmp_ge 20 dX3_fetched_8 (by decide) ⟨(by omega), (by omega)⟩ (fun w8 => ?_) (fun w8 => ?_)
    · refine x_iload_n dX3_fetched_20 rfl ?_
      exact x_ireturn dX3_fetched_21 rfl (by omega) (by omega) (by first | (rw [show ftF (I 280) q t = I 280 t.toNat from if_pos (by omega)] at hp; exact hp) | (rw [show ftF (I 280) q t = t from if_neg (by omega)] at hp; exact hp))
    · refine x_aload_n dX3_fetched_11 rfl ?_
      refine x_getR (b := 280) dX3_fetched_12 gf_RX3_9 (k_ob_279 cs) (fun _ _ => rfl) (k_r_279_1 cs) ?_
      refine x_iload_n dX3_fetched_15 rfl ?_
      refine x_iaload dX3_fetched_16 (k_ar_280 cs) (by omega) (by omega) ?_
      refine x_goto 21 dX3_fetched_17 (by decide) ?_
      exact x_ireturn dX3_fetched_21 rfl (by omega) (by omega) (by first | (rw [show ftF (I 280) q t = I 280 t.toNat from if_pos (by omega)] at hp; exact hp) | (rw [show ftF (I 280) q t = t from if_neg (by omega)] at hp; exact hp))
theorem wo_2 (A : Nat → Int) (a b c : Int) : woF A 2 a b c = -a := rfl
theorem wo_3 (A : Nat → Int) (a b c : Int) : woF A 3 a b c = (if 0 ≤ a ∧ a < A 0 then A (14 + 3 * a.toNat) else 0) := rfl
theorem wo_4 (A : Nat → Int) (a b c : Int) : woF A 4 a b c = 1 - a := rfl
theorem wo_5 (A : Nat → Int) (a b c : Int) : woF A 5 a b c = a + b := rfl
theorem wo_6 (A : Nat → Int) (a b c : Int) : woF A 6 a b c = a - b := rfl
theorem wo_7 (A : Nat → Int) (a b c : Int) : woF A 7 a b c = a * b := rfl
theorem wo_8 (A : Nat → Int) (a b c : Int) : woF A 8 a b c = (if b = 0 then 0 else a.tdiv b) := rfl
theorem wo_9 (A : Nat → Int) (a b c : Int) : woF A 9 a b c = (if b = 0 then 0 else (if a < 0 then -a else a) % (if b < 0 then -b else b)) := rfl
theorem wo_10 (A : Nat → Int) (a b c : Int) : woF A 10 a b c = (if a < b then 1 else 0) := rfl
theorem wo_11 (A : Nat → Int) (a b c : Int) : woF A 11 a b c = (if a ≤ b then 1 else 0) := rfl
theorem wo_12 (A : Nat → Int) (a b c : Int) : woF A 12 a b c = (if b < a then 1 else 0) := rfl
theorem wo_13 (A : Nat → Int) (a b c : Int) : woF A 13 a b c = (if b ≤ a then 1 else 0) := rfl
theorem wo_14 (A : Nat → Int) (a b c : Int) : woF A 14 a b c = (if a = b then 1 else 0) := rfl
theorem wo_15 (A : Nat → Int) (a b c : Int) : woF A 15 a b c = (if a = b then 0 else 1) := rfl
theorem wo_16 (A : Nat → Int) (a b c : Int) : woF A 16 a b c = a * b := rfl
theorem wo_17 (A : Nat → Int) (a b c : Int) : woF A 17 a b c = (if b ≤ a then a else b) := rfl
theorem wo_18 (A : Nat → Int) (a b c : Int) : woF A 18 a b c = (if a = 0 then c else b) := rfl
theorem woF_b {a b c : Int} (hb : BA A) (op : Int) (ha : -1000000 ≤ a ∧ a ≤ 1000000) (hbb : -1000000 ≤ b ∧ b ≤ 1000000) (hcc : -1000000 ≤ c ∧ c ≤ 1000000) : -1000000000000 ≤ woF A op a b c ∧ woF A op a b c ≤ 1000000000000 := by
  have hm := mul_b ha hbb
  have hd : (a.tdiv b).natAbs ≤ a.natAbs := by rw [Int.natAbs_tdiv]; exact Nat.div_le_self _ _
  have hh : 0 ≤ a ∧ a < A 0 → 0 ≤ A (14 + 3 * a.toNat) ∧ A (14 + 3 * a.toNat) ≤ 9 := fun h => by
    have h0 := hb.1.1
    have := (hb.1.2.2.2.2.2.1 a.toNat (by omega)).2.2
    rw [show 6 + 8 + 3 * a.toNat = 14 + 3 * a.toNat by omega] at this
    exact this
  have hr : ∀ x y : Int, 0 ≤ x → x ≤ 1000000 → 0 < y → 0 ≤ x % y ∧ x % y ≤ 1000000 := fun x y h1 h2 h3 => by
    have e1 := Int.emod_def x y
    have e2 := Int.mul_nonneg (show 0 ≤ y by omega) (Int.ediv_nonneg h1 (show 0 ≤ y by omega))
    have e3 := Int.emod_nonneg x (show y ≠ 0 by omega)
    omega
  unfold woF
  by_cases o2 : op = 2
  · rw [if_pos o2]; first | omega | (split <;> omega)
  rw [if_neg o2]
  by_cases o3 : op = 3
  · rw [if_pos o3]; (by_cases z : 0 ≤ a ∧ a < A 0; (rw [if_pos z]; have := hh z; omega); (rw [if_neg z]; omega))
  rw [if_neg o3]
  by_cases o4 : op = 4
  · rw [if_pos o4]; first | omega | (split <;> omega)
  rw [if_neg o4]
  by_cases o5 : op = 5
  · rw [if_pos o5]; first | omega | (split <;> omega)
  rw [if_neg o5]
  by_cases o6 : op = 6
  · rw [if_pos o6]; first | omega | (split <;> omega)
  rw [if_neg o6]
  by_cases o7 : op = 7
  · rw [if_pos o7]; first | omega | (split <;> omega)
  rw [if_neg o7]
  by_cases o8 : op = 8
  · rw [if_pos o8]; (by_cases z : b = 0; (rw [if_pos z]; omega); (rw [if_neg z]; omega))
  rw [if_neg o8]
  by_cases o9 : op = 9
  · rw [if_pos o9]; (by_cases z : b = 0; (rw [if_pos z]; omega); (rw [if_neg z]; have := hr (if a < 0 then -a else a) (if b < 0 then -b else b) (by split <;> omega) (by split <;> omega) (by split <;> omega); omega))
  rw [if_neg o9]
  by_cases o10 : op = 10
  · rw [if_pos o10]; first | omega | (split <;> omega)
  rw [if_neg o10]
  by_cases o11 : op = 11
  · rw [if_pos o11]; first | omega | (split <;> omega)
  rw [if_neg o11]
  by_cases o12 : op = 12
  · rw [if_pos o12]; first | omega | (split <;> omega)
  rw [if_neg o12]
  by_cases o13 : op = 13
  · rw [if_pos o13]; first | omega | (split <;> omega)
  rw [if_neg o13]
  by_cases o14 : op = 14
  · rw [if_pos o14]; first | omega | (split <;> omega)
  rw [if_neg o14]
  by_cases o15 : op = 15
  · rw [if_pos o15]; first | omega | (split <;> omega)
  rw [if_neg o15]
  by_cases o16 : op = 16
  · rw [if_pos o16]; first | omega | (split <;> omega)
  rw [if_neg o16]
  by_cases o17 : op = 17
  · rw [if_pos o17]; first | omega | (split <;> omega)
  rw [if_neg o17]
  split <;> omega
theorem dX3_workedOut_0 : decode prog_5_method_11_code 0 = .ok (.aload_n 0, 1) := by decide +kernel
theorem dX3_workedOut_1 : decode prog_5_method_11_code 1 = .ok (.getfield 15, 3) := by decide +kernel
theorem dX3_workedOut_4 : decode prog_5_method_11_code 4 = .ok (.iload_n 2, 1) := by decide +kernel
theorem dX3_workedOut_5 : decode prog_5_method_11_code 5 = .ok (.iaload, 1) := by decide +kernel
theorem dX3_workedOut_6 : decode prog_5_method_11_code 6 = .ok (.i2l, 1) := by decide +kernel
theorem dX3_workedOut_7 : decode prog_5_method_11_code 7 = .ok (.lstore_n 3, 1) := by decide +kernel
theorem dX3_workedOut_8 : decode prog_5_method_11_code 8 = .ok (.aload_n 0, 1) := by decide +kernel
theorem dX3_workedOut_9 : decode prog_5_method_11_code 9 = .ok (.getfield 15, 3) := by decide +kernel
theorem dX3_workedOut_12 : decode prog_5_method_11_code 12 = .ok (.iload_n 2, 1) := by decide +kernel
theorem dX3_workedOut_13 : decode prog_5_method_11_code 13 = .ok (.iconst 1, 1) := by decide +kernel
theorem dX3_workedOut_14 : decode prog_5_method_11_code 14 = .ok (.iadd, 1) := by decide +kernel
theorem dX3_workedOut_15 : decode prog_5_method_11_code 15 = .ok (.iaload, 1) := by decide +kernel
theorem dX3_workedOut_16 : decode prog_5_method_11_code 16 = .ok (.i2l, 1) := by decide +kernel
theorem dX3_workedOut_17 : decode prog_5_method_11_code 17 = .ok (.lstore 5, 2) := by decide +kernel
theorem dX3_workedOut_19 : decode prog_5_method_11_code 19 = .ok (.iload_n 1, 1) := by decide +kernel
theorem dX3_workedOut_20 : decode prog_5_method_11_code 20 = .ok (.tableswitch 271 2 17 #[80, 83, 124, 128, 133, 138, 143, 159, 181, 194, 207, 220, 233, 246, 259, 264], 80) := by decide +kernel
theorem dX3_workedOut_100 : decode prog_5_method_11_code 100 = .ok (.lload_n 3, 1) := by decide +kernel
theorem dX3_workedOut_101 : decode prog_5_method_11_code 101 = .ok (.lneg, 1) := by decide +kernel
theorem dX3_workedOut_102 : decode prog_5_method_11_code 102 = .ok (.lreturn, 1) := by decide +kernel
theorem dX3_workedOut_103 : decode prog_5_method_11_code 103 = .ok (.lload_n 3, 1) := by decide +kernel
theorem dX3_workedOut_104 : decode prog_5_method_11_code 104 = .ok (.lconst 0, 1) := by decide +kernel
theorem dX3_workedOut_105 : decode prog_5_method_11_code 105 = .ok (.lcmp, 1) := by decide +kernel
theorem dX3_workedOut_106 : decode prog_5_method_11_code 106 = .ok (.ifCond .lt 36, 3) := by decide +kernel
theorem dX3_workedOut_109 : decode prog_5_method_11_code 109 = .ok (.lload_n 3, 1) := by decide +kernel
theorem dX3_workedOut_110 : decode prog_5_method_11_code 110 = .ok (.aload_n 0, 1) := by decide +kernel
theorem dX3_workedOut_111 : decode prog_5_method_11_code 111 = .ok (.getfield 18, 3) := by decide +kernel
theorem dX3_workedOut_114 : decode prog_5_method_11_code 114 = .ok (.getfield 28, 3) := by decide +kernel
theorem dX3_workedOut_117 : decode prog_5_method_11_code 117 = .ok (.getfield 81, 3) := by decide +kernel
theorem dX3_workedOut_120 : decode prog_5_method_11_code 120 = .ok (.i2l, 1) := by decide +kernel
theorem dX3_workedOut_121 : decode prog_5_method_11_code 121 = .ok (.lcmp, 1) := by decide +kernel
theorem dX3_workedOut_122 : decode prog_5_method_11_code 122 = .ok (.ifCond .ge 20, 3) := by decide +kernel
theorem dX3_workedOut_125 : decode prog_5_method_11_code 125 = .ok (.aload_n 0, 1) := by decide +kernel
theorem dX3_workedOut_126 : decode prog_5_method_11_code 126 = .ok (.getfield 18, 3) := by decide +kernel
theorem dX3_workedOut_129 : decode prog_5_method_11_code 129 = .ok (.getfield 28, 3) := by decide +kernel
theorem dX3_workedOut_132 : decode prog_5_method_11_code 132 = .ok (.getfield 124, 3) := by decide +kernel
theorem dX3_workedOut_135 : decode prog_5_method_11_code 135 = .ok (.lload_n 3, 1) := by decide +kernel
theorem dX3_workedOut_136 : decode prog_5_method_11_code 136 = .ok (.l2i, 1) := by decide +kernel
theorem dX3_workedOut_137 : decode prog_5_method_11_code 137 = .ok (.iaload, 1) := by decide +kernel
theorem dX3_workedOut_138 : decode prog_5_method_11_code 138 = .ok (.i2l, 1) := by decide +kernel
theorem dX3_workedOut_139 : decode prog_5_method_11_code 139 = .ok (.goto 4, 3) := by decide +kernel
theorem dX3_workedOut_142 : decode prog_5_method_11_code 142 = .ok (.lconst 0, 1) := by decide +kernel
theorem dX3_workedOut_143 : decode prog_5_method_11_code 143 = .ok (.lreturn, 1) := by decide +kernel
theorem dX3_workedOut_144 : decode prog_5_method_11_code 144 = .ok (.lconst 1, 1) := by decide +kernel
theorem dX3_workedOut_145 : decode prog_5_method_11_code 145 = .ok (.lload_n 3, 1) := by decide +kernel
theorem dX3_workedOut_146 : decode prog_5_method_11_code 146 = .ok (.lsub, 1) := by decide +kernel
theorem dX3_workedOut_147 : decode prog_5_method_11_code 147 = .ok (.lreturn, 1) := by decide +kernel
theorem dX3_workedOut_148 : decode prog_5_method_11_code 148 = .ok (.lload_n 3, 1) := by decide +kernel
theorem dX3_workedOut_149 : decode prog_5_method_11_code 149 = .ok (.lload 5, 2) := by decide +kernel
theorem dX3_workedOut_151 : decode prog_5_method_11_code 151 = .ok (.ladd, 1) := by decide +kernel
theorem dX3_workedOut_152 : decode prog_5_method_11_code 152 = .ok (.lreturn, 1) := by decide +kernel
theorem dX3_workedOut_153 : decode prog_5_method_11_code 153 = .ok (.lload_n 3, 1) := by decide +kernel
theorem dX3_workedOut_154 : decode prog_5_method_11_code 154 = .ok (.lload 5, 2) := by decide +kernel
theorem dX3_workedOut_156 : decode prog_5_method_11_code 156 = .ok (.lsub, 1) := by decide +kernel
theorem dX3_workedOut_157 : decode prog_5_method_11_code 157 = .ok (.lreturn, 1) := by decide +kernel
theorem dX3_workedOut_158 : decode prog_5_method_11_code 158 = .ok (.lload_n 3, 1) := by decide +kernel
theorem dX3_workedOut_159 : decode prog_5_method_11_code 159 = .ok (.lload 5, 2) := by decide +kernel
theorem dX3_workedOut_161 : decode prog_5_method_11_code 161 = .ok (.lmul, 1) := by decide +kernel
theorem dX3_workedOut_162 : decode prog_5_method_11_code 162 = .ok (.lreturn, 1) := by decide +kernel
theorem dX3_workedOut_163 : decode prog_5_method_11_code 163 = .ok (.lload 5, 2) := by decide +kernel
theorem dX3_workedOut_165 : decode prog_5_method_11_code 165 = .ok (.lconst 0, 1) := by decide +kernel
theorem dX3_workedOut_166 : decode prog_5_method_11_code 166 = .ok (.lcmp, 1) := by decide +kernel
theorem dX3_workedOut_167 : decode prog_5_method_11_code 167 = .ok (.ifCond .ne 7, 3) := by decide +kernel
theorem dX3_workedOut_170 : decode prog_5_method_11_code 170 = .ok (.lconst 0, 1) := by decide +kernel
theorem dX3_workedOut_171 : decode prog_5_method_11_code 171 = .ok (.goto 7, 3) := by decide +kernel
theorem dX3_workedOut_174 : decode prog_5_method_11_code 174 = .ok (.lload_n 3, 1) := by decide +kernel
theorem dX3_workedOut_175 : decode prog_5_method_11_code 175 = .ok (.lload 5, 2) := by decide +kernel
theorem dX3_workedOut_177 : decode prog_5_method_11_code 177 = .ok (.ldiv, 1) := by decide +kernel
theorem dX3_workedOut_178 : decode prog_5_method_11_code 178 = .ok (.lreturn, 1) := by decide +kernel
theorem dX3_workedOut_179 : decode prog_5_method_11_code 179 = .ok (.lload 5, 2) := by decide +kernel
theorem dX3_workedOut_181 : decode prog_5_method_11_code 181 = .ok (.lconst 0, 1) := by decide +kernel
theorem dX3_workedOut_182 : decode prog_5_method_11_code 182 = .ok (.lcmp, 1) := by decide +kernel
theorem dX3_workedOut_183 : decode prog_5_method_11_code 183 = .ok (.ifCond .ne 7, 3) := by decide +kernel
theorem dX3_workedOut_186 : decode prog_5_method_11_code 186 = .ok (.lconst 0, 1) := by decide +kernel
theorem dX3_workedOut_187 : decode prog_5_method_11_code 187 = .ok (.goto 13, 3) := by decide +kernel
theorem dX3_workedOut_190 : decode prog_5_method_11_code 190 = .ok (.lload_n 3, 1) := by decide +kernel
theorem dX3_workedOut_191 : decode prog_5_method_11_code 191 = .ok (.invokestatic 153, 3) := by decide +kernel
theorem dX3_workedOut_194 : decode prog_5_method_11_code 194 = .ok (.lload 5, 2) := by decide +kernel
theorem dX3_workedOut_196 : decode prog_5_method_11_code 196 = .ok (.invokestatic 153, 3) := by decide +kernel
theorem dX3_workedOut_199 : decode prog_5_method_11_code 199 = .ok (.lrem, 1) := by decide +kernel
theorem dX3_workedOut_200 : decode prog_5_method_11_code 200 = .ok (.lreturn, 1) := by decide +kernel
theorem dX3_workedOut_201 : decode prog_5_method_11_code 201 = .ok (.lload_n 3, 1) := by decide +kernel
theorem dX3_workedOut_202 : decode prog_5_method_11_code 202 = .ok (.lload 5, 2) := by decide +kernel
theorem dX3_workedOut_204 : decode prog_5_method_11_code 204 = .ok (.lcmp, 1) := by decide +kernel
theorem dX3_workedOut_205 : decode prog_5_method_11_code 205 = .ok (.ifCond .ge 7, 3) := by decide +kernel
theorem dX3_workedOut_208 : decode prog_5_method_11_code 208 = .ok (.lconst 1, 1) := by decide +kernel
theorem dX3_workedOut_209 : decode prog_5_method_11_code 209 = .ok (.goto 4, 3) := by decide +kernel
theorem dX3_workedOut_212 : decode prog_5_method_11_code 212 = .ok (.lconst 0, 1) := by decide +kernel
theorem dX3_workedOut_213 : decode prog_5_method_11_code 213 = .ok (.lreturn, 1) := by decide +kernel
theorem dX3_workedOut_214 : decode prog_5_method_11_code 214 = .ok (.lload_n 3, 1) := by decide +kernel
theorem dX3_workedOut_215 : decode prog_5_method_11_code 215 = .ok (.lload 5, 2) := by decide +kernel
theorem dX3_workedOut_217 : decode prog_5_method_11_code 217 = .ok (.lcmp, 1) := by decide +kernel
theorem dX3_workedOut_218 : decode prog_5_method_11_code 218 = .ok (.ifCond .gt 7, 3) := by decide +kernel
theorem dX3_workedOut_221 : decode prog_5_method_11_code 221 = .ok (.lconst 1, 1) := by decide +kernel
theorem dX3_workedOut_222 : decode prog_5_method_11_code 222 = .ok (.goto 4, 3) := by decide +kernel
theorem dX3_workedOut_225 : decode prog_5_method_11_code 225 = .ok (.lconst 0, 1) := by decide +kernel
theorem dX3_workedOut_226 : decode prog_5_method_11_code 226 = .ok (.lreturn, 1) := by decide +kernel
theorem dX3_workedOut_227 : decode prog_5_method_11_code 227 = .ok (.lload_n 3, 1) := by decide +kernel
theorem dX3_workedOut_228 : decode prog_5_method_11_code 228 = .ok (.lload 5, 2) := by decide +kernel
theorem dX3_workedOut_230 : decode prog_5_method_11_code 230 = .ok (.lcmp, 1) := by decide +kernel
theorem dX3_workedOut_231 : decode prog_5_method_11_code 231 = .ok (.ifCond .le 7, 3) := by decide +kernel
theorem dX3_workedOut_234 : decode prog_5_method_11_code 234 = .ok (.lconst 1, 1) := by decide +kernel
theorem dX3_workedOut_235 : decode prog_5_method_11_code 235 = .ok (.goto 4, 3) := by decide +kernel
theorem dX3_workedOut_238 : decode prog_5_method_11_code 238 = .ok (.lconst 0, 1) := by decide +kernel
theorem dX3_workedOut_239 : decode prog_5_method_11_code 239 = .ok (.lreturn, 1) := by decide +kernel
theorem dX3_workedOut_240 : decode prog_5_method_11_code 240 = .ok (.lload_n 3, 1) := by decide +kernel
theorem dX3_workedOut_241 : decode prog_5_method_11_code 241 = .ok (.lload 5, 2) := by decide +kernel
theorem dX3_workedOut_243 : decode prog_5_method_11_code 243 = .ok (.lcmp, 1) := by decide +kernel
theorem dX3_workedOut_244 : decode prog_5_method_11_code 244 = .ok (.ifCond .lt 7, 3) := by decide +kernel
theorem dX3_workedOut_247 : decode prog_5_method_11_code 247 = .ok (.lconst 1, 1) := by decide +kernel
theorem dX3_workedOut_248 : decode prog_5_method_11_code 248 = .ok (.goto 4, 3) := by decide +kernel
theorem dX3_workedOut_251 : decode prog_5_method_11_code 251 = .ok (.lconst 0, 1) := by decide +kernel
theorem dX3_workedOut_252 : decode prog_5_method_11_code 252 = .ok (.lreturn, 1) := by decide +kernel
theorem dX3_workedOut_253 : decode prog_5_method_11_code 253 = .ok (.lload_n 3, 1) := by decide +kernel
theorem dX3_workedOut_254 : decode prog_5_method_11_code 254 = .ok (.lload 5, 2) := by decide +kernel
theorem dX3_workedOut_256 : decode prog_5_method_11_code 256 = .ok (.lcmp, 1) := by decide +kernel
theorem dX3_workedOut_257 : decode prog_5_method_11_code 257 = .ok (.ifCond .ne 7, 3) := by decide +kernel
theorem dX3_workedOut_260 : decode prog_5_method_11_code 260 = .ok (.lconst 1, 1) := by decide +kernel
theorem dX3_workedOut_261 : decode prog_5_method_11_code 261 = .ok (.goto 4, 3) := by decide +kernel
theorem dX3_workedOut_264 : decode prog_5_method_11_code 264 = .ok (.lconst 0, 1) := by decide +kernel
theorem dX3_workedOut_265 : decode prog_5_method_11_code 265 = .ok (.lreturn, 1) := by decide +kernel
theorem dX3_workedOut_266 : decode prog_5_method_11_code 266 = .ok (.lload_n 3, 1) := by decide +kernel
theorem dX3_workedOut_267 : decode prog_5_method_11_code 267 = .ok (.lload 5, 2) := by decide +kernel
theorem dX3_workedOut_269 : decode prog_5_method_11_code 269 = .ok (.lcmp, 1) := by decide +kernel
theorem dX3_workedOut_270 : decode prog_5_method_11_code 270 = .ok (.ifCond .eq 7, 3) := by decide +kernel
theorem dX3_workedOut_273 : decode prog_5_method_11_code 273 = .ok (.lconst 1, 1) := by decide +kernel
theorem dX3_workedOut_274 : decode prog_5_method_11_code 274 = .ok (.goto 4, 3) := by decide +kernel
theorem dX3_workedOut_277 : decode prog_5_method_11_code 277 = .ok (.lconst 0, 1) := by decide +kernel
theorem dX3_workedOut_278 : decode prog_5_method_11_code 278 = .ok (.lreturn, 1) := by decide +kernel
theorem dX3_workedOut_279 : decode prog_5_method_11_code 279 = .ok (.lload_n 3, 1) := by decide +kernel
theorem dX3_workedOut_280 : decode prog_5_method_11_code 280 = .ok (.lload 5, 2) := by decide +kernel
theorem dX3_workedOut_282 : decode prog_5_method_11_code 282 = .ok (.lmul, 1) := by decide +kernel
theorem dX3_workedOut_283 : decode prog_5_method_11_code 283 = .ok (.lreturn, 1) := by decide +kernel
theorem dX3_workedOut_284 : decode prog_5_method_11_code 284 = .ok (.lload_n 3, 1) := by decide +kernel
theorem dX3_workedOut_285 : decode prog_5_method_11_code 285 = .ok (.lload 5, 2) := by decide +kernel
theorem dX3_workedOut_287 : decode prog_5_method_11_code 287 = .ok (.invokestatic 151, 3) := by decide +kernel
theorem dX3_workedOut_290 : decode prog_5_method_11_code 290 = .ok (.lreturn, 1) := by decide +kernel
theorem dX3_workedOut_291 : decode prog_5_method_11_code 291 = .ok (.lload_n 3, 1) := by decide +kernel
theorem dX3_workedOut_292 : decode prog_5_method_11_code 292 = .ok (.lconst 0, 1) := by decide +kernel
theorem dX3_workedOut_293 : decode prog_5_method_11_code 293 = .ok (.lcmp, 1) := by decide +kernel
theorem dX3_workedOut_294 : decode prog_5_method_11_code 294 = .ok (.ifCond .eq 8, 3) := by decide +kernel
theorem dX3_workedOut_297 : decode prog_5_method_11_code 297 = .ok (.lload 5, 2) := by decide +kernel
theorem dX3_workedOut_299 : decode prog_5_method_11_code 299 = .ok (.goto 12, 3) := by decide +kernel
theorem dX3_workedOut_302 : decode prog_5_method_11_code 302 = .ok (.aload_n 0, 1) := by decide +kernel
theorem dX3_workedOut_303 : decode prog_5_method_11_code 303 = .ok (.getfield 15, 3) := by decide +kernel
theorem dX3_workedOut_306 : decode prog_5_method_11_code 306 = .ok (.iload_n 2, 1) := by decide +kernel
theorem dX3_workedOut_307 : decode prog_5_method_11_code 307 = .ok (.iconst 2, 1) := by decide +kernel
theorem dX3_workedOut_308 : decode prog_5_method_11_code 308 = .ok (.iadd, 1) := by decide +kernel
theorem dX3_workedOut_309 : decode prog_5_method_11_code 309 = .ok (.iaload, 1) := by decide +kernel
theorem dX3_workedOut_310 : decode prog_5_method_11_code 310 = .ok (.i2l, 1) := by decide +kernel
theorem dX3_workedOut_311 : decode prog_5_method_11_code 311 = .ok (.lreturn, 1) := by decide +kernel
theorem sp_X3_workedOut {q t : Int} (cs : CS S R) (hc : ClW I 1 A) (hb : BA A) (hq : 2 ≤ q ∧ q ≤ 18) (ht : 0 ≤ t ∧ t ≤ 300) (hs : ∀ k, k < 303 → -1000000 ≤ I 281 k ∧ I 281 k ≤ 1000000) (hn : 1 ≤ n) (hp : Post (some (.long (lI (woF A q (I 281 t.toNat) (I 281 (t + 1).toNat) (I 281 (t + 2).toNat))))) S I R) : Call n 0 0 mX3_workedOut [.ref (S.2.1 279), .int (iI q), .int (iI t)] S I R Post := by
  obtain ⟨⟨⟨c0, c7, c8, c9, c10, c11⟩, cq⟩, ⟨⟨t1, t2, t3, t4, t5, t6, t7, t8, t9⟩, tq, th, tb, ts, td⟩, cb, cp⟩ := id hc
  dsimp only [Nat.reduceAdd] at c0 c7 c8 c9 c10 c11 cq t1 t2 t3 t4 t5 t6 t7 t8 t9 tq th tb ts td
  obtain ⟨⟨b0, b1, b2, b3, b4, bq, bl⟩, ⟨d1, d2, d3, d4, d5, d6, d7⟩, dq, dh, db, ds, dd, dp⟩ := id hb
  have b7 : 0 ≤ A 7 ∧ A 7 ≤ 9999 := b1
  have b8 : 0 ≤ A 8 ∧ A 8 ≤ 30870 := b2
  have b9 : 0 ≤ A 9 ∧ A 9 ≤ 9999 := b3
  have b10 : 0 ≤ A 10 ∧ A 10 ≤ 1 := b4
  have b11 : 0 ≤ A 11 ∧ A 11 ≤ 16 := by have h1 := lns_b (fun q => A (6 + 6 + 3 * q)) (A 0).toNat; have h2 : A 11 = _ := bl; omega
  have s1 := hs t.toNat (by omega)
  have s2 := hs (t + 1).toNat (by omega)
  have s3 := hs (t + 2).toNat (by omega)
  have hm1 : I 281 t.toNat * I 281 (t + 1).toNat ≤ 1000000000000 ∧ -1000000000000 ≤ I 281 t.toNat * I 281 (t + 1).toNat := mul_b s1 s2
  refine Call.of (by decide +kernel) (Nat.le_of_ble_eq_true rfl) ?_
  show WP _ _ _ _ _ 0 [(0, _), (1, _), (2, _)] [] 0 0 _ _ _
  refine x_aload_n dX3_workedOut_0 rfl ?_
  refine x_getR (b := 281) dX3_workedOut_1 gf_RX3_15 (k_ob_279 cs) (fun _ _ => rfl) (k_r_279_2 cs) ?_
  refine x_iload_n dX3_workedOut_4 rfl ?_
  refine x_iaload dX3_workedOut_5 (k_ar_281 cs) (by omega) (by omega) ?_
  refine x_i2l dX3_workedOut_6 (by omega) ?_
  refine x_lstore_n (lv2 := [(3, _), (0, _), (1, _), (2, _)]) dX3_workedOut_7 (by decide) rfl ?_
  refine x_aload_n dX3_workedOut_8 rfl ?_
  refine x_getR (b := 281) dX3_workedOut_9 gf_RX3_15 (k_ob_279 cs) (fun _ _ => rfl) (k_r_279_2 cs) ?_
  refine x_iload_n dX3_workedOut_12 rfl ?_
  refine x_iconst dX3_workedOut_13 ?_
  refine x_iadd dX3_workedOut_14 ?_
  refine x_iaload dX3_workedOut_15 (k_ar_281 cs) (by omega) (by omega) ?_
  refine x_i2l dX3_workedOut_16 (by omega) ?_
  refine x_lstore (lv2 := [(5, _), (3, _), (0, _), (1, _), (2, _)]) dX3_workedOut_17 (by decide) rfl ?_
  refine x_iload_n dX3_workedOut_19 rfl ?_
  by_cases t20_0 : q = 2
  · refine x_tableIn 100 dX3_workedOut_20 (by omega) (by omega) (by rw [t20_0]; rfl) (by decide) ?_
    refine x_lload_n dX3_workedOut_100 rfl ?_
    refine x_lneg dX3_workedOut_101 ?_
    exact x_lreturn dX3_workedOut_102 rfl (by omega) (by omega) (by first | (subst t20_0; rw [wo_2] at hp; exact hp) | (subst t20_1; rw [wo_3] at hp; first | (rw [if_pos (by omega), (cq _ (by omega)).2.2] at hp; exact hp) | (rw [if_neg (by omega)] at hp; exact hp)) | (subst t20_2; rw [wo_4] at hp; exact hp) | (subst t20_3; rw [wo_5] at hp; exact hp) | (subst t20_4; rw [wo_6] at hp; exact hp) | (subst t20_5; rw [wo_7] at hp; exact hp) | (subst t20_6; rw [wo_8] at hp; first | (rw [if_pos (by omega)] at hp; exact hp) | (rw [if_neg (by omega)] at hp; exact hp)) | (subst t20_7; rw [wo_9] at hp; first | (rw [if_pos (by omega)] at hp; exact hp) | (rw [if_neg (by omega), show (if I 281 t.toNat < 0 then -I 281 t.toNat else I 281 t.toNat) = r191 by split <;> omega, show (if I 281 (t + 1).toNat < 0 then -I 281 (t + 1).toNat else I 281 (t + 1).toNat) = r196 by split <;> omega] at hp; exact hp)) | (subst t20_8; rw [wo_10] at hp; first | (rw [if_pos (by omega)] at hp; exact hp) | (rw [if_neg (by omega)] at hp; exact hp)) | (subst t20_9; rw [wo_11] at hp; first | (rw [if_pos (by omega)] at hp; exact hp) | (rw [if_neg (by omega)] at hp; exact hp)) | (subst t20_10; rw [wo_12] at hp; first | (rw [if_pos (by omega)] at hp; exact hp) | (rw [if_neg (by omega)] at hp; exact hp)) | (subst t20_11; rw [wo_13] at hp; first | (rw [if_pos (by omega)] at hp; exact hp) | (rw [if_neg (by omega)] at hp; exact hp)) | (subst t20_12; rw [wo_14] at hp; first | (rw [if_pos (by omega)] at hp; exact hp) | (rw [if_neg (by omega)] at hp; exact hp)) | (subst t20_13; rw [wo_15] at hp; first | (rw [if_pos (by omega)] at hp; exact hp) | (rw [if_neg (by omega)] at hp; exact hp)) | (subst t20_14; rw [wo_16] at hp; exact hp) | (subst t20_15; rw [wo_17, show (if I 281 (t + 1).toNat ≤ I 281 t.toNat then I 281 t.toNat else I 281 (t + 1).toNat) = r287 by split <;> omega] at hp; exact hp) | (obtain rfl : q = 18 := (by omega); rw [wo_18] at hp; first | (rw [if_pos (by omega)] at hp; exact hp) | (rw [if_neg (by omega)] at hp; exact hp)))
  by_cases t20_1 : q = 3
  · refine x_tableIn 103 dX3_workedOut_20 (by omega) (by omega) (by rw [t20_1]; rfl) (by decide) ?_
    refine x_lload_n dX3_workedOut_103 rfl ?_
    refine x_lconst0 dX3_workedOut_104 ?_
    refine x_lcif_lt 142 dX3_workedOut_105 dX3_workedOut_106 (by decide) (by omega) (fun w105 => ?_) (fun w105 => ?_)
    · refine x_lconst0 dX3_workedOut_142 ?_
      exact x_lreturn dX3_workedOut_143 rfl (by omega) (by omega) (by first | (subst t20_0; rw [wo_2] at hp; exact hp) | (subst t20_1; rw [wo_3] at hp; first | (rw [if_pos (by omega), (cq _ (by omega)).2.2] at hp; exact hp) | (rw [if_neg (by omega)] at hp; exact hp)) | (subst t20_2; rw [wo_4] at hp; exact hp) | (subst t20_3; rw [wo_5] at hp; exact hp) | (subst t20_4; rw [wo_6] at hp; exact hp) | (subst t20_5; rw [wo_7] at hp; exact hp) | (subst t20_6; rw [wo_8] at hp; first | (rw [if_pos (by omega)] at hp; exact hp) | (rw [if_neg (by omega)] at hp; exact hp)) | (subst t20_7; rw [wo_9] at hp; first | (rw [if_pos (by omega)] at hp; exact hp) | (rw [if_neg (by omega), show (if I 281 t.toNat < 0 then -I 281 t.toNat else I 281 t.toNat) = r191 by split <;> omega, show (if I 281 (t + 1).toNat < 0 then -I 281 (t + 1).toNat else I 281 (t + 1).toNat) = r196 by split <;> omega] at hp; exact hp)) | (subst t20_8; rw [wo_10] at hp; first | (rw [if_pos (by omega)] at hp; exact hp) | (rw [if_neg (by omega)] at hp; exact hp)) | (subst t20_9; rw [wo_11] at hp; first | (rw [if_pos (by omega)] at hp; exact hp) | (rw [if_neg (by omega)] at hp; exact hp)) | (subst t20_10; rw [wo_12] at hp; first | (rw [if_pos (by omega)] at hp; exact hp) | (rw [if_neg (by omega)] at hp; exact hp)) | (subst t20_11; rw [wo_13] at hp; first | (rw [if_pos (by omega)] at hp; exact hp) | (rw [if_neg (by omega)] at hp; exact hp)) | (subst t20_12; rw [wo_14] at hp; first | (rw [if_pos (by omega)] at hp; exact hp) | (rw [if_neg (by omega)] at hp; exact hp)) | (subst t20_13; rw [wo_15] at hp; first | (rw [if_pos (by omega)] at hp; exact hp) | (rw [if_neg (by omega)] at hp; exact hp)) | (subst t20_14; rw [wo_16] at hp; exact hp) | (subst t20_15; rw [wo_17, show (if I 281 (t + 1).toNat ≤ I 281 t.toNat then I 281 t.toNat else I 281 (t + 1).toNat) = r287 by split <;> omega] at hp; exact hp) | (obtain rfl : q = 18 := (by omega); rw [wo_18] at hp; first | (rw [if_pos (by omega)] at hp; exact hp) | (rw [if_neg (by omega)] at hp; exact hp)))
    · refine x_lload_n dX3_workedOut_109 rfl ?_
      refine x_aload_n dX3_workedOut_110 rfl ?_
      refine x_getR (b := 1) dX3_workedOut_111 gf_RX3_18 (k_ob_279 cs) (fun _ _ => rfl) (k_r_279_0 cs) ?_
      refine x_getR (b := 6) dX3_workedOut_114 gf_RX3_28 (k_ob_1 cs) (fun _ _ => rfl) (k_r_1_4 cs) ?_
      refine x_getI dX3_workedOut_117 gf_RX3_81 (k_ob_6 cs) (fun _ _ => rfl) ?_
      refine x_i2l dX3_workedOut_120 (by omega) ?_
      refine x_lcif_ge 142 dX3_workedOut_121 dX3_workedOut_122 (by decide) (by omega) (fun w121 => ?_) (fun w121 => ?_)
      · refine x_lconst0 dX3_workedOut_142 ?_
        exact x_lreturn dX3_workedOut_143 rfl (by omega) (by omega) (by first | (subst t20_0; rw [wo_2] at hp; exact hp) | (subst t20_1; rw [wo_3] at hp; first | (rw [if_pos (by omega), (cq _ (by omega)).2.2] at hp; exact hp) | (rw [if_neg (by omega)] at hp; exact hp)) | (subst t20_2; rw [wo_4] at hp; exact hp) | (subst t20_3; rw [wo_5] at hp; exact hp) | (subst t20_4; rw [wo_6] at hp; exact hp) | (subst t20_5; rw [wo_7] at hp; exact hp) | (subst t20_6; rw [wo_8] at hp; first | (rw [if_pos (by omega)] at hp; exact hp) | (rw [if_neg (by omega)] at hp; exact hp)) | (subst t20_7; rw [wo_9] at hp; first | (rw [if_pos (by omega)] at hp; exact hp) | (rw [if_neg (by omega), show (if I 281 t.toNat < 0 then -I 281 t.toNat else I 281 t.toNat) = r191 by split <;> omega, show (if I 281 (t + 1).toNat < 0 then -I 281 (t + 1).toNat else I 281 (t + 1).toNat) = r196 by split <;> omega] at hp; exact hp)) | (subst t20_8; rw [wo_10] at hp; first | (rw [if_pos (by omega)] at hp; exact hp) | (rw [if_neg (by omega)] at hp; exact hp)) | (subst t20_9; rw [wo_11] at hp; first | (rw [if_pos (by omega)] at hp; exact hp) | (rw [if_neg (by omega)] at hp; exact hp)) | (subst t20_10; rw [wo_12] at hp; first | (rw [if_pos (by omega)] at hp; exact hp) | (rw [if_neg (by omega)] at hp; exact hp)) | (subst t20_11; rw [wo_13] at hp; first | (rw [if_pos (by omega)] at hp; exact hp) | (rw [if_neg (by omega)] at hp; exact hp)) | (subst t20_12; rw [wo_14] at hp; first | (rw [if_pos (by omega)] at hp; exact hp) | (rw [if_neg (by omega)] at hp; exact hp)) | (subst t20_13; rw [wo_15] at hp; first | (rw [if_pos (by omega)] at hp; exact hp) | (rw [if_neg (by omega)] at hp; exact hp)) | (subst t20_14; rw [wo_16] at hp; exact hp) | (subst t20_15; rw [wo_17, show (if I 281 (t + 1).toNat ≤ I 281 t.toNat then I 281 t.toNat else I 281 (t + 1).toNat) = r287 by split <;> omega] at hp; exact hp) | (obtain rfl : q = 18 := (by omega); rw [wo_18] at hp; first | (rw [if_pos (by omega)] at hp; exact hp) | (rw [if_neg (by omega)] at hp; exact hp)))
      · refine x_aload_n dX3_workedOut_125 rfl ?_
        refine x_getR (b := 1) dX3_workedOut_126 gf_RX3_18 (k_ob_279 cs) (fun _ _ => rfl) (k_r_279_0 cs) ?_
        refine x_getR (b := 6) dX3_workedOut_129 gf_RX3_28 (k_ob_1 cs) (fun _ _ => rfl) (k_r_1_4 cs) ?_
        refine x_getR (b := 9) dX3_workedOut_132 gf_RX3_124 (k_ob_6 cs) (fun _ _ => rfl) (k_r_6_2 cs) ?_
        refine x_lload_n dX3_workedOut_135 rfl ?_
        refine x_l2i dX3_workedOut_136 ?_
        have g9 := (bq (I 281 t.toNat).toNat (by omega)).2.2
        rw [show 6 + 8 + 3 * (I 281 t.toNat).toNat = 14 + 3 * (I 281 t.toNat).toNat by omega] at g9
        have g8 := (cq (I 281 t.toNat).toNat (by omega)).2.2
        refine x_iaload dX3_workedOut_137 (k_ar_9 cs) (by omega) (by omega) ?_
        refine x_i2l dX3_workedOut_138 (by omega) ?_
        refine x_goto 143 dX3_workedOut_139 (by decide) ?_
        exact x_lreturn dX3_workedOut_143 rfl (by omega) (by omega) (by first | (subst t20_0; rw [wo_2] at hp; exact hp) | (subst t20_1; rw [wo_3] at hp; first | (rw [if_pos (by omega), (cq _ (by omega)).2.2] at hp; exact hp) | (rw [if_neg (by omega)] at hp; exact hp)) | (subst t20_2; rw [wo_4] at hp; exact hp) | (subst t20_3; rw [wo_5] at hp; exact hp) | (subst t20_4; rw [wo_6] at hp; exact hp) | (subst t20_5; rw [wo_7] at hp; exact hp) | (subst t20_6; rw [wo_8] at hp; first | (rw [if_pos (by omega)] at hp; exact hp) | (rw [if_neg (by omega)] at hp; exact hp)) | (subst t20_7; rw [wo_9] at hp; first | (rw [if_pos (by omega)] at hp; exact hp) | (rw [if_neg (by omega), show (if I 281 t.toNat < 0 then -I 281 t.toNat else I 281 t.toNat) = r191 by split <;> omega, show (if I 281 (t + 1).toNat < 0 then -I 281 (t + 1).toNat else I 281 (t + 1).toNat) = r196 by split <;> omega] at hp; exact hp)) | (subst t20_8; rw [wo_10] at hp; first | (rw [if_pos (by omega)] at hp; exact hp) | (rw [if_neg (by omega)] at hp; exact hp)) | (subst t20_9; rw [wo_11] at hp; first | (rw [if_pos (by omega)] at hp; exact hp) | (rw [if_neg (by omega)] at hp; exact hp)) | (subst t20_10; rw [wo_12] at hp; first | (rw [if_pos (by omega)] at hp; exact hp) | (rw [if_neg (by omega)] at hp; exact hp)) | (subst t20_11; rw [wo_13] at hp; first | (rw [if_pos (by omega)] at hp; exact hp) | (rw [if_neg (by omega)] at hp; exact hp)) | (subst t20_12; rw [wo_14] at hp; first | (rw [if_pos (by omega)] at hp; exact hp) | (rw [if_neg (by omega)] at hp; exact hp)) | (subst t20_13; rw [wo_15] at hp; first | (rw [if_pos (by omega)] at hp; exact hp) | (rw [if_neg (by omega)] at hp; exact hp)) | (subst t20_14; rw [wo_16] at hp; exact hp) | (subst t20_15; rw [wo_17, show (if I 281 (t + 1).toNat ≤ I 281 t.toNat then I 281 t.toNat else I 281 (t + 1).toNat) = r287 by split <;> omega] at hp; exact hp) | (obtain rfl : q = 18 := (by omega); rw [wo_18] at hp; first | (rw [if_pos (by omega)] at hp; exact hp) | (rw [if_neg (by omega)] at hp; exact hp)))
  by_cases t20_2 : q = 4
  · refine x_tableIn 144 dX3_workedOut_20 (by omega) (by omega) (by rw [t20_2]; rfl) (by decide) ?_
    refine x_lconst1 dX3_workedOut_144 ?_
    refine x_lload_n dX3_workedOut_145 rfl ?_
    refine x_lsub dX3_workedOut_146 ?_
    exact x_lreturn dX3_workedOut_147 rfl (by omega) (by omega) (by first | (subst t20_0; rw [wo_2] at hp; exact hp) | (subst t20_1; rw [wo_3] at hp; first | (rw [if_pos (by omega), (cq _ (by omega)).2.2] at hp; exact hp) | (rw [if_neg (by omega)] at hp; exact hp)) | (subst t20_2; rw [wo_4] at hp; exact hp) | (subst t20_3; rw [wo_5] at hp; exact hp) | (subst t20_4; rw [wo_6] at hp; exact hp) | (subst t20_5; rw [wo_7] at hp; exact hp) | (subst t20_6; rw [wo_8] at hp; first | (rw [if_pos (by omega)] at hp; exact hp) | (rw [if_neg (by omega)] at hp; exact hp)) | (subst t20_7; rw [wo_9] at hp; first | (rw [if_pos (by omega)] at hp; exact hp) | (rw [if_neg (by omega), show (if I 281 t.toNat < 0 then -I 281 t.toNat else I 281 t.toNat) = r191 by split <;> omega, show (if I 281 (t + 1).toNat < 0 then -I 281 (t + 1).toNat else I 281 (t + 1).toNat) = r196 by split <;> omega] at hp; exact hp)) | (subst t20_8; rw [wo_10] at hp; first | (rw [if_pos (by omega)] at hp; exact hp) | (rw [if_neg (by omega)] at hp; exact hp)) | (subst t20_9; rw [wo_11] at hp; first | (rw [if_pos (by omega)] at hp; exact hp) | (rw [if_neg (by omega)] at hp; exact hp)) | (subst t20_10; rw [wo_12] at hp; first | (rw [if_pos (by omega)] at hp; exact hp) | (rw [if_neg (by omega)] at hp; exact hp)) | (subst t20_11; rw [wo_13] at hp; first | (rw [if_pos (by omega)] at hp; exact hp) | (rw [if_neg (by omega)] at hp; exact hp)) | (subst t20_12; rw [wo_14] at hp; first | (rw [if_pos (by omega)] at hp; exact hp) | (rw [if_neg (by omega)] at hp; exact hp)) | (subst t20_13; rw [wo_15] at hp; first | (rw [if_pos (by omega)] at hp; exact hp) | (rw [if_neg (by omega)] at hp; exact hp)) | (subst t20_14; rw [wo_16] at hp; exact hp) | (subst t20_15; rw [wo_17, show (if I 281 (t + 1).toNat ≤ I 281 t.toNat then I 281 t.toNat else I 281 (t + 1).toNat) = r287 by split <;> omega] at hp; exact hp) | (obtain rfl : q = 18 := (by omega); rw [wo_18] at hp; first | (rw [if_pos (by omega)] at hp; exact hp) | (rw [if_neg (by omega)] at hp; exact hp)))
  by_cases t20_3 : q = 5
  · refine x_tableIn 148 dX3_workedOut_20 (by omega) (by omega) (by rw [t20_3]; rfl) (by decide) ?_
    refine x_lload_n dX3_workedOut_148 rfl ?_
    refine x_lload dX3_workedOut_149 rfl ?_
    refine x_ladd dX3_workedOut_151 ?_
    exact x_lreturn dX3_workedOut_152 rfl (by omega) (by omega) (by first | (subst t20_0; rw [wo_2] at hp; exact hp) | (subst t20_1; rw [wo_3] at hp; first | (rw [if_pos (by omega), (cq _ (by omega)).2.2] at hp; exact hp) | (rw [if_neg (by omega)] at hp; exact hp)) | (subst t20_2; rw [wo_4] at hp; exact hp) | (subst t20_3; rw [wo_5] at hp; exact hp) | (subst t20_4; rw [wo_6] at hp; exact hp) | (subst t20_5; rw [wo_7] at hp; exact hp) | (subst t20_6; rw [wo_8] at hp; first | (rw [if_pos (by omega)] at hp; exact hp) | (rw [if_neg (by omega)] at hp; exact hp)) | (subst t20_7; rw [wo_9] at hp; first | (rw [if_pos (by omega)] at hp; exact hp) | (rw [if_neg (by omega), show (if I 281 t.toNat < 0 then -I 281 t.toNat else I 281 t.toNat) = r191 by split <;> omega, show (if I 281 (t + 1).toNat < 0 then -I 281 (t + 1).toNat else I 281 (t + 1).toNat) = r196 by split <;> omega] at hp; exact hp)) | (subst t20_8; rw [wo_10] at hp; first | (rw [if_pos (by omega)] at hp; exact hp) | (rw [if_neg (by omega)] at hp; exact hp)) | (subst t20_9; rw [wo_11] at hp; first | (rw [if_pos (by omega)] at hp; exact hp) | (rw [if_neg (by omega)] at hp; exact hp)) | (subst t20_10; rw [wo_12] at hp; first | (rw [if_pos (by omega)] at hp; exact hp) | (rw [if_neg (by omega)] at hp; exact hp)) | (subst t20_11; rw [wo_13] at hp; first | (rw [if_pos (by omega)] at hp; exact hp) | (rw [if_neg (by omega)] at hp; exact hp)) | (subst t20_12; rw [wo_14] at hp; first | (rw [if_pos (by omega)] at hp; exact hp) | (rw [if_neg (by omega)] at hp; exact hp)) | (subst t20_13; rw [wo_15] at hp; first | (rw [if_pos (by omega)] at hp; exact hp) | (rw [if_neg (by omega)] at hp; exact hp)) | (subst t20_14; rw [wo_16] at hp; exact hp) | (subst t20_15; rw [wo_17, show (if I 281 (t + 1).toNat ≤ I 281 t.toNat then I 281 t.toNat else I 281 (t + 1).toNat) = r287 by split <;> omega] at hp; exact hp) | (obtain rfl : q = 18 := (by omega); rw [wo_18] at hp; first | (rw [if_pos (by omega)] at hp; exact hp) | (rw [if_neg (by omega)] at hp; exact hp)))
  by_cases t20_4 : q = 6
  · refine x_tableIn 153 dX3_workedOut_20 (by omega) (by omega) (by rw [t20_4]; rfl) (by decide) ?_
    refine x_lload_n dX3_workedOut_153 rfl ?_
    refine x_lload dX3_workedOut_154 rfl ?_
    refine x_lsub dX3_workedOut_156 ?_
    exact x_lreturn dX3_workedOut_157 rfl (by omega) (by omega) (by first | (subst t20_0; rw [wo_2] at hp; exact hp) | (subst t20_1; rw [wo_3] at hp; first | (rw [if_pos (by omega), (cq _ (by omega)).2.2] at hp; exact hp) | (rw [if_neg (by omega)] at hp; exact hp)) | (subst t20_2; rw [wo_4] at hp; exact hp) | (subst t20_3; rw [wo_5] at hp; exact hp) | (subst t20_4; rw [wo_6] at hp; exact hp) | (subst t20_5; rw [wo_7] at hp; exact hp) | (subst t20_6; rw [wo_8] at hp; first | (rw [if_pos (by omega)] at hp; exact hp) | (rw [if_neg (by omega)] at hp; exact hp)) | (subst t20_7; rw [wo_9] at hp; first | (rw [if_pos (by omega)] at hp; exact hp) | (rw [if_neg (by omega), show (if I 281 t.toNat < 0 then -I 281 t.toNat else I 281 t.toNat) = r191 by split <;> omega, show (if I 281 (t + 1).toNat < 0 then -I 281 (t + 1).toNat else I 281 (t + 1).toNat) = r196 by split <;> omega] at hp; exact hp)) | (subst t20_8; rw [wo_10] at hp; first | (rw [if_pos (by omega)] at hp; exact hp) | (rw [if_neg (by omega)] at hp; exact hp)) | (subst t20_9; rw [wo_11] at hp; first | (rw [if_pos (by omega)] at hp; exact hp) | (rw [if_neg (by omega)] at hp; exact hp)) | (subst t20_10; rw [wo_12] at hp; first | (rw [if_pos (by omega)] at hp; exact hp) | (rw [if_neg (by omega)] at hp; exact hp)) | (subst t20_11; rw [wo_13] at hp; first | (rw [if_pos (by omega)] at hp; exact hp) | (rw [if_neg (by omega)] at hp; exact hp)) | (subst t20_12; rw [wo_14] at hp; first | (rw [if_pos (by omega)] at hp; exact hp) | (rw [if_neg (by omega)] at hp; exact hp)) | (subst t20_13; rw [wo_15] at hp; first | (rw [if_pos (by omega)] at hp; exact hp) | (rw [if_neg (by omega)] at hp; exact hp)) | (subst t20_14; rw [wo_16] at hp; exact hp) | (subst t20_15; rw [wo_17, show (if I 281 (t + 1).toNat ≤ I 281 t.toNat then I 281 t.toNat else I 281 (t + 1).toNat) = r287 by split <;> omega] at hp; exact hp) | (obtain rfl : q = 18 := (by omega); rw [wo_18] at hp; first | (rw [if_pos (by omega)] at hp; exact hp) | (rw [if_neg (by omega)] at hp; exact hp)))
  by_cases t20_5 : q = 7
  · refine x_tableIn 158 dX3_workedOut_20 (by omega) (by omega) (by rw [t20_5]; rfl) (by decide) ?_
    refine x_lload_n dX3_workedOut_158 rfl ?_
    refine x_lload dX3_workedOut_159 rfl ?_
    refine x_lmul dX3_workedOut_161 ?_
    exact x_lreturn dX3_workedOut_162 rfl (by omega) (by omega) (by first | (subst t20_0; rw [wo_2] at hp; exact hp) | (subst t20_1; rw [wo_3] at hp; first | (rw [if_pos (by omega), (cq _ (by omega)).2.2] at hp; exact hp) | (rw [if_neg (by omega)] at hp; exact hp)) | (subst t20_2; rw [wo_4] at hp; exact hp) | (subst t20_3; rw [wo_5] at hp; exact hp) | (subst t20_4; rw [wo_6] at hp; exact hp) | (subst t20_5; rw [wo_7] at hp; exact hp) | (subst t20_6; rw [wo_8] at hp; first | (rw [if_pos (by omega)] at hp; exact hp) | (rw [if_neg (by omega)] at hp; exact hp)) | (subst t20_7; rw [wo_9] at hp; first | (rw [if_pos (by omega)] at hp; exact hp) | (rw [if_neg (by omega), show (if I 281 t.toNat < 0 then -I 281 t.toNat else I 281 t.toNat) = r191 by split <;> omega, show (if I 281 (t + 1).toNat < 0 then -I 281 (t + 1).toNat else I 281 (t + 1).toNat) = r196 by split <;> omega] at hp; exact hp)) | (subst t20_8; rw [wo_10] at hp; first | (rw [if_pos (by omega)] at hp; exact hp) | (rw [if_neg (by omega)] at hp; exact hp)) | (subst t20_9; rw [wo_11] at hp; first | (rw [if_pos (by omega)] at hp; exact hp) | (rw [if_neg (by omega)] at hp; exact hp)) | (subst t20_10; rw [wo_12] at hp; first | (rw [if_pos (by omega)] at hp; exact hp) | (rw [if_neg (by omega)] at hp; exact hp)) | (subst t20_11; rw [wo_13] at hp; first | (rw [if_pos (by omega)] at hp; exact hp) | (rw [if_neg (by omega)] at hp; exact hp)) | (subst t20_12; rw [wo_14] at hp; first | (rw [if_pos (by omega)] at hp; exact hp) | (rw [if_neg (by omega)] at hp; exact hp)) | (subst t20_13; rw [wo_15] at hp; first | (rw [if_pos (by omega)] at hp; exact hp) | (rw [if_neg (by omega)] at hp; exact hp)) | (subst t20_14; rw [wo_16] at hp; exact hp) | (subst t20_15; rw [wo_17, show (if I 281 (t + 1).toNat ≤ I 281 t.toNat then I 281 t.toNat else I 281 (t + 1).toNat) = r287 by split <;> omega] at hp; exact hp) | (obtain rfl : q = 18 := (by omega); rw [wo_18] at hp; first | (rw [if_pos (by omega)] at hp; exact hp) | (rw [if_neg (by omega)] at hp; exact hp)))
  by_cases t20_6 : q = 8
  · refine x_tableIn 163 dX3_workedOut_20 (by omega) (by omega) (by rw [t20_6]; rfl) (by decide) ?_
    refine x_lload dX3_workedOut_163 rfl ?_
    refine x_lconst0 dX3_workedOut_165 ?_
    refine x_lcif_ne 174 dX3_workedOut_166 dX3_workedOut_167 (by decide) (by omega) (fun w166 => ?_) (fun w166 => ?_)
    · refine x_lload_n dX3_workedOut_174 rfl ?_
      refine x_lload dX3_workedOut_175 rfl ?_
      refine x_ldiv dX3_workedOut_177 (by omega) ?_
      exact x_lreturn dX3_workedOut_178 rfl (by omega) (by omega) (by first | (subst t20_0; rw [wo_2] at hp; exact hp) | (subst t20_1; rw [wo_3] at hp; first | (rw [if_pos (by omega), (cq _ (by omega)).2.2] at hp; exact hp) | (rw [if_neg (by omega)] at hp; exact hp)) | (subst t20_2; rw [wo_4] at hp; exact hp) | (subst t20_3; rw [wo_5] at hp; exact hp) | (subst t20_4; rw [wo_6] at hp; exact hp) | (subst t20_5; rw [wo_7] at hp; exact hp) | (subst t20_6; rw [wo_8] at hp; first | (rw [if_pos (by omega)] at hp; exact hp) | (rw [if_neg (by omega)] at hp; exact hp)) | (subst t20_7; rw [wo_9] at hp; first | (rw [if_pos (by omega)] at hp; exact hp) | (rw [if_neg (by omega), show (if I 281 t.toNat < 0 then -I 281 t.toNat else I 281 t.toNat) = r191 by split <;> omega, show (if I 281 (t + 1).toNat < 0 then -I 281 (t + 1).toNat else I 281 (t + 1).toNat) = r196 by split <;> omega] at hp; exact hp)) | (subst t20_8; rw [wo_10] at hp; first | (rw [if_pos (by omega)] at hp; exact hp) | (rw [if_neg (by omega)] at hp; exact hp)) | (subst t20_9; rw [wo_11] at hp; first | (rw [if_pos (by omega)] at hp; exact hp) | (rw [if_neg (by omega)] at hp; exact hp)) | (subst t20_10; rw [wo_12] at hp; first | (rw [if_pos (by omega)] at hp; exact hp) | (rw [if_neg (by omega)] at hp; exact hp)) | (subst t20_11; rw [wo_13] at hp; first | (rw [if_pos (by omega)] at hp; exact hp) | (rw [if_neg (by omega)] at hp; exact hp)) | (subst t20_12; rw [wo_14] at hp; first | (rw [if_pos (by omega)] at hp; exact hp) | (rw [if_neg (by omega)] at hp; exact hp)) | (subst t20_13; rw [wo_15] at hp; first | (rw [if_pos (by omega)] at hp; exact hp) | (rw [if_neg (by omega)] at hp; exact hp)) | (subst t20_14; rw [wo_16] at hp; exact hp) | (subst t20_15; rw [wo_17, show (if I 281 (t + 1).toNat ≤ I 281 t.toNat then I 281 t.toNat else I 281 (t + 1).toNat) = r287 by split <;> omega] at hp; exact hp) | (obtain rfl : q = 18 := (by omega); rw [wo_18] at hp; first | (rw [if_pos (by omega)] at hp; exact hp) | (rw [if_neg (by omega)] at hp; exact hp)))
    · refine x_lconst0 dX3_workedOut_170 ?_
      refine x_goto 178 dX3_workedOut_171 (by decide) ?_
      exact x_lreturn dX3_workedOut_178 rfl (by omega) (by omega) (by first | (subst t20_0; rw [wo_2] at hp; exact hp) | (subst t20_1; rw [wo_3] at hp; first | (rw [if_pos (by omega), (cq _ (by omega)).2.2] at hp; exact hp) | (rw [if_neg (by omega)] at hp; exact hp)) | (subst t20_2; rw [wo_4] at hp; exact hp) | (subst t20_3; rw [wo_5] at hp; exact hp) | (subst t20_4; rw [wo_6] at hp; exact hp) | (subst t20_5; rw [wo_7] at hp; exact hp) | (subst t20_6; rw [wo_8] at hp; first | (rw [if_pos (by omega)] at hp; exact hp) | (rw [if_neg (by omega)] at hp; exact hp)) | (subst t20_7; rw [wo_9] at hp; first | (rw [if_pos (by omega)] at hp; exact hp) | (rw [if_neg (by omega), show (if I 281 t.toNat < 0 then -I 281 t.toNat else I 281 t.toNat) = r191 by split <;> omega, show (if I 281 (t + 1).toNat < 0 then -I 281 (t + 1).toNat else I 281 (t + 1).toNat) = r196 by split <;> omega] at hp; exact hp)) | (subst t20_8; rw [wo_10] at hp; first | (rw [if_pos (by omega)] at hp; exact hp) | (rw [if_neg (by omega)] at hp; exact hp)) | (subst t20_9; rw [wo_11] at hp; first | (rw [if_pos (by omega)] at hp; exact hp) | (rw [if_neg (by omega)] at hp; exact hp)) | (subst t20_10; rw [wo_12] at hp; first | (rw [if_pos (by omega)] at hp; exact hp) | (rw [if_neg (by omega)] at hp; exact hp)) | (subst t20_11; rw [wo_13] at hp; first | (rw [if_pos (by omega)] at hp; exact hp) | (rw [if_neg (by omega)] at hp; exact hp)) | (subst t20_12; rw [wo_14] at hp; first | (rw [if_pos (by omega)] at hp; exact hp) | (rw [if_neg (by omega)] at hp; exact hp)) | (subst t20_13; rw [wo_15] at hp; first | (rw [if_pos (by omega)] at hp; exact hp) | (rw [if_neg (by omega)] at hp; exact hp)) | (subst t20_14; rw [wo_16] at hp; exact hp) | (subst t20_15; rw [wo_17, show (if I 281 (t + 1).toNat ≤ I 281 t.toNat then I 281 t.toNat else I 281 (t + 1).toNat) = r287 by split <;> omega] at hp; exact hp) | (obtain rfl : q = 18 := (by omega); rw [wo_18] at hp; first | (rw [if_pos (by omega)] at hp; exact hp) | (rw [if_neg (by omega)] at hp; exact hp)))
  by_cases t20_7 : q = 9
  · refine x_tableIn 179 dX3_workedOut_20 (by omega) (by omega) (by rw [t20_7]; rfl) (by decide) ?_
    refine x_lload dX3_workedOut_179 rfl ?_
    refine x_lconst0 dX3_workedOut_181 ?_
    refine x_lcif_ne 190 dX3_workedOut_182 dX3_workedOut_183 (by decide) (by omega) (fun w182 => ?_) (fun w182 => ?_)
    · refine x_lload_n dX3_workedOut_190 rfl ?_
      refine x_mabs_long dX3_workedOut_191 cv_RX3_153 (by omega) (Nat.le_of_ble_eq_true rfl) (by omega) (by omega) (by omega) (fun r191 hr191 => ?_)
      refine x_lload dX3_workedOut_194 rfl ?_
      refine x_mabs_long dX3_workedOut_196 cv_RX3_153 (by omega) (Nat.le_of_ble_eq_true rfl) (by omega) (by omega) (by omega) (fun r196 hr196 => ?_)
      refine x_lrem dX3_workedOut_199 (by omega) ?_
      exact x_lreturn dX3_workedOut_200 rfl (by omega) (by omega) (by first | (subst t20_0; rw [wo_2] at hp; exact hp) | (subst t20_1; rw [wo_3] at hp; first | (rw [if_pos (by omega), (cq _ (by omega)).2.2] at hp; exact hp) | (rw [if_neg (by omega)] at hp; exact hp)) | (subst t20_2; rw [wo_4] at hp; exact hp) | (subst t20_3; rw [wo_5] at hp; exact hp) | (subst t20_4; rw [wo_6] at hp; exact hp) | (subst t20_5; rw [wo_7] at hp; exact hp) | (subst t20_6; rw [wo_8] at hp; first | (rw [if_pos (by omega)] at hp; exact hp) | (rw [if_neg (by omega)] at hp; exact hp)) | (subst t20_7; rw [wo_9] at hp; first | (rw [if_pos (by omega)] at hp; exact hp) | (rw [if_neg (by omega), show (if I 281 t.toNat < 0 then -I 281 t.toNat else I 281 t.toNat) = r191 by split <;> omega, show (if I 281 (t + 1).toNat < 0 then -I 281 (t + 1).toNat else I 281 (t + 1).toNat) = r196 by split <;> omega] at hp; exact hp)) | (subst t20_8; rw [wo_10] at hp; first | (rw [if_pos (by omega)] at hp; exact hp) | (rw [if_neg (by omega)] at hp; exact hp)) | (subst t20_9; rw [wo_11] at hp; first | (rw [if_pos (by omega)] at hp; exact hp) | (rw [if_neg (by omega)] at hp; exact hp)) | (subst t20_10; rw [wo_12] at hp; first | (rw [if_pos (by omega)] at hp; exact hp) | (rw [if_neg (by omega)] at hp; exact hp)) | (subst t20_11; rw [wo_13] at hp; first | (rw [if_pos (by omega)] at hp; exact hp) | (rw [if_neg (by omega)] at hp; exact hp)) | (subst t20_12; rw [wo_14] at hp; first | (rw [if_pos (by omega)] at hp; exact hp) | (rw [if_neg (by omega)] at hp; exact hp)) | (subst t20_13; rw [wo_15] at hp; first | (rw [if_pos (by omega)] at hp; exact hp) | (rw [if_neg (by omega)] at hp; exact hp)) | (subst t20_14; rw [wo_16] at hp; exact hp) | (subst t20_15; rw [wo_17, show (if I 281 (t + 1).toNat ≤ I 281 t.toNat then I 281 t.toNat else I 281 (t + 1).toNat) = r287 by split <;> omega] at hp; exact hp) | (obtain rfl : q = 18 := (by omega); rw [wo_18] at hp; first | (rw [if_pos (by omega)] at hp; exact hp) | (rw [if_neg (by omega)] at hp; exact hp)))
    · refine x_lconst0 dX3_workedOut_186 ?_
      refine x_goto 200 dX3_workedOut_187 (by decide) ?_
      exact x_lreturn dX3_workedOut_200 rfl (by omega) (by omega) (by first | (subst t20_0; rw [wo_2] at hp; exact hp) | (subst t20_1; rw [wo_3] at hp; first | (rw [if_pos (by omega), (cq _ (by omega)).2.2] at hp; exact hp) | (rw [if_neg (by omega)] at hp; exact hp)) | (subst t20_2; rw [wo_4] at hp; exact hp) | (subst t20_3; rw [wo_5] at hp; exact hp) | (subst t20_4; rw [wo_6] at hp; exact hp) | (subst t20_5; rw [wo_7] at hp; exact hp) | (subst t20_6; rw [wo_8] at hp; first | (rw [if_pos (by omega)] at hp; exact hp) | (rw [if_neg (by omega)] at hp; exact hp)) | (subst t20_7; rw [wo_9] at hp; first | (rw [if_pos (by omega)] at hp; exact hp) | (rw [if_neg (by omega), show (if I 281 t.toNat < 0 then -I 281 t.toNat else I 281 t.toNat) = r191 by split <;> omega, show (if I 281 (t + 1).toNat < 0 then -I 281 (t + 1).toNat else I 281 (t + 1).toNat) = r196 by split <;> omega] at hp; exact hp)) | (subst t20_8; rw [wo_10] at hp; first | (rw [if_pos (by omega)] at hp; exact hp) | (rw [if_neg (by omega)] at hp; exact hp)) | (subst t20_9; rw [wo_11] at hp; first | (rw [if_pos (by omega)] at hp; exact hp) | (rw [if_neg (by omega)] at hp; exact hp)) | (subst t20_10; rw [wo_12] at hp; first | (rw [if_pos (by omega)] at hp; exact hp) | (rw [if_neg (by omega)] at hp; exact hp)) | (subst t20_11; rw [wo_13] at hp; first | (rw [if_pos (by omega)] at hp; exact hp) | (rw [if_neg (by omega)] at hp; exact hp)) | (subst t20_12; rw [wo_14] at hp; first | (rw [if_pos (by omega)] at hp; exact hp) | (rw [if_neg (by omega)] at hp; exact hp)) | (subst t20_13; rw [wo_15] at hp; first | (rw [if_pos (by omega)] at hp; exact hp) | (rw [if_neg (by omega)] at hp; exact hp)) | (subst t20_14; rw [wo_16] at hp; exact hp) | (subst t20_15; rw [wo_17, show (if I 281 (t + 1).toNat ≤ I 281 t.toNat then I 281 t.toNat else I 281 (t + 1).toNat) = r287 by split <;> omega] at hp; exact hp) | (obtain rfl : q = 18 := (by omega); rw [wo_18] at hp; first | (rw [if_pos (by omega)] at hp; exact hp) | (rw [if_neg (by omega)] at hp; exact hp)))
  by_cases t20_8 : q = 10
  · refine x_tableIn 201 dX3_workedOut_20 (by omega) (by omega) (by rw [t20_8]; rfl) (by decide) ?_
    refine x_lload_n dX3_workedOut_201 rfl ?_
    refine x_lload dX3_workedOut_202 rfl ?_
    refine x_lcif_ge 212 dX3_workedOut_204 dX3_workedOut_205 (by decide) (by omega) (fun w204 => ?_) (fun w204 => ?_)
    · refine x_lconst0 dX3_workedOut_212 ?_
      exact x_lreturn dX3_workedOut_213 rfl (by omega) (by omega) (by first | (subst t20_0; rw [wo_2] at hp; exact hp) | (subst t20_1; rw [wo_3] at hp; first | (rw [if_pos (by omega), (cq _ (by omega)).2.2] at hp; exact hp) | (rw [if_neg (by omega)] at hp; exact hp)) | (subst t20_2; rw [wo_4] at hp; exact hp) | (subst t20_3; rw [wo_5] at hp; exact hp) | (subst t20_4; rw [wo_6] at hp; exact hp) | (subst t20_5; rw [wo_7] at hp; exact hp) | (subst t20_6; rw [wo_8] at hp; first | (rw [if_pos (by omega)] at hp; exact hp) | (rw [if_neg (by omega)] at hp; exact hp)) | (subst t20_7; rw [wo_9] at hp; first | (rw [if_pos (by omega)] at hp; exact hp) | (rw [if_neg (by omega), show (if I 281 t.toNat < 0 then -I 281 t.toNat else I 281 t.toNat) = r191 by split <;> omega, show (if I 281 (t + 1).toNat < 0 then -I 281 (t + 1).toNat else I 281 (t + 1).toNat) = r196 by split <;> omega] at hp; exact hp)) | (subst t20_8; rw [wo_10] at hp; first | (rw [if_pos (by omega)] at hp; exact hp) | (rw [if_neg (by omega)] at hp; exact hp)) | (subst t20_9; rw [wo_11] at hp; first | (rw [if_pos (by omega)] at hp; exact hp) | (rw [if_neg (by omega)] at hp; exact hp)) | (subst t20_10; rw [wo_12] at hp; first | (rw [if_pos (by omega)] at hp; exact hp) | (rw [if_neg (by omega)] at hp; exact hp)) | (subst t20_11; rw [wo_13] at hp; first | (rw [if_pos (by omega)] at hp; exact hp) | (rw [if_neg (by omega)] at hp; exact hp)) | (subst t20_12; rw [wo_14] at hp; first | (rw [if_pos (by omega)] at hp; exact hp) | (rw [if_neg (by omega)] at hp; exact hp)) | (subst t20_13; rw [wo_15] at hp; first | (rw [if_pos (by omega)] at hp; exact hp) | (rw [if_neg (by omega)] at hp; exact hp)) | (subst t20_14; rw [wo_16] at hp; exact hp) | (subst t20_15; rw [wo_17, show (if I 281 (t + 1).toNat ≤ I 281 t.toNat then I 281 t.toNat else I 281 (t + 1).toNat) = r287 by split <;> omega] at hp; exact hp) | (obtain rfl : q = 18 := (by omega); rw [wo_18] at hp; first | (rw [if_pos (by omega)] at hp; exact hp) | (rw [if_neg (by omega)] at hp; exact hp)))
    · refine x_lconst1 dX3_workedOut_208 ?_
      refine x_goto 213 dX3_workedOut_209 (by decide) ?_
      exact x_lreturn dX3_workedOut_213 rfl (by omega) (by omega) (by first | (subst t20_0; rw [wo_2] at hp; exact hp) | (subst t20_1; rw [wo_3] at hp; first | (rw [if_pos (by omega), (cq _ (by omega)).2.2] at hp; exact hp) | (rw [if_neg (by omega)] at hp; exact hp)) | (subst t20_2; rw [wo_4] at hp; exact hp) | (subst t20_3; rw [wo_5] at hp; exact hp) | (subst t20_4; rw [wo_6] at hp; exact hp) | (subst t20_5; rw [wo_7] at hp; exact hp) | (subst t20_6; rw [wo_8] at hp; first | (rw [if_pos (by omega)] at hp; exact hp) | (rw [if_neg (by omega)] at hp; exact hp)) | (subst t20_7; rw [wo_9] at hp; first | (rw [if_pos (by omega)] at hp; exact hp) | (rw [if_neg (by omega), show (if I 281 t.toNat < 0 then -I 281 t.toNat else I 281 t.toNat) = r191 by split <;> omega, show (if I 281 (t + 1).toNat < 0 then -I 281 (t + 1).toNat else I 281 (t + 1).toNat) = r196 by split <;> omega] at hp; exact hp)) | (subst t20_8; rw [wo_10] at hp; first | (rw [if_pos (by omega)] at hp; exact hp) | (rw [if_neg (by omega)] at hp; exact hp)) | (subst t20_9; rw [wo_11] at hp; first | (rw [if_pos (by omega)] at hp; exact hp) | (rw [if_neg (by omega)] at hp; exact hp)) | (subst t20_10; rw [wo_12] at hp; first | (rw [if_pos (by omega)] at hp; exact hp) | (rw [if_neg (by omega)] at hp; exact hp)) | (subst t20_11; rw [wo_13] at hp; first | (rw [if_pos (by omega)] at hp; exact hp) | (rw [if_neg (by omega)] at hp; exact hp)) | (subst t20_12; rw [wo_14] at hp; first | (rw [if_pos (by omega)] at hp; exact hp) | (rw [if_neg (by omega)] at hp; exact hp)) | (subst t20_13; rw [wo_15] at hp; first | (rw [if_pos (by omega)] at hp; exact hp) | (rw [if_neg (by omega)] at hp; exact hp)) | (subst t20_14; rw [wo_16] at hp; exact hp) | (subst t20_15; rw [wo_17, show (if I 281 (t + 1).toNat ≤ I 281 t.toNat then I 281 t.toNat else I 281 (t + 1).toNat) = r287 by split <;> omega] at hp; exact hp) | (obtain rfl : q = 18 := (by omega); rw [wo_18] at hp; first | (rw [if_pos (by omega)] at hp; exact hp) | (rw [if_neg (by omega)] at hp; exact hp)))
  by_cases t20_9 : q = 11
  · refine x_tableIn 214 dX3_workedOut_20 (by omega) (by omega) (by rw [t20_9]; rfl) (by decide) ?_
    refine x_lload_n dX3_workedOut_214 rfl ?_
    refine x_lload dX3_workedOut_215 rfl ?_
    refine x_lcif_gt 225 dX3_workedOut_217 dX3_workedOut_218 (by decide) (by omega) (fun w217 => ?_) (fun w217 => ?_)
    · refine x_lconst0 dX3_workedOut_225 ?_
      exact x_lreturn dX3_workedOut_226 rfl (by omega) (by omega) (by first | (subst t20_0; rw [wo_2] at hp; exact hp) | (subst t20_1; rw [wo_3] at hp; first | (rw [if_pos (by omega), (cq _ (by omega)).2.2] at hp; exact hp) | (rw [if_neg (by omega)] at hp; exact hp)) | (subst t20_2; rw [wo_4] at hp; exact hp) | (subst t20_3; rw [wo_5] at hp; exact hp) | (subst t20_4; rw [wo_6] at hp; exact hp) | (subst t20_5; rw [wo_7] at hp; exact hp) | (subst t20_6; rw [wo_8] at hp; first | (rw [if_pos (by omega)] at hp; exact hp) | (rw [if_neg (by omega)] at hp; exact hp)) | (subst t20_7; rw [wo_9] at hp; first | (rw [if_pos (by omega)] at hp; exact hp) | (rw [if_neg (by omega), show (if I 281 t.toNat < 0 then -I 281 t.toNat else I 281 t.toNat) = r191 by split <;> omega, show (if I 281 (t + 1).toNat < 0 then -I 281 (t + 1).toNat else I 281 (t + 1).toNat) = r196 by split <;> omega] at hp; exact hp)) | (subst t20_8; rw [wo_10] at hp; first | (rw [if_pos (by omega)] at hp; exact hp) | (rw [if_neg (by omega)] at hp; exact hp)) | (subst t20_9; rw [wo_11] at hp; first | (rw [if_pos (by omega)] at hp; exact hp) | (rw [if_neg (by omega)] at hp; exact hp)) | (subst t20_10; rw [wo_12] at hp; first | (rw [if_pos (by omega)] at hp; exact hp) | (rw [if_neg (by omega)] at hp; exact hp)) | (subst t20_11; rw [wo_13] at hp; first | (rw [if_pos (by omega)] at hp; exact hp) | (rw [if_neg (by omega)] at hp; exact hp)) | (subst t20_12; rw [wo_14] at hp; first | (rw [if_pos (by omega)] at hp; exact hp) | (rw [if_neg (by omega)] at hp; exact hp)) | (subst t20_13; rw [wo_15] at hp; first | (rw [if_pos (by omega)] at hp; exact hp) | (rw [if_neg (by omega)] at hp; exact hp)) | (subst t20_14; rw [wo_16] at hp; exact hp) | (subst t20_15; rw [wo_17, show (if I 281 (t + 1).toNat ≤ I 281 t.toNat then I 281 t.toNat else I 281 (t + 1).toNat) = r287 by split <;> omega] at hp; exact hp) | (obtain rfl : q = 18 := (by omega); rw [wo_18] at hp; first | (rw [if_pos (by omega)] at hp; exact hp) | (rw [if_neg (by omega)] at hp; exact hp)))
    · refine x_lconst1 dX3_workedOut_221 ?_
      refine x_goto 226 dX3_workedOut_222 (by decide) ?_
      exact x_lreturn dX3_workedOut_226 rfl (by omega) (by omega) (by first | (subst t20_0; rw [wo_2] at hp; exact hp) | (subst t20_1; rw [wo_3] at hp; first | (rw [if_pos (by omega), (cq _ (by omega)).2.2] at hp; exact hp) | (rw [if_neg (by omega)] at hp; exact hp)) | (subst t20_2; rw [wo_4] at hp; exact hp) | (subst t20_3; rw [wo_5] at hp; exact hp) | (subst t20_4; rw [wo_6] at hp; exact hp) | (subst t20_5; rw [wo_7] at hp; exact hp) | (subst t20_6; rw [wo_8] at hp; first | (rw [if_pos (by omega)] at hp; exact hp) | (rw [if_neg (by omega)] at hp; exact hp)) | (subst t20_7; rw [wo_9] at hp; first | (rw [if_pos (by omega)] at hp; exact hp) | (rw [if_neg (by omega), show (if I 281 t.toNat < 0 then -I 281 t.toNat else I 281 t.toNat) = r191 by split <;> omega, show (if I 281 (t + 1).toNat < 0 then -I 281 (t + 1).toNat else I 281 (t + 1).toNat) = r196 by split <;> omega] at hp; exact hp)) | (subst t20_8; rw [wo_10] at hp; first | (rw [if_pos (by omega)] at hp; exact hp) | (rw [if_neg (by omega)] at hp; exact hp)) | (subst t20_9; rw [wo_11] at hp; first | (rw [if_pos (by omega)] at hp; exact hp) | (rw [if_neg (by omega)] at hp; exact hp)) | (subst t20_10; rw [wo_12] at hp; first | (rw [if_pos (by omega)] at hp; exact hp) | (rw [if_neg (by omega)] at hp; exact hp)) | (subst t20_11; rw [wo_13] at hp; first | (rw [if_pos (by omega)] at hp; exact hp) | (rw [if_neg (by omega)] at hp; exact hp)) | (subst t20_12; rw [wo_14] at hp; first | (rw [if_pos (by omega)] at hp; exact hp) | (rw [if_neg (by omega)] at hp; exact hp)) | (subst t20_13; rw [wo_15] at hp; first | (rw [if_pos (by omega)] at hp; exact hp) | (rw [if_neg (by omega)] at hp; exact hp)) | (subst t20_14; rw [wo_16] at hp; exact hp) | (subst t20_15; rw [wo_17, show (if I 281 (t + 1).toNat ≤ I 281 t.toNat then I 281 t.toNat else I 281 (t + 1).toNat) = r287 by split <;> omega] at hp; exact hp) | (obtain rfl : q = 18 := (by omega); rw [wo_18] at hp; first | (rw [if_pos (by omega)] at hp; exact hp) | (rw [if_neg (by omega)] at hp; exact hp)))
  by_cases t20_10 : q = 12
  · refine x_tableIn 227 dX3_workedOut_20 (by omega) (by omega) (by rw [t20_10]; rfl) (by decide) ?_
    refine x_lload_n dX3_workedOut_227 rfl ?_
    refine x_lload dX3_workedOut_228 rfl ?_
    refine x_lcif_le 238 dX3_workedOut_230 dX3_workedOut_231 (by decide) (by omega) (fun w230 => ?_) (fun w230 => ?_)
    · refine x_lconst0 dX3_workedOut_238 ?_
      exact x_lreturn dX3_workedOut_239 rfl (by omega) (by omega) (by first | (subst t20_0; rw [wo_2] at hp; exact hp) | (subst t20_1; rw [wo_3] at hp; first | (rw [if_pos (by omega), (cq _ (by omega)).2.2] at hp; exact hp) | (rw [if_neg (by omega)] at hp; exact hp)) | (subst t20_2; rw [wo_4] at hp; exact hp) | (subst t20_3; rw [wo_5] at hp; exact hp) | (subst t20_4; rw [wo_6] at hp; exact hp) | (subst t20_5; rw [wo_7] at hp; exact hp) | (subst t20_6; rw [wo_8] at hp; first | (rw [if_pos (by omega)] at hp; exact hp) | (rw [if_neg (by omega)] at hp; exact hp)) | (subst t20_7; rw [wo_9] at hp; first | (rw [if_pos (by omega)] at hp; exact hp) | (rw [if_neg (by omega), show (if I 281 t.toNat < 0 then -I 281 t.toNat else I 281 t.toNat) = r191 by split <;> omega, show (if I 281 (t + 1).toNat < 0 then -I 281 (t + 1).toNat else I 281 (t + 1).toNat) = r196 by split <;> omega] at hp; exact hp)) | (subst t20_8; rw [wo_10] at hp; first | (rw [if_pos (by omega)] at hp; exact hp) | (rw [if_neg (by omega)] at hp; exact hp)) | (subst t20_9; rw [wo_11] at hp; first | (rw [if_pos (by omega)] at hp; exact hp) | (rw [if_neg (by omega)] at hp; exact hp)) | (subst t20_10; rw [wo_12] at hp; first | (rw [if_pos (by omega)] at hp; exact hp) | (rw [if_neg (by omega)] at hp; exact hp)) | (subst t20_11; rw [wo_13] at hp; first | (rw [if_pos (by omega)] at hp; exact hp) | (rw [if_neg (by omega)] at hp; exact hp)) | (subst t20_12; rw [wo_14] at hp; first | (rw [if_pos (by omega)] at hp; exact hp) | (rw [if_neg (by omega)] at hp; exact hp)) | (subst t20_13; rw [wo_15] at hp; first | (rw [if_pos (by omega)] at hp; exact hp) | (rw [if_neg (by omega)] at hp; exact hp)) | (subst t20_14; rw [wo_16] at hp; exact hp) | (subst t20_15; rw [wo_17, show (if I 281 (t + 1).toNat ≤ I 281 t.toNat then I 281 t.toNat else I 281 (t + 1).toNat) = r287 by split <;> omega] at hp; exact hp) | (obtain rfl : q = 18 := (by omega); rw [wo_18] at hp; first | (rw [if_pos (by omega)] at hp; exact hp) | (rw [if_neg (by omega)] at hp; exact hp)))
    · refine x_lconst1 dX3_workedOut_234 ?_
      refine x_goto 239 dX3_workedOut_235 (by decide) ?_
      exact x_lreturn dX3_workedOut_239 rfl (by omega) (by omega) (by first | (subst t20_0; rw [wo_2] at hp; exact hp) | (subst t20_1; rw [wo_3] at hp; first | (rw [if_pos (by omega), (cq _ (by omega)).2.2] at hp; exact hp) | (rw [if_neg (by omega)] at hp; exact hp)) | (subst t20_2; rw [wo_4] at hp; exact hp) | (subst t20_3; rw [wo_5] at hp; exact hp) | (subst t20_4; rw [wo_6] at hp; exact hp) | (subst t20_5; rw [wo_7] at hp; exact hp) | (subst t20_6; rw [wo_8] at hp; first | (rw [if_pos (by omega)] at hp; exact hp) | (rw [if_neg (by omega)] at hp; exact hp)) | (subst t20_7; rw [wo_9] at hp; first | (rw [if_pos (by omega)] at hp; exact hp) | (rw [if_neg (by omega), show (if I 281 t.toNat < 0 then -I 281 t.toNat else I 281 t.toNat) = r191 by split <;> omega, show (if I 281 (t + 1).toNat < 0 then -I 281 (t + 1).toNat else I 281 (t + 1).toNat) = r196 by split <;> omega] at hp; exact hp)) | (subst t20_8; rw [wo_10] at hp; first | (rw [if_pos (by omega)] at hp; exact hp) | (rw [if_neg (by omega)] at hp; exact hp)) | (subst t20_9; rw [wo_11] at hp; first | (rw [if_pos (by omega)] at hp; exact hp) | (rw [if_neg (by omega)] at hp; exact hp)) | (subst t20_10; rw [wo_12] at hp; first | (rw [if_pos (by omega)] at hp; exact hp) | (rw [if_neg (by omega)] at hp; exact hp)) | (subst t20_11; rw [wo_13] at hp; first | (rw [if_pos (by omega)] at hp; exact hp) | (rw [if_neg (by omega)] at hp; exact hp)) | (subst t20_12; rw [wo_14] at hp; first | (rw [if_pos (by omega)] at hp; exact hp) | (rw [if_neg (by omega)] at hp; exact hp)) | (subst t20_13; rw [wo_15] at hp; first | (rw [if_pos (by omega)] at hp; exact hp) | (rw [if_neg (by omega)] at hp; exact hp)) | (subst t20_14; rw [wo_16] at hp; exact hp) | (subst t20_15; rw [wo_17, show (if I 281 (t + 1).toNat ≤ I 281 t.toNat then I 281 t.toNat else I 281 (t + 1).toNat) = r287 by split <;> omega] at hp; exact hp) | (obtain rfl : q = 18 := (by omega); rw [wo_18] at hp; first | (rw [if_pos (by omega)] at hp; exact hp) | (rw [if_neg (by omega)] at hp; exact hp)))
  by_cases t20_11 : q = 13
  · refine x_tableIn 240 dX3_workedOut_20 (by omega) (by omega) (by rw [t20_11]; rfl) (by decide) ?_
    refine x_lload_n dX3_workedOut_240 rfl ?_
    refine x_lload dX3_workedOut_241 rfl ?_
    refine x_lcif_lt 251 dX3_workedOut_243 dX3_workedOut_244 (by decide) (by omega) (fun w243 => ?_) (fun w243 => ?_)
    · refine x_lconst0 dX3_workedOut_251 ?_
      exact x_lreturn dX3_workedOut_252 rfl (by omega) (by omega) (by first | (subst t20_0; rw [wo_2] at hp; exact hp) | (subst t20_1; rw [wo_3] at hp; first | (rw [if_pos (by omega), (cq _ (by omega)).2.2] at hp; exact hp) | (rw [if_neg (by omega)] at hp; exact hp)) | (subst t20_2; rw [wo_4] at hp; exact hp) | (subst t20_3; rw [wo_5] at hp; exact hp) | (subst t20_4; rw [wo_6] at hp; exact hp) | (subst t20_5; rw [wo_7] at hp; exact hp) | (subst t20_6; rw [wo_8] at hp; first | (rw [if_pos (by omega)] at hp; exact hp) | (rw [if_neg (by omega)] at hp; exact hp)) | (subst t20_7; rw [wo_9] at hp; first | (rw [if_pos (by omega)] at hp; exact hp) | (rw [if_neg (by omega), show (if I 281 t.toNat < 0 then -I 281 t.toNat else I 281 t.toNat) = r191 by split <;> omega, show (if I 281 (t + 1).toNat < 0 then -I 281 (t + 1).toNat else I 281 (t + 1).toNat) = r196 by split <;> omega] at hp; exact hp)) | (subst t20_8; rw [wo_10] at hp; first | (rw [if_pos (by omega)] at hp; exact hp) | (rw [if_neg (by omega)] at hp; exact hp)) | (subst t20_9; rw [wo_11] at hp; first | (rw [if_pos (by omega)] at hp; exact hp) | (rw [if_neg (by omega)] at hp; exact hp)) | (subst t20_10; rw [wo_12] at hp; first | (rw [if_pos (by omega)] at hp; exact hp) | (rw [if_neg (by omega)] at hp; exact hp)) | (subst t20_11; rw [wo_13] at hp; first | (rw [if_pos (by omega)] at hp; exact hp) | (rw [if_neg (by omega)] at hp; exact hp)) | (subst t20_12; rw [wo_14] at hp; first | (rw [if_pos (by omega)] at hp; exact hp) | (rw [if_neg (by omega)] at hp; exact hp)) | (subst t20_13; rw [wo_15] at hp; first | (rw [if_pos (by omega)] at hp; exact hp) | (rw [if_neg (by omega)] at hp; exact hp)) | (subst t20_14; rw [wo_16] at hp; exact hp) | (subst t20_15; rw [wo_17, show (if I 281 (t + 1).toNat ≤ I 281 t.toNat then I 281 t.toNat else I 281 (t + 1).toNat) = r287 by split <;> omega] at hp; exact hp) | (obtain rfl : q = 18 := (by omega); rw [wo_18] at hp; first | (rw [if_pos (by omega)] at hp; exact hp) | (rw [if_neg (by omega)] at hp; exact hp)))
    · refine x_lconst1 dX3_workedOut_247 ?_
      refine x_goto 252 dX3_workedOut_248 (by decide) ?_
      exact x_lreturn dX3_workedOut_252 rfl (by omega) (by omega) (by first | (subst t20_0; rw [wo_2] at hp; exact hp) | (subst t20_1; rw [wo_3] at hp; first | (rw [if_pos (by omega), (cq _ (by omega)).2.2] at hp; exact hp) | (rw [if_neg (by omega)] at hp; exact hp)) | (subst t20_2; rw [wo_4] at hp; exact hp) | (subst t20_3; rw [wo_5] at hp; exact hp) | (subst t20_4; rw [wo_6] at hp; exact hp) | (subst t20_5; rw [wo_7] at hp; exact hp) | (subst t20_6; rw [wo_8] at hp; first | (rw [if_pos (by omega)] at hp; exact hp) | (rw [if_neg (by omega)] at hp; exact hp)) | (subst t20_7; rw [wo_9] at hp; first | (rw [if_pos (by omega)] at hp; exact hp) | (rw [if_neg (by omega), show (if I 281 t.toNat < 0 then -I 281 t.toNat else I 281 t.toNat) = r191 by split <;> omega, show (if I 281 (t + 1).toNat < 0 then -I 281 (t + 1).toNat else I 281 (t + 1).toNat) = r196 by split <;> omega] at hp; exact hp)) | (subst t20_8; rw [wo_10] at hp; first | (rw [if_pos (by omega)] at hp; exact hp) | (rw [if_neg (by omega)] at hp; exact hp)) | (subst t20_9; rw [wo_11] at hp; first | (rw [if_pos (by omega)] at hp; exact hp) | (rw [if_neg (by omega)] at hp; exact hp)) | (subst t20_10; rw [wo_12] at hp; first | (rw [if_pos (by omega)] at hp; exact hp) | (rw [if_neg (by omega)] at hp; exact hp)) | (subst t20_11; rw [wo_13] at hp; first | (rw [if_pos (by omega)] at hp; exact hp) | (rw [if_neg (by omega)] at hp; exact hp)) | (subst t20_12; rw [wo_14] at hp; first | (rw [if_pos (by omega)] at hp; exact hp) | (rw [if_neg (by omega)] at hp; exact hp)) | (subst t20_13; rw [wo_15] at hp; first | (rw [if_pos (by omega)] at hp; exact hp) | (rw [if_neg (by omega)] at hp; exact hp)) | (subst t20_14; rw [wo_16] at hp; exact hp) | (subst t20_15; rw [wo_17, show (if I 281 (t + 1).toNat ≤ I 281 t.toNat then I 281 t.toNat else I 281 (t + 1).toNat) = r287 by split <;> omega] at hp; exact hp) | (obtain rfl : q = 18 := (by omega); rw [wo_18] at hp; first | (rw [if_pos (by omega)] at hp; exact hp) | (rw [if_neg (by omega)] at hp; exact hp)))
  by_cases t20_12 : q = 14
  · refine x_tableIn 253 dX3_workedOut_20 (by omega) (by omega) (by rw [t20_12]; rfl) (by decide) ?_
    refine x_lload_n dX3_workedOut_253 rfl ?_
    refine x_lload dX3_workedOut_254 rfl ?_
    refine x_lcif_ne 264 dX3_workedOut_256 dX3_workedOut_257 (by decide) (by omega) (fun w256 => ?_) (fun w256 => ?_)
    · refine x_lconst0 dX3_workedOut_264 ?_
      exact x_lreturn dX3_workedOut_265 rfl (by omega) (by omega) (by first | (subst t20_0; rw [wo_2] at hp; exact hp) | (subst t20_1; rw [wo_3] at hp; first | (rw [if_pos (by omega), (cq _ (by omega)).2.2] at hp; exact hp) | (rw [if_neg (by omega)] at hp; exact hp)) | (subst t20_2; rw [wo_4] at hp; exact hp) | (subst t20_3; rw [wo_5] at hp; exact hp) | (subst t20_4; rw [wo_6] at hp; exact hp) | (subst t20_5; rw [wo_7] at hp; exact hp) | (subst t20_6; rw [wo_8] at hp; first | (rw [if_pos (by omega)] at hp; exact hp) | (rw [if_neg (by omega)] at hp; exact hp)) | (subst t20_7; rw [wo_9] at hp; first | (rw [if_pos (by omega)] at hp; exact hp) | (rw [if_neg (by omega), show (if I 281 t.toNat < 0 then -I 281 t.toNat else I 281 t.toNat) = r191 by split <;> omega, show (if I 281 (t + 1).toNat < 0 then -I 281 (t + 1).toNat else I 281 (t + 1).toNat) = r196 by split <;> omega] at hp; exact hp)) | (subst t20_8; rw [wo_10] at hp; first | (rw [if_pos (by omega)] at hp; exact hp) | (rw [if_neg (by omega)] at hp; exact hp)) | (subst t20_9; rw [wo_11] at hp; first | (rw [if_pos (by omega)] at hp; exact hp) | (rw [if_neg (by omega)] at hp; exact hp)) | (subst t20_10; rw [wo_12] at hp; first | (rw [if_pos (by omega)] at hp; exact hp) | (rw [if_neg (by omega)] at hp; exact hp)) | (subst t20_11; rw [wo_13] at hp; first | (rw [if_pos (by omega)] at hp; exact hp) | (rw [if_neg (by omega)] at hp; exact hp)) | (subst t20_12; rw [wo_14] at hp; first | (rw [if_pos (by omega)] at hp; exact hp) | (rw [if_neg (by omega)] at hp; exact hp)) | (subst t20_13; rw [wo_15] at hp; first | (rw [if_pos (by omega)] at hp; exact hp) | (rw [if_neg (by omega)] at hp; exact hp)) | (subst t20_14; rw [wo_16] at hp; exact hp) | (subst t20_15; rw [wo_17, show (if I 281 (t + 1).toNat ≤ I 281 t.toNat then I 281 t.toNat else I 281 (t + 1).toNat) = r287 by split <;> omega] at hp; exact hp) | (obtain rfl : q = 18 := (by omega); rw [wo_18] at hp; first | (rw [if_pos (by omega)] at hp; exact hp) | (rw [if_neg (by omega)] at hp; exact hp)))
    · refine x_lconst1 dX3_workedOut_260 ?_
      refine x_goto 265 dX3_workedOut_261 (by decide) ?_
      exact x_lreturn dX3_workedOut_265 rfl (by omega) (by omega) (by first | (subst t20_0; rw [wo_2] at hp; exact hp) | (subst t20_1; rw [wo_3] at hp; first | (rw [if_pos (by omega), (cq _ (by omega)).2.2] at hp; exact hp) | (rw [if_neg (by omega)] at hp; exact hp)) | (subst t20_2; rw [wo_4] at hp; exact hp) | (subst t20_3; rw [wo_5] at hp; exact hp) | (subst t20_4; rw [wo_6] at hp; exact hp) | (subst t20_5; rw [wo_7] at hp; exact hp) | (subst t20_6; rw [wo_8] at hp; first | (rw [if_pos (by omega)] at hp; exact hp) | (rw [if_neg (by omega)] at hp; exact hp)) | (subst t20_7; rw [wo_9] at hp; first | (rw [if_pos (by omega)] at hp; exact hp) | (rw [if_neg (by omega), show (if I 281 t.toNat < 0 then -I 281 t.toNat else I 281 t.toNat) = r191 by split <;> omega, show (if I 281 (t + 1).toNat < 0 then -I 281 (t + 1).toNat else I 281 (t + 1).toNat) = r196 by split <;> omega] at hp; exact hp)) | (subst t20_8; rw [wo_10] at hp; first | (rw [if_pos (by omega)] at hp; exact hp) | (rw [if_neg (by omega)] at hp; exact hp)) | (subst t20_9; rw [wo_11] at hp; first | (rw [if_pos (by omega)] at hp; exact hp) | (rw [if_neg (by omega)] at hp; exact hp)) | (subst t20_10; rw [wo_12] at hp; first | (rw [if_pos (by omega)] at hp; exact hp) | (rw [if_neg (by omega)] at hp; exact hp)) | (subst t20_11; rw [wo_13] at hp; first | (rw [if_pos (by omega)] at hp; exact hp) | (rw [if_neg (by omega)] at hp; exact hp)) | (subst t20_12; rw [wo_14] at hp; first | (rw [if_pos (by omega)] at hp; exact hp) | (rw [if_neg (by omega)] at hp; exact hp)) | (subst t20_13; rw [wo_15] at hp; first | (rw [if_pos (by omega)] at hp; exact hp) | (rw [if_neg (by omega)] at hp; exact hp)) | (subst t20_14; rw [wo_16] at hp; exact hp) | (subst t20_15; rw [wo_17, show (if I 281 (t + 1).toNat ≤ I 281 t.toNat then I 281 t.toNat else I 281 (t + 1).toNat) = r287 by split <;> omega] at hp; exact hp) | (obtain rfl : q = 18 := (by omega); rw [wo_18] at hp; first | (rw [if_pos (by omega)] at hp; exact hp) | (rw [if_neg (by omega)] at hp; exact hp)))
  by_cases t20_13 : q = 15
  · refine x_tableIn 266 dX3_workedOut_20 (by omega) (by omega) (by rw [t20_13]; rfl) (by decide) ?_
    refine x_lload_n dX3_workedOut_266 rfl ?_
    refine x_lload dX3_workedOut_267 rfl ?_
    refine x_lcif_eq 277 dX3_workedOut_269 dX3_workedOut_270 (by decide) (by omega) (fun w269 => ?_) (fun w269 => ?_)
    · refine x_lconst0 dX3_workedOut_277 ?_
      exact x_lreturn dX3_workedOut_278 rfl (by omega) (by omega) (by first | (subst t20_0; rw [wo_2] at hp; exact hp) | (subst t20_1; rw [wo_3] at hp; first | (rw [if_pos (by omega), (cq _ (by omega)).2.2] at hp; exact hp) | (rw [if_neg (by omega)] at hp; exact hp)) | (subst t20_2; rw [wo_4] at hp; exact hp) | (subst t20_3; rw [wo_5] at hp; exact hp) | (subst t20_4; rw [wo_6] at hp; exact hp) | (subst t20_5; rw [wo_7] at hp; exact hp) | (subst t20_6; rw [wo_8] at hp; first | (rw [if_pos (by omega)] at hp; exact hp) | (rw [if_neg (by omega)] at hp; exact hp)) | (subst t20_7; rw [wo_9] at hp; first | (rw [if_pos (by omega)] at hp; exact hp) | (rw [if_neg (by omega), show (if I 281 t.toNat < 0 then -I 281 t.toNat else I 281 t.toNat) = r191 by split <;> omega, show (if I 281 (t + 1).toNat < 0 then -I 281 (t + 1).toNat else I 281 (t + 1).toNat) = r196 by split <;> omega] at hp; exact hp)) | (subst t20_8; rw [wo_10] at hp; first | (rw [if_pos (by omega)] at hp; exact hp) | (rw [if_neg (by omega)] at hp; exact hp)) | (subst t20_9; rw [wo_11] at hp; first | (rw [if_pos (by omega)] at hp; exact hp) | (rw [if_neg (by omega)] at hp; exact hp)) | (subst t20_10; rw [wo_12] at hp; first | (rw [if_pos (by omega)] at hp; exact hp) | (rw [if_neg (by omega)] at hp; exact hp)) | (subst t20_11; rw [wo_13] at hp; first | (rw [if_pos (by omega)] at hp; exact hp) | (rw [if_neg (by omega)] at hp; exact hp)) | (subst t20_12; rw [wo_14] at hp; first | (rw [if_pos (by omega)] at hp; exact hp) | (rw [if_neg (by omega)] at hp; exact hp)) | (subst t20_13; rw [wo_15] at hp; first | (rw [if_pos (by omega)] at hp; exact hp) | (rw [if_neg (by omega)] at hp; exact hp)) | (subst t20_14; rw [wo_16] at hp; exact hp) | (subst t20_15; rw [wo_17, show (if I 281 (t + 1).toNat ≤ I 281 t.toNat then I 281 t.toNat else I 281 (t + 1).toNat) = r287 by split <;> omega] at hp; exact hp) | (obtain rfl : q = 18 := (by omega); rw [wo_18] at hp; first | (rw [if_pos (by omega)] at hp; exact hp) | (rw [if_neg (by omega)] at hp; exact hp)))
    · refine x_lconst1 dX3_workedOut_273 ?_
      refine x_goto 278 dX3_workedOut_274 (by decide) ?_
      exact x_lreturn dX3_workedOut_278 rfl (by omega) (by omega) (by first | (subst t20_0; rw [wo_2] at hp; exact hp) | (subst t20_1; rw [wo_3] at hp; first | (rw [if_pos (by omega), (cq _ (by omega)).2.2] at hp; exact hp) | (rw [if_neg (by omega)] at hp; exact hp)) | (subst t20_2; rw [wo_4] at hp; exact hp) | (subst t20_3; rw [wo_5] at hp; exact hp) | (subst t20_4; rw [wo_6] at hp; exact hp) | (subst t20_5; rw [wo_7] at hp; exact hp) | (subst t20_6; rw [wo_8] at hp; first | (rw [if_pos (by omega)] at hp; exact hp) | (rw [if_neg (by omega)] at hp; exact hp)) | (subst t20_7; rw [wo_9] at hp; first | (rw [if_pos (by omega)] at hp; exact hp) | (rw [if_neg (by omega), show (if I 281 t.toNat < 0 then -I 281 t.toNat else I 281 t.toNat) = r191 by split <;> omega, show (if I 281 (t + 1).toNat < 0 then -I 281 (t + 1).toNat else I 281 (t + 1).toNat) = r196 by split <;> omega] at hp; exact hp)) | (subst t20_8; rw [wo_10] at hp; first | (rw [if_pos (by omega)] at hp; exact hp) | (rw [if_neg (by omega)] at hp; exact hp)) | (subst t20_9; rw [wo_11] at hp; first | (rw [if_pos (by omega)] at hp; exact hp) | (rw [if_neg (by omega)] at hp; exact hp)) | (subst t20_10; rw [wo_12] at hp; first | (rw [if_pos (by omega)] at hp; exact hp) | (rw [if_neg (by omega)] at hp; exact hp)) | (subst t20_11; rw [wo_13] at hp; first | (rw [if_pos (by omega)] at hp; exact hp) | (rw [if_neg (by omega)] at hp; exact hp)) | (subst t20_12; rw [wo_14] at hp; first | (rw [if_pos (by omega)] at hp; exact hp) | (rw [if_neg (by omega)] at hp; exact hp)) | (subst t20_13; rw [wo_15] at hp; first | (rw [if_pos (by omega)] at hp; exact hp) | (rw [if_neg (by omega)] at hp; exact hp)) | (subst t20_14; rw [wo_16] at hp; exact hp) | (subst t20_15; rw [wo_17, show (if I 281 (t + 1).toNat ≤ I 281 t.toNat then I 281 t.toNat else I 281 (t + 1).toNat) = r287 by split <;> omega] at hp; exact hp) | (obtain rfl : q = 18 := (by omega); rw [wo_18] at hp; first | (rw [if_pos (by omega)] at hp; exact hp) | (rw [if_neg (by omega)] at hp; exact hp)))
  by_cases t20_14 : q = 16
  · refine x_tableIn 279 dX3_workedOut_20 (by omega) (by omega) (by rw [t20_14]; rfl) (by decide) ?_
    refine x_lload_n dX3_workedOut_279 rfl ?_
    refine x_lload dX3_workedOut_280 rfl ?_
    refine x_lmul dX3_workedOut_282 ?_
    exact x_lreturn dX3_workedOut_283 rfl (by omega) (by omega) (by first | (subst t20_0; rw [wo_2] at hp; exact hp) | (subst t20_1; rw [wo_3] at hp; first | (rw [if_pos (by omega), (cq _ (by omega)).2.2] at hp; exact hp) | (rw [if_neg (by omega)] at hp; exact hp)) | (subst t20_2; rw [wo_4] at hp; exact hp) | (subst t20_3; rw [wo_5] at hp; exact hp) | (subst t20_4; rw [wo_6] at hp; exact hp) | (subst t20_5; rw [wo_7] at hp; exact hp) | (subst t20_6; rw [wo_8] at hp; first | (rw [if_pos (by omega)] at hp; exact hp) | (rw [if_neg (by omega)] at hp; exact hp)) | (subst t20_7; rw [wo_9] at hp; first | (rw [if_pos (by omega)] at hp; exact hp) | (rw [if_neg (by omega), show (if I 281 t.toNat < 0 then -I 281 t.toNat else I 281 t.toNat) = r191 by split <;> omega, show (if I 281 (t + 1).toNat < 0 then -I 281 (t + 1).toNat else I 281 (t + 1).toNat) = r196 by split <;> omega] at hp; exact hp)) | (subst t20_8; rw [wo_10] at hp; first | (rw [if_pos (by omega)] at hp; exact hp) | (rw [if_neg (by omega)] at hp; exact hp)) | (subst t20_9; rw [wo_11] at hp; first | (rw [if_pos (by omega)] at hp; exact hp) | (rw [if_neg (by omega)] at hp; exact hp)) | (subst t20_10; rw [wo_12] at hp; first | (rw [if_pos (by omega)] at hp; exact hp) | (rw [if_neg (by omega)] at hp; exact hp)) | (subst t20_11; rw [wo_13] at hp; first | (rw [if_pos (by omega)] at hp; exact hp) | (rw [if_neg (by omega)] at hp; exact hp)) | (subst t20_12; rw [wo_14] at hp; first | (rw [if_pos (by omega)] at hp; exact hp) | (rw [if_neg (by omega)] at hp; exact hp)) | (subst t20_13; rw [wo_15] at hp; first | (rw [if_pos (by omega)] at hp; exact hp) | (rw [if_neg (by omega)] at hp; exact hp)) | (subst t20_14; rw [wo_16] at hp; exact hp) | (subst t20_15; rw [wo_17, show (if I 281 (t + 1).toNat ≤ I 281 t.toNat then I 281 t.toNat else I 281 (t + 1).toNat) = r287 by split <;> omega] at hp; exact hp) | (obtain rfl : q = 18 := (by omega); rw [wo_18] at hp; first | (rw [if_pos (by omega)] at hp; exact hp) | (rw [if_neg (by omega)] at hp; exact hp)))
  by_cases t20_15 : q = 17
  · refine x_tableIn 284 dX3_workedOut_20 (by omega) (by omega) (by rw [t20_15]; rfl) (by decide) ?_
    refine x_lload_n dX3_workedOut_284 rfl ?_
    refine x_lload dX3_workedOut_285 rfl ?_
    refine x_mmax_long dX3_workedOut_287 cv_RX3_151 (by omega) (Nat.le_of_ble_eq_true rfl) (by omega) (by omega) (by omega) (fun r287 hr287 => ?_)
    exact x_lreturn dX3_workedOut_290 rfl (by omega) (by omega) (by first | (subst t20_0; rw [wo_2] at hp; exact hp) | (subst t20_1; rw [wo_3] at hp; first | (rw [if_pos (by omega), (cq _ (by omega)).2.2] at hp; exact hp) | (rw [if_neg (by omega)] at hp; exact hp)) | (subst t20_2; rw [wo_4] at hp; exact hp) | (subst t20_3; rw [wo_5] at hp; exact hp) | (subst t20_4; rw [wo_6] at hp; exact hp) | (subst t20_5; rw [wo_7] at hp; exact hp) | (subst t20_6; rw [wo_8] at hp; first | (rw [if_pos (by omega)] at hp; exact hp) | (rw [if_neg (by omega)] at hp; exact hp)) | (subst t20_7; rw [wo_9] at hp; first | (rw [if_pos (by omega)] at hp; exact hp) | (rw [if_neg (by omega), show (if I 281 t.toNat < 0 then -I 281 t.toNat else I 281 t.toNat) = r191 by split <;> omega, show (if I 281 (t + 1).toNat < 0 then -I 281 (t + 1).toNat else I 281 (t + 1).toNat) = r196 by split <;> omega] at hp; exact hp)) | (subst t20_8; rw [wo_10] at hp; first | (rw [if_pos (by omega)] at hp; exact hp) | (rw [if_neg (by omega)] at hp; exact hp)) | (subst t20_9; rw [wo_11] at hp; first | (rw [if_pos (by omega)] at hp; exact hp) | (rw [if_neg (by omega)] at hp; exact hp)) | (subst t20_10; rw [wo_12] at hp; first | (rw [if_pos (by omega)] at hp; exact hp) | (rw [if_neg (by omega)] at hp; exact hp)) | (subst t20_11; rw [wo_13] at hp; first | (rw [if_pos (by omega)] at hp; exact hp) | (rw [if_neg (by omega)] at hp; exact hp)) | (subst t20_12; rw [wo_14] at hp; first | (rw [if_pos (by omega)] at hp; exact hp) | (rw [if_neg (by omega)] at hp; exact hp)) | (subst t20_13; rw [wo_15] at hp; first | (rw [if_pos (by omega)] at hp; exact hp) | (rw [if_neg (by omega)] at hp; exact hp)) | (subst t20_14; rw [wo_16] at hp; exact hp) | (subst t20_15; rw [wo_17, show (if I 281 (t + 1).toNat ≤ I 281 t.toNat then I 281 t.toNat else I 281 (t + 1).toNat) = r287 by split <;> omega] at hp; exact hp) | (obtain rfl : q = 18 := (by omega); rw [wo_18] at hp; first | (rw [if_pos (by omega)] at hp; exact hp) | (rw [if_neg (by omega)] at hp; exact hp)))
  refine x_tableOut 291 dX3_workedOut_20 (by omega) (by omega) (by decide) ?_
  refine x_lload_n dX3_workedOut_291 rfl ?_
  refine x_lconst0 dX3_workedOut_292 ?_
  refine x_lcif_eq 302 dX3_workedOut_293 dX3_workedOut_294 (by decide) (by omega) (fun w293 => ?_) (fun w293 => ?_)
  · refine x_aload_n dX3_workedOut_302 rfl ?_
    refine x_getR (b := 281) dX3_workedOut_303 gf_RX3_15 (k_ob_279 cs) (fun _ _ => rfl) (k_r_279_2 cs) ?_
    refine x_iload_n dX3_workedOut_306 rfl ?_
    refine x_iconst dX3_workedOut_307 ?_
    refine x_iadd dX3_workedOut_308 ?_
    refine x_iaload dX3_workedOut_309 (k_ar_281 cs) (by omega) (by omega) ?_
    refine x_i2l dX3_workedOut_310 (by omega) ?_
    exact x_lreturn dX3_workedOut_311 rfl (by omega) (by omega) (by first | (subst t20_0; rw [wo_2] at hp; exact hp) | (subst t20_1; rw [wo_3] at hp; first | (rw [if_pos (by omega), (cq _ (by omega)).2.2] at hp; exact hp) | (rw [if_neg (by omega)] at hp; exact hp)) | (subst t20_2; rw [wo_4] at hp; exact hp) | (subst t20_3; rw [wo_5] at hp; exact hp) | (subst t20_4; rw [wo_6] at hp; exact hp) | (subst t20_5; rw [wo_7] at hp; exact hp) | (subst t20_6; rw [wo_8] at hp; first | (rw [if_pos (by omega)] at hp; exact hp) | (rw [if_neg (by omega)] at hp; exact hp)) | (subst t20_7; rw [wo_9] at hp; first | (rw [if_pos (by omega)] at hp; exact hp) | (rw [if_neg (by omega), show (if I 281 t.toNat < 0 then -I 281 t.toNat else I 281 t.toNat) = r191 by split <;> omega, show (if I 281 (t + 1).toNat < 0 then -I 281 (t + 1).toNat else I 281 (t + 1).toNat) = r196 by split <;> omega] at hp; exact hp)) | (subst t20_8; rw [wo_10] at hp; first | (rw [if_pos (by omega)] at hp; exact hp) | (rw [if_neg (by omega)] at hp; exact hp)) | (subst t20_9; rw [wo_11] at hp; first | (rw [if_pos (by omega)] at hp; exact hp) | (rw [if_neg (by omega)] at hp; exact hp)) | (subst t20_10; rw [wo_12] at hp; first | (rw [if_pos (by omega)] at hp; exact hp) | (rw [if_neg (by omega)] at hp; exact hp)) | (subst t20_11; rw [wo_13] at hp; first | (rw [if_pos (by omega)] at hp; exact hp) | (rw [if_neg (by omega)] at hp; exact hp)) | (subst t20_12; rw [wo_14] at hp; first | (rw [if_pos (by omega)] at hp; exact hp) | (rw [if_neg (by omega)] at hp; exact hp)) | (subst t20_13; rw [wo_15] at hp; first | (rw [if_pos (by omega)] at hp; exact hp) | (rw [if_neg (by omega)] at hp; exact hp)) | (subst t20_14; rw [wo_16] at hp; exact hp) | (subst t20_15; rw [wo_17, show (if I 281 (t + 1).toNat ≤ I 281 t.toNat then I 281 t.toNat else I 281 (t + 1).toNat) = r287 by split <;> omega] at hp; exact hp) | (obtain rfl : q = 18 := (by omega); rw [wo_18] at hp; first | (rw [if_pos (by omega)] at hp; exact hp) | (rw [if_neg (by omega)] at hp; exact hp)))
  · refine x_lload dX3_workedOut_297 rfl ?_
    refine x_goto 311 dX3_workedOut_299 (by decide) ?_
    exact x_lreturn dX3_workedOut_311 rfl (by omega) (by omega) (by first | (subst t20_0; rw [wo_2] at hp; exact hp) | (subst t20_1; rw [wo_3] at hp; first | (rw [if_pos (by omega), (cq _ (by omega)).2.2] at hp; exact hp) | (rw [if_neg (by omega)] at hp; exact hp)) | (subst t20_2; rw [wo_4] at hp; exact hp) | (subst t20_3; rw [wo_5] at hp; exact hp) | (subst t20_4; rw [wo_6] at hp; exact hp) | (subst t20_5; rw [wo_7] at hp; exact hp) | (subst t20_6; rw [wo_8] at hp; first | (rw [if_pos (by omega)] at hp; exact hp) | (rw [if_neg (by omega)] at hp; exact hp)) | (subst t20_7; rw [wo_9] at hp; first | (rw [if_pos (by omega)] at hp; exact hp) | (rw [if_neg (by omega), show (if I 281 t.toNat < 0 then -I 281 t.toNat else I 281 t.toNat) = r191 by split <;> omega, show (if I 281 (t + 1).toNat < 0 then -I 281 (t + 1).toNat else I 281 (t + 1).toNat) = r196 by split <;> omega] at hp; exact hp)) | (subst t20_8; rw [wo_10] at hp; first | (rw [if_pos (by omega)] at hp; exact hp) | (rw [if_neg (by omega)] at hp; exact hp)) | (subst t20_9; rw [wo_11] at hp; first | (rw [if_pos (by omega)] at hp; exact hp) | (rw [if_neg (by omega)] at hp; exact hp)) | (subst t20_10; rw [wo_12] at hp; first | (rw [if_pos (by omega)] at hp; exact hp) | (rw [if_neg (by omega)] at hp; exact hp)) | (subst t20_11; rw [wo_13] at hp; first | (rw [if_pos (by omega)] at hp; exact hp) | (rw [if_neg (by omega)] at hp; exact hp)) | (subst t20_12; rw [wo_14] at hp; first | (rw [if_pos (by omega)] at hp; exact hp) | (rw [if_neg (by omega)] at hp; exact hp)) | (subst t20_13; rw [wo_15] at hp; first | (rw [if_pos (by omega)] at hp; exact hp) | (rw [if_neg (by omega)] at hp; exact hp)) | (subst t20_14; rw [wo_16] at hp; exact hp) | (subst t20_15; rw [wo_17, show (if I 281 (t + 1).toNat ≤ I 281 t.toNat then I 281 t.toNat else I 281 (t + 1).toNat) = r287 by split <;> omega] at hp; exact hp) | (obtain rfl : q = 18 := (by omega); rw [wo_18] at hp; first | (rw [if_pos (by omega)] at hp; exact hp) | (rw [if_neg (by omega)] at hp; exact hp)))
/-- the value of code from f on: k steps; the pile and how many lie on it -/
def rnF (nm A cd : Nat → Int) (f : Nat) (s0 : Nat → Int) : Nat → (Nat → Int) × Int
  | 0 => (s0, 0)
  | k + 1 =>
    let p := rnF nm A cd f s0 k
    let op := cd (f + k) / 16384
    let t := p.2 - tkn op
    (fun j => if j = t.toNat then clipI (if tkn op = 0 then ftF nm op (cd (f + k) % 16384) else woF A op (p.1 t.toNat) (p.1 (t + 1).toNat) (p.1 (t + 2).toNat)) else p.1 j, t + 1)
/-- the pile has always what is taken -/
def okC (cd : Nat → Int) (f : Nat) : Nat → Int → Prop
  | 0, _ => True
  | k + 1, t => (0 ≤ cd f ∧ cd f < 311296) ∧ tkn (cd f / 16384) ≤ t ∧ t < 300 ∧ okC cd (f + 1) k (t - tkn (cd f / 16384) + 1)
theorem okC_at {nm A cd : Nat → Int} {s0 : Nat → Int} {f K : Nat} (h : okC cd f K 0) : ∀ k, k ≤ K → okC cd (f + k) (K - k) (rnF nm A cd f s0 k).2 := by
  intro k
  induction k with
  | zero => intro _; exact h
  | succ k ih =>
    intro hk
    have h1 := ih (by omega)
    rw [show K - k = (K - (k + 1)) + 1 by omega] at h1
    have h2 := h1.2.2.2
    exact h2
theorem rnF_b {nm A cd : Nat → Int} {s0 : Nat → Int} {f : Nat} (hs : ∀ k, k < 303 → -1000000 ≤ s0 k ∧ s0 k ≤ 1000000) : ∀ k j, j < 303 → -1000000 ≤ (rnF nm A cd f s0 k).1 j ∧ (rnF nm A cd f s0 k).1 j ≤ 1000000 := by
  intro k
  induction k with
  | zero => intro j hj; exact hs j hj
  | succ k ih =>
    intro j hj
    simp only [rnF]
    split
    · exact clipI_b _
    · exact ih j hj
theorem dX3_valueOf_0 : decode prog_5_method_8_code 0 = .ok (.iconst 0, 1) := by decide +kernel
theorem dX3_valueOf_1 : decode prog_5_method_8_code 1 = .ok (.istore 4, 2) := by decide +kernel
theorem dX3_valueOf_3 : decode prog_5_method_8_code 3 = .ok (.iload_n 2, 1) := by decide +kernel
theorem dX3_valueOf_4 : decode prog_5_method_8_code 4 = .ok (.istore 5, 2) := by decide +kernel
theorem dX3_valueOf_6 : decode prog_5_method_8_code 6 = .ok (.iload 5, 2) := by decide +kernel
theorem dX3_valueOf_8 : decode prog_5_method_8_code 8 = .ok (.iload_n 3, 1) := by decide +kernel
theorem dX3_valueOf_9 : decode prog_5_method_8_code 9 = .ok (.if_icmp .ge 119, 3) := by decide +kernel
theorem dX3_valueOf_12 : decode prog_5_method_8_code 12 = .ok (.iload 5, 2) := by decide +kernel
theorem dX3_valueOf_14 : decode prog_5_method_8_code 14 = .ok (.aload_n 1, 1) := by decide +kernel
theorem dX3_valueOf_15 : decode prog_5_method_8_code 15 = .ok (.arraylength, 1) := by decide +kernel
theorem dX3_valueOf_16 : decode prog_5_method_8_code 16 = .ok (.if_icmp .ge 112, 3) := by decide +kernel
theorem dX3_valueOf_19 : decode prog_5_method_8_code 19 = .ok (.aload_n 1, 1) := by decide +kernel
theorem dX3_valueOf_20 : decode prog_5_method_8_code 20 = .ok (.iload 5, 2) := by decide +kernel
theorem dX3_valueOf_22 : decode prog_5_method_8_code 22 = .ok (.iaload, 1) := by decide +kernel
theorem dX3_valueOf_23 : decode prog_5_method_8_code 23 = .ok (.sipush 16384, 3) := by decide +kernel
theorem dX3_valueOf_26 : decode prog_5_method_8_code 26 = .ok (.idiv, 1) := by decide +kernel
theorem dX3_valueOf_27 : decode prog_5_method_8_code 27 = .ok (.istore 6, 2) := by decide +kernel
theorem dX3_valueOf_29 : decode prog_5_method_8_code 29 = .ok (.iload 6, 2) := by decide +kernel
theorem dX3_valueOf_31 : decode prog_5_method_8_code 31 = .ok (.invokestatic 134, 3) := by decide +kernel
theorem dX3_valueOf_34 : decode prog_5_method_8_code 34 = .ok (.istore 7, 2) := by decide +kernel
theorem dX3_valueOf_36 : decode prog_5_method_8_code 36 = .ok (.iload 4, 2) := by decide +kernel
theorem dX3_valueOf_38 : decode prog_5_method_8_code 38 = .ok (.iload 7, 2) := by decide +kernel
theorem dX3_valueOf_40 : decode prog_5_method_8_code 40 = .ok (.if_icmp .lt 11, 3) := by decide +kernel
theorem dX3_valueOf_43 : decode prog_5_method_8_code 43 = .ok (.iload 4, 2) := by decide +kernel
theorem dX3_valueOf_45 : decode prog_5_method_8_code 45 = .ok (.sipush 300, 3) := by decide +kernel
theorem dX3_valueOf_48 : decode prog_5_method_8_code 48 = .ok (.if_icmp .lt 5, 3) := by decide +kernel
theorem dX3_valueOf_51 : decode prog_5_method_8_code 51 = .ok (.iconst 0, 1) := by decide +kernel
theorem dX3_valueOf_52 : decode prog_5_method_8_code 52 = .ok (.ireturn, 1) := by decide +kernel
theorem dX3_valueOf_53 : decode prog_5_method_8_code 53 = .ok (.iload 4, 2) := by decide +kernel
theorem dX3_valueOf_55 : decode prog_5_method_8_code 55 = .ok (.iload 7, 2) := by decide +kernel
theorem dX3_valueOf_57 : decode prog_5_method_8_code 57 = .ok (.isub, 1) := by decide +kernel
theorem dX3_valueOf_58 : decode prog_5_method_8_code 58 = .ok (.istore 4, 2) := by decide +kernel
theorem dX3_valueOf_60 : decode prog_5_method_8_code 60 = .ok (.aload_n 1, 1) := by decide +kernel
theorem dX3_valueOf_61 : decode prog_5_method_8_code 61 = .ok (.iload 5, 2) := by decide +kernel
theorem dX3_valueOf_63 : decode prog_5_method_8_code 63 = .ok (.iaload, 1) := by decide +kernel
theorem dX3_valueOf_64 : decode prog_5_method_8_code 64 = .ok (.sipush 16384, 3) := by decide +kernel
theorem dX3_valueOf_67 : decode prog_5_method_8_code 67 = .ok (.irem, 1) := by decide +kernel
theorem dX3_valueOf_68 : decode prog_5_method_8_code 68 = .ok (.istore 8, 2) := by decide +kernel
theorem dX3_valueOf_70 : decode prog_5_method_8_code 70 = .ok (.iload 7, 2) := by decide +kernel
theorem dX3_valueOf_72 : decode prog_5_method_8_code 72 = .ok (.ifCond .ne 15, 3) := by decide +kernel
theorem dX3_valueOf_75 : decode prog_5_method_8_code 75 = .ok (.aload_n 0, 1) := by decide +kernel
theorem dX3_valueOf_76 : decode prog_5_method_8_code 76 = .ok (.iload 6, 2) := by decide +kernel
theorem dX3_valueOf_78 : decode prog_5_method_8_code 78 = .ok (.iload 8, 2) := by decide +kernel
theorem dX3_valueOf_80 : decode prog_5_method_8_code 80 = .ok (.invokevirtual 137, 3) := by decide +kernel
theorem dX3_valueOf_83 : decode prog_5_method_8_code 83 = .ok (.i2l, 1) := by decide +kernel
theorem dX3_valueOf_84 : decode prog_5_method_8_code 84 = .ok (.goto 11, 3) := by decide +kernel
theorem dX3_valueOf_87 : decode prog_5_method_8_code 87 = .ok (.aload_n 0, 1) := by decide +kernel
theorem dX3_valueOf_88 : decode prog_5_method_8_code 88 = .ok (.iload 6, 2) := by decide +kernel
theorem dX3_valueOf_90 : decode prog_5_method_8_code 90 = .ok (.iload 4, 2) := by decide +kernel
theorem dX3_valueOf_92 : decode prog_5_method_8_code 92 = .ok (.invokevirtual 140, 3) := by decide +kernel
theorem dX3_valueOf_95 : decode prog_5_method_8_code 95 = .ok (.lstore 9, 2) := by decide +kernel
theorem dX3_valueOf_97 : decode prog_5_method_8_code 97 = .ok (.aload_n 0, 1) := by decide +kernel
theorem dX3_valueOf_98 : decode prog_5_method_8_code 98 = .ok (.getfield 15, 3) := by decide +kernel
theorem dX3_valueOf_101 : decode prog_5_method_8_code 101 = .ok (.iload 4, 2) := by decide +kernel
theorem dX3_valueOf_103 : decode prog_5_method_8_code 103 = .ok (.ldc2_w 144, 3) := by decide +kernel
theorem dX3_valueOf_106 : decode prog_5_method_8_code 106 = .ok (.ldc2_w 146, 3) := by decide +kernel
theorem dX3_valueOf_109 : decode prog_5_method_8_code 109 = .ok (.lload 9, 2) := by decide +kernel
theorem dX3_valueOf_111 : decode prog_5_method_8_code 111 = .ok (.invokestatic 148, 3) := by decide +kernel
theorem dX3_valueOf_114 : decode prog_5_method_8_code 114 = .ok (.invokestatic 151, 3) := by decide +kernel
theorem dX3_valueOf_117 : decode prog_5_method_8_code 117 = .ok (.l2i, 1) := by decide +kernel
theorem dX3_valueOf_118 : decode prog_5_method_8_code 118 = .ok (.iastore, 1) := by decide +kernel
theorem dX3_valueOf_119 : decode prog_5_method_8_code 119 = .ok (.iinc 4 1, 3) := by decide +kernel
theorem dX3_valueOf_122 : decode prog_5_method_8_code 122 = .ok (.iinc 5 1, 3) := by decide +kernel
theorem dX3_valueOf_125 : decode prog_5_method_8_code 125 = .ok (.goto (-119), 3) := by decide +kernel
theorem dX3_valueOf_128 : decode prog_5_method_8_code 128 = .ok (.aload_n 0, 1) := by decide +kernel
theorem dX3_valueOf_129 : decode prog_5_method_8_code 129 = .ok (.getfield 15, 3) := by decide +kernel
theorem dX3_valueOf_132 : decode prog_5_method_8_code 132 = .ok (.iconst 0, 1) := by decide +kernel
theorem dX3_valueOf_133 : decode prog_5_method_8_code 133 = .ok (.iaload, 1) := by decide +kernel
theorem dX3_valueOf_134 : decode prog_5_method_8_code 134 = .ok (.ireturn, 1) := by decide +kernel
theorem lp_X3_valueOf {cd N f K : Nat} (cs : CS S R) (hc : ClW I 1 A) (hb : BA A) (hA : AR S cd 13 N) (hN : N ≤ 300) (hcd : 325 ≤ cd) (hfK : f + K ≤ N) (ho : okC (I cd) f K 0) (hnm : ∀ k, k < 8 → -100000 ≤ I 280 k ∧ I 280 k ≤ 100000) (hs : ∀ k, k < 303 → -1000000 ≤ I 281 k ∧ I 281 k ≤ 1000000) (hn : 2 ≤ n) (hp : ∀ I', I' 281 = (rnF (I 280) A (I cd) f (I 281) K).1 → (∀ c, c ≠ 281 → I' c = I c) → Post (some (.int (iI ((rnF (I 280) A (I cd) f (I 281) K).1 0)))) S I' R) : ∀ (m k : Nat) (J : CI), k ≤ K → K - k = m → J 281 = (rnF (I 280) A (I cd) f (I 281) k).1 → (∀ c, c ≠ 281 → J c = I c) → WP n 0 0 mX3_valueOf Post 6 [(0, .ref (S.2.1 279)), (1, .ref (S.2.1 cd)), (2, .int (iI (f : Int))), (3, .int (iI ((f + K : Nat) : Int))), (4, .int (iI (rnF (I 280) A (I cd) f (I 281) k).2)), (5, .int (iI ((f + k : Nat) : Int)))] [] 0 0 S J R := by
  obtain ⟨⟨⟨c0, c7, c8, c9, c10, c11⟩, cq⟩, ⟨⟨t1, t2, t3, t4, t5, t6, t7, t8, t9⟩, tq, th, tb, ts, td⟩, cb, cp⟩ := id hc
  dsimp only [Nat.reduceAdd] at c0 c7 c8 c9 c10 c11 cq t1 t2 t3 t4 t5 t6 t7 t8 t9 tq th tb ts td
  obtain ⟨⟨b0, b1, b2, b3, b4, bq, bl⟩, ⟨d1, d2, d3, d4, d5, d6, d7⟩, dq, dh, db, ds, dd, dp⟩ := id hb
  have b7 : 0 ≤ A 7 ∧ A 7 ≤ 9999 := b1
  have b8 : 0 ≤ A 8 ∧ A 8 ≤ 30870 := b2
  have b9 : 0 ≤ A 9 ∧ A 9 ≤ 9999 := b3
  have b10 : 0 ≤ A 10 ∧ A 10 ≤ 1 := b4
  have b11 : 0 ≤ A 11 ∧ A 11 ≤ 16 := by have h1 := lns_b (fun q => A (6 + 6 + 3 * q)) (A 0).toNat; have h2 : A 11 = _ := bl; omega
  intro m
  induction m using Nat.strongRecOn with
  | ind m ih =>
    intro k J k1 k2 hJ hJo
    have hok := okC_at (nm := I 280) (A := A) (s0 := I 281) ho k k1
    have hrb := rnF_b (nm := I 280) (A := A) (cd := I cd) (f := f) hs k
    have hJc : ClW J 1 A := ClW_fr (fun c h1 h2 => hJo c (by omega)) hc
    have hJs : ∀ q, q < 303 → -1000000 ≤ J 281 q ∧ J 281 q ≤ 1000000 := by rw [hJ]; exact hrb
    obtain ⟨t, ht⟩ : ∃ t, t = (rnF (I 280) A (I cd) f (I 281) k).2 := ⟨_, rfl⟩
    rw [← ht] at hok ⊢
    by_cases hk : k < K
    · rw [show K - k = (K - k - 1) + 1 by omega] at hok
      obtain ⟨o1, o2, o3, o4⟩ := hok
      obtain ⟨w, hw⟩ : ∃ w, w = I cd (f + k) := ⟨_, rfl⟩
      rw [← hw] at o1 o2 o4
      have tb := tkn_b (w / 16384)
      refine x_iload dX3_valueOf_6 rfl ?_
      refine x_iload_n dX3_valueOf_8 rfl ?_
      refine x_icmp_ge 128 dX3_valueOf_9 (by decide) ⟨(by omega), (by omega)⟩ (fun w9 => ?_) (fun w9 => ?_)
      · exfalso; omega
      · refine x_iload dX3_valueOf_12 rfl ?_
        refine x_aload_n dX3_valueOf_14 rfl ?_
        refine x_alen dX3_valueOf_15 hA ?_
        refine x_icmp_ge 128 dX3_valueOf_16 (by decide) ⟨(by omega), (by omega)⟩ (fun w16 => ?_) (fun w16 => ?_)
        · exfalso; omega
        · refine x_aload_n dX3_valueOf_19 rfl ?_
          refine x_iload dX3_valueOf_20 rfl ?_
          refine x_iaload dX3_valueOf_22 hA (by omega) (by omega) ?_
          rw [hJo cd (by omega), show (((f + k : Nat) : Int)).toNat = f + k by omega, ← hw]
          refine x_sipush dX3_valueOf_23 (by decide) ?_
          refine x_idiv dX3_valueOf_26 (by omega) ?_
          refine x_istore (lv2 := [(6, _), (0, _), (1, _), (2, _), (3, _), (4, _), (5, _)]) dX3_valueOf_27 (by decide) rfl ?_
          refine x_iload dX3_valueOf_29 rfl ?_
          refine x_callS1 (mc1 := 0) (ms1 := 0) dX3_valueOf_31 cv_RX3_134 (Nat.le_of_ble_eq_true rfl) (n1 := n - 1) (by omega) (by omega) (by omega) ?_
          refine sp_X3_takenBy (by omega) ?_
          refine x_istore (lv2 := [(7, _), (6, _), (0, _), (1, _), (2, _), (3, _), (4, _), (5, _)]) dX3_valueOf_34 (by decide) rfl ?_
          refine x_iload dX3_valueOf_36 rfl ?_
          refine x_iload dX3_valueOf_38 rfl ?_
          refine x_icmp_lt 51 dX3_valueOf_40 (by decide) ⟨(by omega), (by omega)⟩ (fun w40 => ?_) (fun w40 => ?_)
          · refine x_iconst dX3_valueOf_51 ?_
            exact x_ireturn dX3_valueOf_52 rfl (by omega) (by omega) (by exfalso; omega)
          · refine x_iload dX3_valueOf_43 rfl ?_
            refine x_sipush dX3_valueOf_45 (by decide) ?_
            refine x_icmp_lt 53 dX3_valueOf_48 (by decide) ⟨(by omega), (by omega)⟩ (fun w48 => ?_) (fun w48 => ?_)
            · refine x_iload dX3_valueOf_53 rfl ?_
              refine x_iload dX3_valueOf_55 rfl ?_
              refine x_isub dX3_valueOf_57 ?_
              refine x_istore (lv2 := [(4, _), (7, _), (6, _), (0, _), (1, _), (2, _), (3, _), (5, _)]) dX3_valueOf_58 (by decide) rfl ?_
              refine x_aload_n dX3_valueOf_60 rfl ?_
              refine x_iload dX3_valueOf_61 rfl ?_
              refine x_iaload dX3_valueOf_63 hA (by omega) (by omega) ?_
              rw [hJo cd (by omega), show (((f + k : Nat) : Int)).toNat = f + k by omega, ← hw]
              refine x_sipush dX3_valueOf_64 (by decide) ?_
              refine x_irem dX3_valueOf_67 (by omega) ?_
              refine x_istore (lv2 := [(8, _), (4, _), (7, _), (6, _), (0, _), (1, _), (2, _), (3, _), (5, _)]) dX3_valueOf_68 (by decide) rfl ?_
              refine x_iload dX3_valueOf_70 rfl ?_
              refine x_if_ne 87 dX3_valueOf_72 (by decide) (by omega) (fun w72 => ?_) (fun w72 => ?_)
              · refine x_aload_n dX3_valueOf_87 rfl ?_
                refine x_iload dX3_valueOf_88 rfl ?_
                refine x_iload dX3_valueOf_90 rfl ?_
                refine x_callV2 (mc1 := 0) (ms1 := 0) dX3_valueOf_92 cv_RX3_140 (ci := 3) (k_ob_279 cs) rfl (Nat.le_of_ble_eq_true rfl) (n1 := n - 1) (by omega) (by omega) (by omega) ?_
                refine sp_X3_workedOut cs hJc hb (by omega) (by omega) hJs (by omega) ?_
                have gw := woF_b (A := A) hb (w / 16384) (hJs (t - tkn (w / 16384)).toNat (by omega)) (hJs (t - tkn (w / 16384) + 1).toNat (by omega)) (hJs (t - tkn (w / 16384) + 2).toNat (by omega))
                refine x_lstore (lv2 := [(9, _), (8, _), (4, _), (7, _), (6, _), (0, _), (1, _), (2, _), (3, _), (5, _)]) dX3_valueOf_95 (by decide) rfl ?_
                refine x_aload_n dX3_valueOf_97 rfl ?_
                refine x_getR (b := 281) dX3_valueOf_98 gf_RX3_15 (k_ob_279 cs) (fun _ _ => rfl) (k_r_279_2 cs) ?_
                refine x_iload dX3_valueOf_101 rfl ?_
                refine x_ldc2 (z := (-1000000)) dX3_valueOf_103 (bw_in (lwt_4 (List.mem_of_getElem? (i := 146) (by decide +kernel))) (by decide +kernel)) ?_
                refine x_ldc2 (z := 1000000) dX3_valueOf_106 (bw_in (lwt_4 (List.mem_of_getElem? (i := 147) (by decide +kernel))) (by decide +kernel)) ?_
                refine x_lload dX3_valueOf_109 rfl ?_
                refine x_mmin_long dX3_valueOf_111 cv_RX3_148 (by omega) (Nat.le_of_ble_eq_true rfl) (by omega) (by omega) (by omega) (fun r111 hr111 => ?_)
                refine x_mmax_long dX3_valueOf_114 cv_RX3_151 (by omega) (Nat.le_of_ble_eq_true rfl) (by omega) (by omega) (by omega) (fun r114 hr114 => ?_)
                refine x_l2i dX3_valueOf_117 ?_
                refine x_iastore dX3_valueOf_118 (k_ar_281 cs) (by omega) (by omega) ?_
                refine x_iinc (lv2 := [(4, _), (9, _), (8, _), (7, _), (6, _), (0, _), (1, _), (2, _), (3, _), (5, _)]) dX3_valueOf_119 rfl (by decide) rfl ?_
                refine x_iinc (lv2 := [(5, _), (4, _), (9, _), (8, _), (7, _), (6, _), (0, _), (1, _), (2, _), (3, _)]) dX3_valueOf_122 rfl (by decide) rfl ?_
                refine x_goto 6 dX3_valueOf_125 (by decide) ?_
                refine x_sub [6, 7, 8, 9, 1, 0] rfl ?_
                have e0 : (rnF (I 280) A (I cd) f (I 281) (k + 1)) = (fun j => if j = (t - tkn (w / 16384)).toNat then clipI (if tkn (w / 16384) = 0 then ftF (I 280) (w / 16384) (w % 16384) else woF A (w / 16384) (J 281 (t - tkn (w / 16384)).toNat) (J 281 (t - tkn (w / 16384) + 1).toNat) (J 281 (t - tkn (w / 16384) + 2).toNat)) else J 281 j, t - tkn (w / 16384) + 1) := by rw [hJ, hw, ht]; rfl
                have e2 : (rnF (I 280) A (I cd) f (I 281) (k + 1)).2 = t - tkn (w / 16384) + 1 := by rw [e0]
                rw [← e2]
                refine ih _ (by omega) (k + 1) _ (by omega) rfl ?_ (fun c h => (uI_row h).trans (hJo c h))
                rw [e0]
                funext j
                show (if 281 = 281 ∧ j = _ then _ else _) = _
                by_cases hj : j = (t - tkn (w / 16384)).toNat
                · rw [if_pos ⟨rfl, hj⟩]
                  show _ = (if j = _ then _ else _)
                  rw [if_pos hj]
                  first | (rw [if_pos (by omega)]; unfold clipI; split <;> first | omega | (split <;> omega)) | (rw [if_neg (by omega)]; unfold clipI; split <;> first | omega | (split <;> omega))
                · rw [if_neg (fun z => hj z.2)]
                  show _ = (if j = _ then _ else _)
                  rw [if_neg hj]
              · refine x_aload_n dX3_valueOf_75 rfl ?_
                refine x_iload dX3_valueOf_76 rfl ?_
                refine x_iload dX3_valueOf_78 rfl ?_
                refine x_callV2 (mc1 := 0) (ms1 := 0) dX3_valueOf_80 cv_RX3_137 (ci := 3) (k_ob_279 cs) rfl (Nat.le_of_ble_eq_true rfl) (n1 := n - 1) (by omega) (by omega) (by omega) ?_
                refine sp_X3_fetched cs (by omega) (by omega) ?_
                rw [hJo 280 (by omega)]
                have gf : -100000 ≤ ftF (I 280) (w / 16384) (w % 16384) ∧ ftF (I 280) (w / 16384) (w % 16384) ≤ 100000 := by unfold ftF; split <;> first | exact hnm _ (by omega) | omega
                refine x_i2l dX3_valueOf_83 (by omega) ?_
                refine x_goto 95 dX3_valueOf_84 (by decide) ?_
                refine x_lstore (lv2 := [(9, _), (8, _), (4, _), (7, _), (6, _), (0, _), (1, _), (2, _), (3, _), (5, _)]) dX3_valueOf_95 (by decide) rfl ?_
                refine x_aload_n dX3_valueOf_97 rfl ?_
                refine x_getR (b := 281) dX3_valueOf_98 gf_RX3_15 (k_ob_279 cs) (fun _ _ => rfl) (k_r_279_2 cs) ?_
                refine x_iload dX3_valueOf_101 rfl ?_
                refine x_ldc2 (z := (-1000000)) dX3_valueOf_103 (bw_in (lwt_4 (List.mem_of_getElem? (i := 146) (by decide +kernel))) (by decide +kernel)) ?_
                refine x_ldc2 (z := 1000000) dX3_valueOf_106 (bw_in (lwt_4 (List.mem_of_getElem? (i := 147) (by decide +kernel))) (by decide +kernel)) ?_
                refine x_lload dX3_valueOf_109 rfl ?_
                refine x_mmin_long dX3_valueOf_111 cv_RX3_148 (by omega) (Nat.le_of_ble_eq_true rfl) (by omega) (by omega) (by omega) (fun r111 hr111 => ?_)
                refine x_mmax_long dX3_valueOf_114 cv_RX3_151 (by omega) (Nat.le_of_ble_eq_true rfl) (by omega) (by omega) (by omega) (fun r114 hr114 => ?_)
                refine x_l2i dX3_valueOf_117 ?_
                refine x_iastore dX3_valueOf_118 (k_ar_281 cs) (by omega) (by omega) ?_
                refine x_iinc (lv2 := [(4, _), (9, _), (8, _), (7, _), (6, _), (0, _), (1, _), (2, _), (3, _), (5, _)]) dX3_valueOf_119 rfl (by decide) rfl ?_
                refine x_iinc (lv2 := [(5, _), (4, _), (9, _), (8, _), (7, _), (6, _), (0, _), (1, _), (2, _), (3, _)]) dX3_valueOf_122 rfl (by decide) rfl ?_
                refine x_goto 6 dX3_valueOf_125 (by decide) ?_
                refine x_sub [6, 7, 8, 9, 1, 0] rfl ?_
                have e0 : (rnF (I 280) A (I cd) f (I 281) (k + 1)) = (fun j => if j = (t - tkn (w / 16384)).toNat then clipI (if tkn (w / 16384) = 0 then ftF (I 280) (w / 16384) (w % 16384) else woF A (w / 16384) (J 281 (t - tkn (w / 16384)).toNat) (J 281 (t - tkn (w / 16384) + 1).toNat) (J 281 (t - tkn (w / 16384) + 2).toNat)) else J 281 j, t - tkn (w / 16384) + 1) := by rw [hJ, hw, ht]; rfl
                have e2 : (rnF (I 280) A (I cd) f (I 281) (k + 1)).2 = t - tkn (w / 16384) + 1 := by rw [e0]
                rw [← e2]
                refine ih _ (by omega) (k + 1) _ (by omega) rfl ?_ (fun c h => (uI_row h).trans (hJo c h))
                rw [e0]
                funext j
                show (if 281 = 281 ∧ j = _ then _ else _) = _
                by_cases hj : j = (t - tkn (w / 16384)).toNat
                · rw [if_pos ⟨rfl, hj⟩]
                  show _ = (if j = _ then _ else _)
                  rw [if_pos hj]
                  first | (rw [if_pos (by omega)]; unfold clipI; split <;> first | omega | (split <;> omega)) | (rw [if_neg (by omega)]; unfold clipI; split <;> first | omega | (split <;> omega))
                · rw [if_neg (fun z => hj z.2)]
                  show _ = (if j = _ then _ else _)
                  rw [if_neg hj]
            · refine x_iconst dX3_valueOf_51 ?_
              exact x_ireturn dX3_valueOf_52 rfl (by omega) (by omega) (by exfalso; omega)
    · have hkK : k = K := by omega
      subst hkK
      refine x_iload dX3_valueOf_6 rfl ?_
      refine x_iload_n dX3_valueOf_8 rfl ?_
      refine x_icmp_ge 128 dX3_valueOf_9 (by decide) ⟨(by omega), (by omega)⟩ (fun w9 => ?_) (fun w9 => ?_)
      · refine x_aload_n dX3_valueOf_128 rfl ?_
        refine x_getR (b := 281) dX3_valueOf_129 gf_RX3_15 (k_ob_279 cs) (fun _ _ => rfl) (k_r_279_2 cs) ?_
        refine x_iconst dX3_valueOf_132 ?_
        refine x_iaload dX3_valueOf_133 (k_ar_281 cs) (by omega) (by omega) ?_
        exact x_ireturn dX3_valueOf_134 rfl (by omega) (by omega) (by rw [hJ]; exact hp _ hJ hJo)
      · exfalso; omega
theorem sp_X3_valueOf {cd N f K : Nat} (cs : CS S R) (hc : ClW I 1 A) (hb : BA A) (hA : AR S cd 13 N) (hN : N ≤ 300) (hcd : 325 ≤ cd) (hfK : f + K ≤ N) (ho : okC (I cd) f K 0) (hnm : ∀ k, k < 8 → -100000 ≤ I 280 k ∧ I 280 k ≤ 100000) (hs : ∀ k, k < 303 → -1000000 ≤ I 281 k ∧ I 281 k ≤ 1000000) (hn : 2 ≤ n) (hp : ∀ I', I' 281 = (rnF (I 280) A (I cd) f (I 281) K).1 → (∀ c, c ≠ 281 → I' c = I c) → Post (some (.int (iI ((rnF (I 280) A (I cd) f (I 281) K).1 0)))) S I' R) : Call n 0 0 mX3_valueOf [.ref (S.2.1 279), .ref (S.2.1 cd), .int (iI (f : Int)), .int (iI ((f + K : Nat) : Int))] S I R Post := by
  refine Call.of (by decide +kernel) (Nat.le_of_ble_eq_true rfl) ?_
  show WP _ _ _ _ _ 0 [(0, _), (1, _), (2, _), (3, _)] [] 0 0 _ _ _
  refine x_iconst dX3_valueOf_0 ?_
  refine x_istore (lv2 := [(4, _), (0, _), (1, _), (2, _), (3, _)]) dX3_valueOf_1 (by decide) rfl ?_
  refine x_iload_n dX3_valueOf_3 rfl ?_
  refine x_istore (lv2 := [(5, _), (4, _), (0, _), (1, _), (2, _), (3, _)]) dX3_valueOf_4 (by decide) rfl ?_
  refine x_sub [2, 3, 4, 5, 1, 0] rfl ?_
  exact lp_X3_valueOf cs hc hb hA hN hcd hfK ho hnm hs hn hp _ 0 I (by omega) rfl rfl (fun _ _ => rfl)
end Laws2
