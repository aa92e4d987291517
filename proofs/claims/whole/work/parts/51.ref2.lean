section Ref2
variable {n mc ms : Nat} {M : Md} {pc : Nat} {lv : List (Nat × Value)} {st : List Value} {k j : Nat} {Post : PT} {S : Sh} {I : CI} {R : CR} {A : Nat → Int} {tx : Nat → Nat → Int}
theorem dX12_held_0 : decode prog_14_method_4_code 0 = .ok (.lload_n 0, 1) := by decide +kernel
theorem dX12_held_1 : decode prog_14_method_4_code 1 = .ok (.iload_n 2, 1) := by decide +kernel
theorem dX12_held_2 : decode prog_14_method_4_code 2 = .ok (.i2l, 1) := by decide +kernel
theorem dX12_held_3 : decode prog_14_method_4_code 3 = .ok (.lcmp, 1) := by decide +kernel
theorem dX12_held_4 : decode prog_14_method_4_code 4 = .ok (.ifCond .ge 7, 3) := by decide +kernel
theorem dX12_held_7 : decode prog_14_method_4_code 7 = .ok (.iload_n 2, 1) := by decide +kernel
theorem dX12_held_8 : decode prog_14_method_4_code 8 = .ok (.goto 16, 3) := by decide +kernel
theorem dX12_held_11 : decode prog_14_method_4_code 11 = .ok (.lload_n 0, 1) := by decide +kernel
theorem dX12_held_12 : decode prog_14_method_4_code 12 = .ok (.iload_n 3, 1) := by decide +kernel
theorem dX12_held_13 : decode prog_14_method_4_code 13 = .ok (.i2l, 1) := by decide +kernel
theorem dX12_held_14 : decode prog_14_method_4_code 14 = .ok (.lcmp, 1) := by decide +kernel
theorem dX12_held_15 : decode prog_14_method_4_code 15 = .ok (.ifCond .le 7, 3) := by decide +kernel
theorem dX12_held_18 : decode prog_14_method_4_code 18 = .ok (.iload_n 3, 1) := by decide +kernel
theorem dX12_held_19 : decode prog_14_method_4_code 19 = .ok (.goto 5, 3) := by decide +kernel
theorem dX12_held_22 : decode prog_14_method_4_code 22 = .ok (.lload_n 0, 1) := by decide +kernel
theorem dX12_held_23 : decode prog_14_method_4_code 23 = .ok (.l2i, 1) := by decide +kernel
theorem dX12_held_24 : decode prog_14_method_4_code 24 = .ok (.ireturn, 1) := by decide +kernel
theorem sp_X12_held {v lo hi : Int} (hv : Rl v) (hl : Rg lo) (hh : Rg hi) (hp : Post (some (.int (iI (clampI lo hi v)))) S I R) : Call n 0 0 mX12_held [.long (lI v), .int (iI lo), .int (iI hi)] S I R Post := by
  unfold clampI at hp
  refine Call.of (by decide +kernel) (Nat.le_of_ble_eq_true rfl) ?_
  show WP _ _ _ _ _ 0 [(0, _), (2, _), (3, _)] [] 0 0 _ _ _
  refine x_lload_n dX12_held_0 rfl ?_
  refine x_iload_n dX12_held_1 rfl ?_
  refine x_i2l dX12_held_2 (by unfold Rl at *; omega) ?_
  refine x_lcif_ge 11 dX12_held_3 dX12_held_4 (by decide) (by unfold Rl at *; omega) (fun w3 => ?_) (fun w3 => ?_)
  · refine x_lload_n dX12_held_11 rfl ?_
    refine x_iload_n dX12_held_12 rfl ?_
    refine x_i2l dX12_held_13 (by unfold Rl at *; omega) ?_
    refine x_lcif_le 22 dX12_held_14 dX12_held_15 (by decide) (by unfold Rl at *; omega) (fun w14 => ?_) (fun w14 => ?_)
    · refine x_lload_n dX12_held_22 rfl ?_
      refine x_l2i dX12_held_23 ?_
      exact x_ireturn dX12_held_24 rfl (by omega) (by omega) (by first | (rw [if_pos (by omega)] at hp; exact hp) | (rw [if_neg (by omega), if_neg (by omega)] at hp; exact hp) | (rw [if_neg (by omega), if_pos (by omega)] at hp; exact hp))
    · refine x_iload_n dX12_held_18 rfl ?_
      refine x_goto 24 dX12_held_19 (by decide) ?_
      exact x_ireturn dX12_held_24 rfl (by omega) (by omega) (by first | (rw [if_pos (by omega)] at hp; exact hp) | (rw [if_neg (by omega), if_neg (by omega)] at hp; exact hp) | (rw [if_neg (by omega), if_pos (by omega)] at hp; exact hp))
  · refine x_iload_n dX12_held_7 rfl ?_
    refine x_goto 24 dX12_held_8 (by decide) ?_
    exact x_ireturn dX12_held_24 rfl (by omega) (by omega) (by first | (rw [if_pos (by omega)] at hp; exact hp) | (rw [if_neg (by omega), if_neg (by omega)] at hp; exact hp) | (rw [if_neg (by omega), if_pos (by omega)] at hp; exact hp))
theorem dX12_size_0 : decode prog_14_method_5_code 0 = .ok (.iload_n 0, 1) := by decide +kernel
theorem dX12_size_1 : decode prog_14_method_5_code 1 = .ok (.ifCond .ge 8, 3) := by decide +kernel
theorem dX12_size_4 : decode prog_14_method_5_code 4 = .ok (.iload_n 0, 1) := by decide +kernel
theorem dX12_size_5 : decode prog_14_method_5_code 5 = .ok (.ineg, 1) := by decide +kernel
theorem dX12_size_6 : decode prog_14_method_5_code 6 = .ok (.goto 4, 3) := by decide +kernel
theorem dX12_size_9 : decode prog_14_method_5_code 9 = .ok (.iload_n 0, 1) := by decide +kernel
theorem dX12_size_10 : decode prog_14_method_5_code 10 = .ok (.ireturn, 1) := by decide +kernel
theorem sp_X12_size {v : Int} (hv : Rg v) (hp : Post (some (.int (iI (if v < 0 then -v else v)))) S I R) : Call n 0 0 mX12_size [.int (iI v)] S I R Post := by
  refine Call.of (by decide +kernel) (Nat.le_of_ble_eq_true rfl) ?_
  show WP _ _ _ _ _ 0 [(0, _)] [] 0 0 _ _ _
  refine x_iload_n dX12_size_0 rfl ?_
  refine x_if_ge 9 dX12_size_1 (by decide) (by omega) (fun w1 => ?_) (fun w1 => ?_)
  · refine x_iload_n dX12_size_9 rfl ?_
    exact x_ireturn dX12_size_10 rfl (by omega) (by omega) (by first | (rw [if_pos (by omega)] at hp; exact hp) | (rw [if_neg (by omega)] at hp; exact hp))
  · refine x_iload_n dX12_size_4 rfl ?_
    refine x_ineg dX12_size_5 ?_
    refine x_goto 10 dX12_size_6 (by decide) ?_
    exact x_ireturn dX12_size_10 rfl (by omega) (by omega) (by first | (rw [if_pos (by omega)] at hp; exact hp) | (rw [if_neg (by omega)] at hp; exact hp))
theorem bc_step {x : Nat} (h : 0 < x ∧ x < 256) : bcN (x &&& (x - 1)) + 1 = bcN x ∧ x &&& (x - 1) < x := by
  have h2 : ∀ y : Fin 256, 0 < y.val → bcN (y.val &&& (y.val - 1)) + 1 = bcN y.val ∧ y.val &&& (y.val - 1) < y.val := by decide +kernel
  exact h2 ⟨x, h.2⟩ h.1
theorem dX12_bits_0 : decode prog_14_method_7_code 0 = .ok (.iconst 0, 1) := by decide +kernel
theorem dX12_bits_1 : decode prog_14_method_7_code 1 = .ok (.istore_n 1, 1) := by decide +kernel
theorem dX12_bits_2 : decode prog_14_method_7_code 2 = .ok (.iload_n 0, 1) := by decide +kernel
theorem dX12_bits_3 : decode prog_14_method_7_code 3 = .ok (.istore_n 2, 1) := by decide +kernel
theorem dX12_bits_4 : decode prog_14_method_7_code 4 = .ok (.iload_n 2, 1) := by decide +kernel
theorem dX12_bits_5 : decode prog_14_method_7_code 5 = .ok (.ifCond .eq 15, 3) := by decide +kernel
theorem dX12_bits_8 : decode prog_14_method_7_code 8 = .ok (.iinc 1 1, 3) := by decide +kernel
theorem dX12_bits_11 : decode prog_14_method_7_code 11 = .ok (.iload_n 2, 1) := by decide +kernel
theorem dX12_bits_12 : decode prog_14_method_7_code 12 = .ok (.iload_n 2, 1) := by decide +kernel
theorem dX12_bits_13 : decode prog_14_method_7_code 13 = .ok (.iconst 1, 1) := by decide +kernel
theorem dX12_bits_14 : decode prog_14_method_7_code 14 = .ok (.isub, 1) := by decide +kernel
theorem dX12_bits_15 : decode prog_14_method_7_code 15 = .ok (.iand, 1) := by decide +kernel
theorem dX12_bits_16 : decode prog_14_method_7_code 16 = .ok (.istore_n 2, 1) := by decide +kernel
theorem dX12_bits_17 : decode prog_14_method_7_code 17 = .ok (.goto (-13), 3) := by decide +kernel
theorem dX12_bits_20 : decode prog_14_method_7_code 20 = .ok (.iload_n 1, 1) := by decide +kernel
theorem dX12_bits_21 : decode prog_14_method_7_code 21 = .ok (.ireturn, 1) := by decide +kernel
theorem lp_X12_bits {s : Int} {N : Nat} (hN : N ≤ 8) (hp : Post (some (.int (iI (N : Int)))) S I R) : ∀ (d c x : Nat), x < 256 → x = d → c + bcN x = N → WP n 0 0 mX12_bits Post 4 [(0, .int (iI s)), (1, .int (iI (c : Int))), (2, .int (iI (x : Int)))] [] 0 0 S I R := by
  intro d
  induction d using Nat.strongRecOn with
  | ind d ih =>
    intro c x h1 h2 h3
    have hz : bcN 0 = 0 := rfl
    refine x_iload_n dX12_bits_4 rfl ?_
    refine x_if_eq 20 dX12_bits_5 (by decide) (by omega) (fun w5 => ?_) (fun w5 => ?_)
    · refine x_iload_n dX12_bits_20 rfl ?_
      exact x_ireturn dX12_bits_21 rfl (by omega) (by omega) (by obtain rfl : x = 0 := (by omega); obtain rfl : c = N := (by omega); exact hp)
    · refine x_iinc (lv2 := [(1, _), (0, _), (2, _)]) dX12_bits_8 rfl (by decide) rfl ?_
      refine x_iload_n dX12_bits_11 rfl ?_
      refine x_iload_n dX12_bits_12 rfl ?_
      refine x_iconst dX12_bits_13 ?_
      refine x_isub dX12_bits_14 ?_
      rw [show (x : Int) - 1 = ((x - 1 : Nat) : Int) by omega]
      refine x_iand dX12_bits_15 ?_
      rw [andI_n (by omega)]
      refine x_istore_n (lv2 := [(2, _), (1, _), (0, _)]) dX12_bits_16 (by decide) rfl ?_
      refine x_goto 4 dX12_bits_17 (by decide) ?_
      refine x_sub [2, 1, 0] rfl ?_
      have hs := bc_step (x := x) (by omega)
      exact ih _ (by omega) (c + 1) _ (by omega) rfl (by omega)
theorem sp_X12_bits {x : Nat} (hx : x < 256) (hp : Post (some (.int (iI ((bcN x : Int))))) S I R) : Call n 0 0 mX12_bits [.int (iI (x : Int))] S I R Post := by
  have hb8 := bcN_b x
  refine Call.of (by decide +kernel) (Nat.le_of_ble_eq_true rfl) ?_
  show WP _ _ _ _ _ 0 [(0, _)] [] 0 0 _ _ _
  refine x_iconst dX12_bits_0 ?_
  refine x_istore_n (lv2 := [(1, _), (0, _)]) dX12_bits_1 (by decide) rfl ?_
  refine x_iload_n dX12_bits_2 rfl ?_
  refine x_istore_n (lv2 := [(2, _), (1, _), (0, _)]) dX12_bits_3 (by decide) rfl ?_
  refine x_sub [2, 1, 0] rfl ?_
  exact lp_X12_bits hb8 hp _ 0 x hx rfl (by omega)
theorem dX12_isOfTwo_0 : decode prog_14_method_15_code 0 = .ok (.bipush 36, 2) := by decide +kernel
theorem dX12_isOfTwo_2 : decode prog_14_method_15_code 2 = .ok (.iconst 2, 1) := by decide +kernel
theorem dX12_isOfTwo_3 : decode prog_14_method_15_code 3 = .ok (.iload_n 1, 1) := by decide +kernel
theorem dX12_isOfTwo_4 : decode prog_14_method_15_code 4 = .ok (.imul, 1) := by decide +kernel
theorem dX12_isOfTwo_5 : decode prog_14_method_15_code 5 = .ok (.iadd, 1) := by decide +kernel
theorem dX12_isOfTwo_6 : decode prog_14_method_15_code 6 = .ok (.istore 4, 2) := by decide +kernel
theorem dX12_isOfTwo_8 : decode prog_14_method_15_code 8 = .ok (.aload_n 0, 1) := by decide +kernel
theorem dX12_isOfTwo_9 : decode prog_14_method_15_code 9 = .ok (.getfield 7, 3) := by decide +kernel
theorem dX12_isOfTwo_12 : decode prog_14_method_15_code 12 = .ok (.iload 4, 2) := by decide +kernel
theorem dX12_isOfTwo_14 : decode prog_14_method_15_code 14 = .ok (.iaload, 1) := by decide +kernel
theorem dX12_isOfTwo_15 : decode prog_14_method_15_code 15 = .ok (.iload_n 2, 1) := by decide +kernel
theorem dX12_isOfTwo_16 : decode prog_14_method_15_code 16 = .ok (.if_icmp .ne 16, 3) := by decide +kernel
theorem dX12_isOfTwo_19 : decode prog_14_method_15_code 19 = .ok (.aload_n 0, 1) := by decide +kernel
theorem dX12_isOfTwo_20 : decode prog_14_method_15_code 20 = .ok (.getfield 7, 3) := by decide +kernel
theorem dX12_isOfTwo_23 : decode prog_14_method_15_code 23 = .ok (.iload 4, 2) := by decide +kernel
theorem dX12_isOfTwo_25 : decode prog_14_method_15_code 25 = .ok (.iconst 1, 1) := by decide +kernel
theorem dX12_isOfTwo_26 : decode prog_14_method_15_code 26 = .ok (.iadd, 1) := by decide +kernel
theorem dX12_isOfTwo_27 : decode prog_14_method_15_code 27 = .ok (.iaload, 1) := by decide +kernel
theorem dX12_isOfTwo_28 : decode prog_14_method_15_code 28 = .ok (.iload_n 3, 1) := by decide +kernel
theorem dX12_isOfTwo_29 : decode prog_14_method_15_code 29 = .ok (.if_icmp .eq 27, 3) := by decide +kernel
theorem dX12_isOfTwo_32 : decode prog_14_method_15_code 32 = .ok (.aload_n 0, 1) := by decide +kernel
theorem dX12_isOfTwo_33 : decode prog_14_method_15_code 33 = .ok (.getfield 7, 3) := by decide +kernel
theorem dX12_isOfTwo_36 : decode prog_14_method_15_code 36 = .ok (.iload 4, 2) := by decide +kernel
theorem dX12_isOfTwo_38 : decode prog_14_method_15_code 38 = .ok (.iaload, 1) := by decide +kernel
theorem dX12_isOfTwo_39 : decode prog_14_method_15_code 39 = .ok (.iload_n 3, 1) := by decide +kernel
theorem dX12_isOfTwo_40 : decode prog_14_method_15_code 40 = .ok (.if_icmp .ne 20, 3) := by decide +kernel
theorem dX12_isOfTwo_43 : decode prog_14_method_15_code 43 = .ok (.aload_n 0, 1) := by decide +kernel
theorem dX12_isOfTwo_44 : decode prog_14_method_15_code 44 = .ok (.getfield 7, 3) := by decide +kernel
theorem dX12_isOfTwo_47 : decode prog_14_method_15_code 47 = .ok (.iload 4, 2) := by decide +kernel
theorem dX12_isOfTwo_49 : decode prog_14_method_15_code 49 = .ok (.iconst 1, 1) := by decide +kernel
theorem dX12_isOfTwo_50 : decode prog_14_method_15_code 50 = .ok (.iadd, 1) := by decide +kernel
theorem dX12_isOfTwo_51 : decode prog_14_method_15_code 51 = .ok (.iaload, 1) := by decide +kernel
theorem dX12_isOfTwo_52 : decode prog_14_method_15_code 52 = .ok (.iload_n 2, 1) := by decide +kernel
theorem dX12_isOfTwo_53 : decode prog_14_method_15_code 53 = .ok (.if_icmp .ne 7, 3) := by decide +kernel
theorem dX12_isOfTwo_56 : decode prog_14_method_15_code 56 = .ok (.iconst 1, 1) := by decide +kernel
theorem dX12_isOfTwo_57 : decode prog_14_method_15_code 57 = .ok (.goto 4, 3) := by decide +kernel
theorem dX12_isOfTwo_60 : decode prog_14_method_15_code 60 = .ok (.iconst 0, 1) := by decide +kernel
theorem dX12_isOfTwo_61 : decode prog_14_method_15_code 61 = .ok (.ireturn, 1) := by decide +kernel
theorem sp_X12_isOfTwo {q p s : Nat} (cs : CS S R) (hA : I 307 = A) (hq : q < 8) (h1 : 0 ≤ A (36 + 2 * q) ∧ A (36 + 2 * q) ≤ 5) (h2 : 0 ≤ A (37 + 2 * q) ∧ A (37 + 2 * q) ≤ 5) (hpp : p < 6) (hr : s < 6) (hp : ∀ r, (r = 1 ∧ ((A (36 + 2 * q) = p ∧ A (37 + 2 * q) = s) ∨ (A (36 + 2 * q) = s ∧ A (37 + 2 * q) = p)) ∨ r = 0 ∧ ¬ ((A (36 + 2 * q) = p ∧ A (37 + 2 * q) = s) ∨ (A (36 + 2 * q) = s ∧ A (37 + 2 * q) = p))) → Post (some (.int (iI r))) S I R) : Call n 0 0 mX12_isOfTwo [.ref (S.2.1 306), .int (iI (q : Int)), .int (iI (p : Int)), .int (iI (s : Int))] S I R Post := by
  refine Call.of (by decide +kernel) (Nat.le_of_ble_eq_true rfl) ?_
  show WP _ _ _ _ _ 0 [(0, _), (1, _), (2, _), (3, _)] [] 0 0 _ _ _
  refine x_bipush dX12_isOfTwo_0 (by decide) ?_
  refine x_iconst dX12_isOfTwo_2 ?_
  refine x_iload_n dX12_isOfTwo_3 rfl ?_
  refine x_imul dX12_isOfTwo_4 ?_
  refine x_iadd dX12_isOfTwo_5 ?_
  refine x_istore (lv2 := [(4, _), (0, _), (1, _), (2, _), (3, _)]) dX12_isOfTwo_6 (by decide) rfl ?_
  refine x_aload_n dX12_isOfTwo_8 rfl ?_
  refine x_getR (b := 307) dX12_isOfTwo_9 gf_RX12_7 (k_ob_306 cs) (fun _ _ => rfl) (k_r_306_0 cs) ?_
  refine x_iload dX12_isOfTwo_12 rfl ?_
  refine x_ald7 (kk := 36 + 2 * q) (v := A (36 + 2 * q)) dX12_isOfTwo_14 cs (by omega) (by omega) (by rw [hA]; repeat (first | rfl | rw [upA_s] | rw [upA_o (by omega)])) ?_
  refine x_iload_n dX12_isOfTwo_15 rfl ?_
  refine x_icmp_ne 32 dX12_isOfTwo_16 (by decide) ⟨(by omega), (by omega)⟩ (fun w16 => ?_) (fun w16 => ?_)
  · refine x_aload_n dX12_isOfTwo_32 rfl ?_
    refine x_getR (b := 307) dX12_isOfTwo_33 gf_RX12_7 (k_ob_306 cs) (fun _ _ => rfl) (k_r_306_0 cs) ?_
    refine x_iload dX12_isOfTwo_36 rfl ?_
    refine x_ald7 (kk := 36 + 2 * q) (v := A (36 + 2 * q)) dX12_isOfTwo_38 cs (by omega) (by omega) (by rw [hA]; repeat (first | rfl | rw [upA_s] | rw [upA_o (by omega)])) ?_
    refine x_iload_n dX12_isOfTwo_39 rfl ?_
    refine x_icmp_ne 60 dX12_isOfTwo_40 (by decide) ⟨(by omega), (by omega)⟩ (fun w40 => ?_) (fun w40 => ?_)
    · refine x_iconst dX12_isOfTwo_60 ?_
      exact x_zreturn (by omega) dX12_isOfTwo_61 rfl (by omega) (by omega) (by first | exact hp 1 (Or.inl ⟨rfl, by omega⟩) | exact hp 0 (Or.inr ⟨rfl, by omega⟩))
    · refine x_aload_n dX12_isOfTwo_43 rfl ?_
      refine x_getR (b := 307) dX12_isOfTwo_44 gf_RX12_7 (k_ob_306 cs) (fun _ _ => rfl) (k_r_306_0 cs) ?_
      refine x_iload dX12_isOfTwo_47 rfl ?_
      refine x_iconst dX12_isOfTwo_49 ?_
      refine x_iadd dX12_isOfTwo_50 ?_
      refine x_ald7 (kk := 37 + 2 * q) (v := A (37 + 2 * q)) dX12_isOfTwo_51 cs (by omega) (by omega) (by rw [hA]; repeat (first | rfl | rw [upA_s] | rw [upA_o (by omega)])) ?_
      refine x_iload_n dX12_isOfTwo_52 rfl ?_
      refine x_icmp_ne 60 dX12_isOfTwo_53 (by decide) ⟨(by omega), (by omega)⟩ (fun w53 => ?_) (fun w53 => ?_)
      · refine x_iconst dX12_isOfTwo_60 ?_
        exact x_zreturn (by omega) dX12_isOfTwo_61 rfl (by omega) (by omega) (by first | exact hp 1 (Or.inl ⟨rfl, by omega⟩) | exact hp 0 (Or.inr ⟨rfl, by omega⟩))
      · refine x_iconst dX12_isOfTwo_56 ?_
        refine x_goto 61 dX12_isOfTwo_57 (by decide) ?_
        exact x_zreturn (by omega) dX12_isOfTwo_61 rfl (by omega) (by omega) (by first | exact hp 1 (Or.inl ⟨rfl, by omega⟩) | exact hp 0 (Or.inr ⟨rfl, by omega⟩))
  · refine x_aload_n dX12_isOfTwo_19 rfl ?_
    refine x_getR (b := 307) dX12_isOfTwo_20 gf_RX12_7 (k_ob_306 cs) (fun _ _ => rfl) (k_r_306_0 cs) ?_
    refine x_iload dX12_isOfTwo_23 rfl ?_
    refine x_iconst dX12_isOfTwo_25 ?_
    refine x_iadd dX12_isOfTwo_26 ?_
    refine x_ald7 (kk := 37 + 2 * q) (v := A (37 + 2 * q)) dX12_isOfTwo_27 cs (by omega) (by omega) (by rw [hA]; repeat (first | rfl | rw [upA_s] | rw [upA_o (by omega)])) ?_
    refine x_iload_n dX12_isOfTwo_28 rfl ?_
    refine x_icmp_eq 56 dX12_isOfTwo_29 (by decide) ⟨(by omega), (by omega)⟩ (fun w29 => ?_) (fun w29 => ?_)
    · refine x_iconst dX12_isOfTwo_56 ?_
      refine x_goto 61 dX12_isOfTwo_57 (by decide) ?_
      exact x_zreturn (by omega) dX12_isOfTwo_61 rfl (by omega) (by omega) (by first | exact hp 1 (Or.inl ⟨rfl, by omega⟩) | exact hp 0 (Or.inr ⟨rfl, by omega⟩))
    · refine x_aload_n dX12_isOfTwo_32 rfl ?_
      refine x_getR (b := 307) dX12_isOfTwo_33 gf_RX12_7 (k_ob_306 cs) (fun _ _ => rfl) (k_r_306_0 cs) ?_
      refine x_iload dX12_isOfTwo_36 rfl ?_
      refine x_ald7 (kk := 36 + 2 * q) (v := A (36 + 2 * q)) dX12_isOfTwo_38 cs (by omega) (by omega) (by rw [hA]; repeat (first | rfl | rw [upA_s] | rw [upA_o (by omega)])) ?_
      refine x_iload_n dX12_isOfTwo_39 rfl ?_
      refine x_icmp_ne 60 dX12_isOfTwo_40 (by decide) ⟨(by omega), (by omega)⟩ (fun w40 => ?_) (fun w40 => ?_)
      · refine x_iconst dX12_isOfTwo_60 ?_
        exact x_zreturn (by omega) dX12_isOfTwo_61 rfl (by omega) (by omega) (by first | exact hp 1 (Or.inl ⟨rfl, by omega⟩) | exact hp 0 (Or.inr ⟨rfl, by omega⟩))
      · refine x_aload_n dX12_isOfTwo_43 rfl ?_
        refine x_getR (b := 307) dX12_isOfTwo_44 gf_RX12_7 (k_ob_306 cs) (fun _ _ => rfl) (k_r_306_0 cs) ?_
        refine x_iload dX12_isOfTwo_47 rfl ?_
        refine x_iconst dX12_isOfTwo_49 ?_
        refine x_iadd dX12_isOfTwo_50 ?_
        refine x_ald7 (kk := 37 + 2 * q) (v := A (37 + 2 * q)) dX12_isOfTwo_51 cs (by omega) (by omega) (by rw [hA]; repeat (first | rfl | rw [upA_s] | rw [upA_o (by omega)])) ?_
        refine x_iload_n dX12_isOfTwo_52 rfl ?_
        refine x_icmp_ne 60 dX12_isOfTwo_53 (by decide) ⟨(by omega), (by omega)⟩ (fun w53 => ?_) (fun w53 => ?_)
        · refine x_iconst dX12_isOfTwo_60 ?_
          exact x_zreturn (by omega) dX12_isOfTwo_61 rfl (by omega) (by omega) (by first | exact hp 1 (Or.inl ⟨rfl, by omega⟩) | exact hp 0 (Or.inr ⟨rfl, by omega⟩))
        · refine x_iconst dX12_isOfTwo_56 ?_
          refine x_goto 61 dX12_isOfTwo_57 (by decide) ?_
          exact x_zreturn (by omega) dX12_isOfTwo_61 rfl (by omega) (by omega) (by first | exact hp 1 (Or.inl ⟨rfl, by omega⟩) | exact hp 0 (Or.inr ⟨rfl, by omega⟩))
theorem sp_X12_begin_z {z : Int} (cs : CS S R) (hA : I 307 = A) (hq : 0 ≤ z ∧ z < 8) (hp : ∀ I', I' 307 = goA A z.toNat → F7 I I' → Post none S I' R) : Call n 0 0 mX12_begin [.ref (S.2.1 306), .int (iI z)] S I R Post := by
  rw [asN hq.1]
  exact sp_X12_begin cs hA (by omega) hp
theorem dX12_quarrel_0 : decode prog_14_method_16_code 0 = .ok (.iload_n 1, 1) := by decide +kernel
theorem dX12_quarrel_1 : decode prog_14_method_16_code 1 = .ok (.invokestatic 93, 3) := by decide +kernel
theorem dX12_quarrel_4 : decode prog_14_method_16_code 4 = .ok (.ifCond .eq 47, 3) := by decide +kernel
theorem dX12_quarrel_7 : decode prog_14_method_16_code 7 = .ok (.iload_n 2, 1) := by decide +kernel
theorem dX12_quarrel_8 : decode prog_14_method_16_code 8 = .ok (.invokestatic 93, 3) := by decide +kernel
theorem dX12_quarrel_11 : decode prog_14_method_16_code 11 = .ok (.ifCond .eq 40, 3) := by decide +kernel
theorem dX12_quarrel_14 : decode prog_14_method_16_code 14 = .ok (.iload_n 1, 1) := by decide +kernel
theorem dX12_quarrel_15 : decode prog_14_method_16_code 15 = .ok (.iload_n 2, 1) := by decide +kernel
theorem dX12_quarrel_16 : decode prog_14_method_16_code 16 = .ok (.if_icmp .eq 35, 3) := by decide +kernel
theorem dX12_quarrel_19 : decode prog_14_method_16_code 19 = .ok (.iload_n 3, 1) := by decide +kernel
theorem dX12_quarrel_20 : decode prog_14_method_16_code 20 = .ok (.iconst 1, 1) := by decide +kernel
theorem dX12_quarrel_21 : decode prog_14_method_16_code 21 = .ok (.bipush 99, 2) := by decide +kernel
theorem dX12_quarrel_23 : decode prog_14_method_16_code 23 = .ok (.invokestatic 81, 3) := by decide +kernel
theorem dX12_quarrel_26 : decode prog_14_method_16_code 26 = .ok (.ifCond .eq 25, 3) := by decide +kernel
theorem dX12_quarrel_29 : decode prog_14_method_16_code 29 = .ok (.iload 4, 2) := by decide +kernel
theorem dX12_quarrel_31 : decode prog_14_method_16_code 31 = .ok (.iconst 0, 1) := by decide +kernel
theorem dX12_quarrel_32 : decode prog_14_method_16_code 32 = .ok (.bipush 9, 2) := by decide +kernel
theorem dX12_quarrel_34 : decode prog_14_method_16_code 34 = .ok (.invokestatic 81, 3) := by decide +kernel
theorem dX12_quarrel_37 : decode prog_14_method_16_code 37 = .ok (.ifCond .eq 14, 3) := by decide +kernel
theorem dX12_quarrel_40 : decode prog_14_method_16_code 40 = .ok (.aload_n 0, 1) := by decide +kernel
theorem dX12_quarrel_41 : decode prog_14_method_16_code 41 = .ok (.getfield 7, 3) := by decide +kernel
theorem dX12_quarrel_44 : decode prog_14_method_16_code 44 = .ok (.iconst 0, 1) := by decide +kernel
theorem dX12_quarrel_45 : decode prog_14_method_16_code 45 = .ok (.iaload, 1) := by decide +kernel
theorem dX12_quarrel_46 : decode prog_14_method_16_code 46 = .ok (.bipush 8, 2) := by decide +kernel
theorem dX12_quarrel_48 : decode prog_14_method_16_code 48 = .ok (.if_icmp .ne 5, 3) := by decide +kernel
theorem dX12_quarrel_51 : decode prog_14_method_16_code 51 = .ok (.iconst (-1), 1) := by decide +kernel
theorem dX12_quarrel_52 : decode prog_14_method_16_code 52 = .ok (.ireturn, 1) := by decide +kernel
theorem dX12_quarrel_53 : decode prog_14_method_16_code 53 = .ok (.aload_n 0, 1) := by decide +kernel
theorem dX12_quarrel_54 : decode prog_14_method_16_code 54 = .ok (.getfield 7, 3) := by decide +kernel
theorem dX12_quarrel_57 : decode prog_14_method_16_code 57 = .ok (.iconst 0, 1) := by decide +kernel
theorem dX12_quarrel_58 : decode prog_14_method_16_code 58 = .ok (.iaload, 1) := by decide +kernel
theorem dX12_quarrel_59 : decode prog_14_method_16_code 59 = .ok (.istore 5, 2) := by decide +kernel
theorem dX12_quarrel_61 : decode prog_14_method_16_code 61 = .ok (.aload_n 0, 1) := by decide +kernel
theorem dX12_quarrel_62 : decode prog_14_method_16_code 62 = .ok (.getfield 7, 3) := by decide +kernel
theorem dX12_quarrel_65 : decode prog_14_method_16_code 65 = .ok (.bipush 36, 2) := by decide +kernel
theorem dX12_quarrel_67 : decode prog_14_method_16_code 67 = .ok (.iconst 2, 1) := by decide +kernel
theorem dX12_quarrel_68 : decode prog_14_method_16_code 68 = .ok (.iload 5, 2) := by decide +kernel
theorem dX12_quarrel_70 : decode prog_14_method_16_code 70 = .ok (.imul, 1) := by decide +kernel
theorem dX12_quarrel_71 : decode prog_14_method_16_code 71 = .ok (.iadd, 1) := by decide +kernel
theorem dX12_quarrel_72 : decode prog_14_method_16_code 72 = .ok (.iload_n 1, 1) := by decide +kernel
theorem dX12_quarrel_73 : decode prog_14_method_16_code 73 = .ok (.iastore, 1) := by decide +kernel
theorem dX12_quarrel_74 : decode prog_14_method_16_code 74 = .ok (.aload_n 0, 1) := by decide +kernel
theorem dX12_quarrel_75 : decode prog_14_method_16_code 75 = .ok (.getfield 7, 3) := by decide +kernel
theorem dX12_quarrel_78 : decode prog_14_method_16_code 78 = .ok (.bipush 36, 2) := by decide +kernel
theorem dX12_quarrel_80 : decode prog_14_method_16_code 80 = .ok (.iconst 2, 1) := by decide +kernel
theorem dX12_quarrel_81 : decode prog_14_method_16_code 81 = .ok (.iload 5, 2) := by decide +kernel
theorem dX12_quarrel_83 : decode prog_14_method_16_code 83 = .ok (.imul, 1) := by decide +kernel
theorem dX12_quarrel_84 : decode prog_14_method_16_code 84 = .ok (.iadd, 1) := by decide +kernel
theorem dX12_quarrel_85 : decode prog_14_method_16_code 85 = .ok (.iconst 1, 1) := by decide +kernel
theorem dX12_quarrel_86 : decode prog_14_method_16_code 86 = .ok (.iadd, 1) := by decide +kernel
theorem dX12_quarrel_87 : decode prog_14_method_16_code 87 = .ok (.iload_n 2, 1) := by decide +kernel
theorem dX12_quarrel_88 : decode prog_14_method_16_code 88 = .ok (.iastore, 1) := by decide +kernel
theorem dX12_quarrel_89 : decode prog_14_method_16_code 89 = .ok (.aload_n 0, 1) := by decide +kernel
theorem dX12_quarrel_90 : decode prog_14_method_16_code 90 = .ok (.getfield 7, 3) := by decide +kernel
theorem dX12_quarrel_93 : decode prog_14_method_16_code 93 = .ok (.bipush 52, 2) := by decide +kernel
theorem dX12_quarrel_95 : decode prog_14_method_16_code 95 = .ok (.iload 5, 2) := by decide +kernel
theorem dX12_quarrel_97 : decode prog_14_method_16_code 97 = .ok (.iadd, 1) := by decide +kernel
theorem dX12_quarrel_98 : decode prog_14_method_16_code 98 = .ok (.iload_n 3, 1) := by decide +kernel
theorem dX12_quarrel_99 : decode prog_14_method_16_code 99 = .ok (.iastore, 1) := by decide +kernel
theorem dX12_quarrel_100 : decode prog_14_method_16_code 100 = .ok (.aload_n 0, 1) := by decide +kernel
theorem dX12_quarrel_101 : decode prog_14_method_16_code 101 = .ok (.getfield 7, 3) := by decide +kernel
theorem dX12_quarrel_104 : decode prog_14_method_16_code 104 = .ok (.bipush 60, 2) := by decide +kernel
theorem dX12_quarrel_106 : decode prog_14_method_16_code 106 = .ok (.iload 5, 2) := by decide +kernel
theorem dX12_quarrel_108 : decode prog_14_method_16_code 108 = .ok (.iadd, 1) := by decide +kernel
theorem dX12_quarrel_109 : decode prog_14_method_16_code 109 = .ok (.iload 4, 2) := by decide +kernel
theorem dX12_quarrel_111 : decode prog_14_method_16_code 111 = .ok (.iastore, 1) := by decide +kernel
theorem dX12_quarrel_112 : decode prog_14_method_16_code 112 = .ok (.aload_n 0, 1) := by decide +kernel
theorem dX12_quarrel_113 : decode prog_14_method_16_code 113 = .ok (.iload 5, 2) := by decide +kernel
theorem dX12_quarrel_115 : decode prog_14_method_16_code 115 = .ok (.invokevirtual 96, 3) := by decide +kernel
theorem dX12_quarrel_118 : decode prog_14_method_16_code 118 = .ok (.aload_n 0, 1) := by decide +kernel
theorem dX12_quarrel_119 : decode prog_14_method_16_code 119 = .ok (.getfield 7, 3) := by decide +kernel
theorem dX12_quarrel_122 : decode prog_14_method_16_code 122 = .ok (.iconst 0, 1) := by decide +kernel
theorem dX12_quarrel_123 : decode prog_14_method_16_code 123 = .ok (.dup2, 1) := by decide +kernel
theorem dX12_quarrel_124 : decode prog_14_method_16_code 124 = .ok (.iaload, 1) := by decide +kernel
theorem dX12_quarrel_125 : decode prog_14_method_16_code 125 = .ok (.iconst 1, 1) := by decide +kernel
theorem dX12_quarrel_126 : decode prog_14_method_16_code 126 = .ok (.iadd, 1) := by decide +kernel
theorem dX12_quarrel_127 : decode prog_14_method_16_code 127 = .ok (.iastore, 1) := by decide +kernel
theorem dX12_quarrel_128 : decode prog_14_method_16_code 128 = .ok (.iload 5, 2) := by decide +kernel
theorem dX12_quarrel_130 : decode prog_14_method_16_code 130 = .ok (.ireturn, 1) := by decide +kernel
theorem sp_X12_quarrel {a b w t : Int} (cs : CS S R) (hA : I 307 = A) (hb : BA A) (ha : Rg a) (hbb : Rg b) (hw : Rg w) (ht : Rg t) (hn : 2 ≤ n) (hp : ∀ I', I' 307 = (f_quarrel A a b w t).2 → F7 I I' → Post (some (.int (iI (f_quarrel A a b w t).1))) S I' R) : Call n 0 0 mX12_quarrel [.ref (S.2.1 306), .int (iI a), .int (iI b), .int (iI w), .int (iI t)] S I R Post := by
  have b0 := hb.1.1
  have b1 := hb.2.1.1
  have b2 := hb.2.1.2.1
  have b3 := hb.2.1.2.2.1
  have b4 := hb.2.1.2.2.2.1
  have b5 := hb.2.1.2.2.2.2.1
  have b6 := hb.2.1.2.2.2.2.2.1
  have b114 := hb.2.1.2.2.2.2.2.2
  have b7 : 0 ≤ A 7 ∧ A 7 ≤ 9999 := hb.1.2.1
  have b8 : 0 ≤ A 8 ∧ A 8 ≤ 30870 := hb.1.2.2.1
  have b9 : 0 ≤ A 9 ∧ A 9 ≤ 9999 := hb.1.2.2.2.1
  have b10 : 0 ≤ A 10 ∧ A 10 ≤ 1 := hb.1.2.2.2.2.1
  have b11 := BA_11 hb
  unfold f_quarrel at hp
  refine Call.of (by decide +kernel) (Nat.le_of_ble_eq_true rfl) ?_
  show WP _ _ _ _ _ 0 [(0, _), (1, _), (2, _), (3, _), (4, _)] [] 0 0 _ _ _
  refine x_iload_n dX12_quarrel_0 rfl ?_
  refine x_callS1 (mc1 := 0) (ms1 := 0) dX12_quarrel_1 cv_RX12_93 (Nat.le_of_ble_eq_true rfl) (n1 := n - 1) (by omega) (by omega) (by omega) ?_
  refine sp_X12_isPerson (by omega) (by omega) (fun r1 hr1 => ?_)
  refine x_if_eq 51 dX12_quarrel_4 (by decide) (by omega) (fun w4 => ?_) (fun w4 => ?_)
  · refine x_iconst dX12_quarrel_51 ?_
    exact x_ireturn dX12_quarrel_52 rfl (by omega) (by omega) (by
    first
      | (rw [if_neg (by omega)] at hp; exact hp _ hA F7.rf)
      | (rw [if_pos (by omega)] at hp
         refine hp _ ?_ F7.rf
         rw [hA]
         unfold goA
         rw [upA_s]))
  · refine x_iload_n dX12_quarrel_7 rfl ?_
    refine x_callS1 (mc1 := 0) (ms1 := 0) dX12_quarrel_8 cv_RX12_93 (Nat.le_of_ble_eq_true rfl) (n1 := n - 1) (by omega) (by omega) (by omega) ?_
    refine sp_X12_isPerson (by omega) (by omega) (fun r8 hr8 => ?_)
    refine x_if_eq 51 dX12_quarrel_11 (by decide) (by omega) (fun w11 => ?_) (fun w11 => ?_)
    · refine x_iconst dX12_quarrel_51 ?_
      exact x_ireturn dX12_quarrel_52 rfl (by omega) (by omega) (by
    first
      | (rw [if_neg (by omega)] at hp; exact hp _ hA F7.rf)
      | (rw [if_pos (by omega)] at hp
         refine hp _ ?_ F7.rf
         rw [hA]
         unfold goA
         rw [upA_s]))
    · refine x_iload_n dX12_quarrel_14 rfl ?_
      refine x_iload_n dX12_quarrel_15 rfl ?_
      refine x_icmp_eq 51 dX12_quarrel_16 (by decide) ⟨(by omega), (by omega)⟩ (fun w16 => ?_) (fun w16 => ?_)
      · refine x_iconst dX12_quarrel_51 ?_
        exact x_ireturn dX12_quarrel_52 rfl (by omega) (by omega) (by
    first
      | (rw [if_neg (by omega)] at hp; exact hp _ hA F7.rf)
      | (rw [if_pos (by omega)] at hp
         refine hp _ ?_ F7.rf
         rw [hA]
         unfold goA
         rw [upA_s]))
      · refine x_iload_n dX12_quarrel_19 rfl ?_
        refine x_iconst dX12_quarrel_20 ?_
        refine x_bipush dX12_quarrel_21 (by decide) ?_
        refine x_callS3 (mc1 := 0) (ms1 := 0) dX12_quarrel_23 cv_RX12_81 (Nat.le_of_ble_eq_true rfl) (n1 := n - 1) (by omega) (by omega) (by omega) ?_
        refine sp_X12_isIn (by omega) (by omega) (by omega) (fun r23 hr23 => ?_)
        refine x_if_eq 51 dX12_quarrel_26 (by decide) (by omega) (fun w26 => ?_) (fun w26 => ?_)
        · refine x_iconst dX12_quarrel_51 ?_
          exact x_ireturn dX12_quarrel_52 rfl (by omega) (by omega) (by
    first
      | (rw [if_neg (by omega)] at hp; exact hp _ hA F7.rf)
      | (rw [if_pos (by omega)] at hp
         refine hp _ ?_ F7.rf
         rw [hA]
         unfold goA
         rw [upA_s]))
        · refine x_iload dX12_quarrel_29 rfl ?_
          refine x_iconst dX12_quarrel_31 ?_
          refine x_bipush dX12_quarrel_32 (by decide) ?_
          refine x_callS3 (mc1 := 0) (ms1 := 0) dX12_quarrel_34 cv_RX12_81 (Nat.le_of_ble_eq_true rfl) (n1 := n - 1) (by omega) (by omega) (by omega) ?_
          refine sp_X12_isIn (by omega) (by omega) (by omega) (fun r34 hr34 => ?_)
          refine x_if_eq 51 dX12_quarrel_37 (by decide) (by omega) (fun w37 => ?_) (fun w37 => ?_)
          · refine x_iconst dX12_quarrel_51 ?_
            exact x_ireturn dX12_quarrel_52 rfl (by omega) (by omega) (by
    first
      | (rw [if_neg (by omega)] at hp; exact hp _ hA F7.rf)
      | (rw [if_pos (by omega)] at hp
         refine hp _ ?_ F7.rf
         rw [hA]
         unfold goA
         rw [upA_s]))
          · refine x_aload_n dX12_quarrel_40 rfl ?_
            refine x_getR (b := 307) dX12_quarrel_41 gf_RX12_7 (k_ob_306 cs) (fun _ _ => rfl) (k_r_306_0 cs) ?_
            refine x_iconst dX12_quarrel_44 ?_
            refine x_ald7 (kk := 0) (v := A 0) dX12_quarrel_45 cs (by omega) (by omega) (by rw [hA]; repeat (first | rfl | rw [upA_s] | rw [upA_o (by omega)])) ?_
            refine x_bipush dX12_quarrel_46 (by decide) ?_
            refine x_icmp_ne 53 dX12_quarrel_48 (by decide) ⟨(by omega), (by omega)⟩ (fun w48 => ?_) (fun w48 => ?_)
            · refine x_aload_n dX12_quarrel_53 rfl ?_
              refine x_getR (b := 307) dX12_quarrel_54 gf_RX12_7 (k_ob_306 cs) (fun _ _ => rfl) (k_r_306_0 cs) ?_
              refine x_iconst dX12_quarrel_57 ?_
              refine x_ald7 (kk := 0) (v := A 0) dX12_quarrel_58 cs (by omega) (by omega) (by rw [hA]; repeat (first | rfl | rw [upA_s] | rw [upA_o (by omega)])) ?_
              refine x_istore (lv2 := [(5, _), (0, _), (1, _), (2, _), (3, _), (4, _)]) dX12_quarrel_59 (by decide) rfl ?_
              refine x_aload_n dX12_quarrel_61 rfl ?_
              refine x_getR (b := 307) dX12_quarrel_62 gf_RX12_7 (k_ob_306 cs) (fun _ _ => rfl) (k_r_306_0 cs) ?_
              refine x_bipush dX12_quarrel_65 (by decide) ?_
              refine x_iconst dX12_quarrel_67 ?_
              refine x_iload dX12_quarrel_68 rfl ?_
              refine x_imul dX12_quarrel_70 ?_
              refine x_iadd dX12_quarrel_71 ?_
              refine x_iload_n dX12_quarrel_72 rfl ?_
              refine x_ast7 (kk := 36 + 2 * (A 0).toNat) dX12_quarrel_73 cs (by omega) (by omega) hA (fun J73 a73 f73 => ?_)
              refine x_aload_n dX12_quarrel_74 rfl ?_
              refine x_getR (b := 307) dX12_quarrel_75 gf_RX12_7 (k_ob_306 cs) (fun _ _ => rfl) (k_r_306_0 cs) ?_
              refine x_bipush dX12_quarrel_78 (by decide) ?_
              refine x_iconst dX12_quarrel_80 ?_
              refine x_iload dX12_quarrel_81 rfl ?_
              refine x_imul dX12_quarrel_83 ?_
              refine x_iadd dX12_quarrel_84 ?_
              refine x_iconst dX12_quarrel_85 ?_
              refine x_iadd dX12_quarrel_86 ?_
              refine x_iload_n dX12_quarrel_87 rfl ?_
              refine x_ast7 (kk := 37 + 2 * (A 0).toNat) dX12_quarrel_88 cs (by omega) (by omega) a73 (fun J88 a88 f88 => ?_)
              refine x_aload_n dX12_quarrel_89 rfl ?_
              refine x_getR (b := 307) dX12_quarrel_90 gf_RX12_7 (k_ob_306 cs) (fun _ _ => rfl) (k_r_306_0 cs) ?_
              refine x_bipush dX12_quarrel_93 (by decide) ?_
              refine x_iload dX12_quarrel_95 rfl ?_
              refine x_iadd dX12_quarrel_97 ?_
              refine x_iload_n dX12_quarrel_98 rfl ?_
              refine x_ast7 (kk := 52 + (A 0).toNat) dX12_quarrel_99 cs (by omega) (by omega) a88 (fun J99 a99 f99 => ?_)
              refine x_aload_n dX12_quarrel_100 rfl ?_
              refine x_getR (b := 307) dX12_quarrel_101 gf_RX12_7 (k_ob_306 cs) (fun _ _ => rfl) (k_r_306_0 cs) ?_
              refine x_bipush dX12_quarrel_104 (by decide) ?_
              refine x_iload dX12_quarrel_106 rfl ?_
              refine x_iadd dX12_quarrel_108 ?_
              refine x_iload dX12_quarrel_109 rfl ?_
              refine x_ast7 (kk := 60 + (A 0).toNat) dX12_quarrel_111 cs (by omega) (by omega) a99 (fun J111 a111 f111 => ?_)
              refine x_aload_n dX12_quarrel_112 rfl ?_
              refine x_iload dX12_quarrel_113 rfl ?_
              refine x_callV1 (mc1 := 0) (ms1 := 0) dX12_quarrel_115 cv_RX12_96 (ci := 12) (k_ob_306 cs) rfl (Nat.le_of_ble_eq_true rfl) (n1 := n - 1) (by omega) (by omega) (by omega) ?_
              refine sp_X12_begin_z cs a111 (by omega) (fun J115 a115 f115 => ?_)
              refine x_aload_n dX12_quarrel_118 rfl ?_
              refine x_getR (b := 307) dX12_quarrel_119 gf_RX12_7 (k_ob_306 cs) (fun _ _ => rfl) (k_r_306_0 cs) ?_
              refine x_iconst dX12_quarrel_122 ?_
              refine x_dup2 dX12_quarrel_123 rfl rfl ?_
              refine x_ald7 (kk := 0) (v := A 0) dX12_quarrel_124 cs (by omega) (by omega) (by rw [a115]; unfold goA; repeat (first | rfl | rw [upA_s] | rw [upA_o (by omega)])) ?_
              refine x_iconst dX12_quarrel_125 ?_
              refine x_iadd dX12_quarrel_126 ?_
              refine x_ast7 (kk := 0) dX12_quarrel_127 cs (by omega) (by omega) a115 (fun J127 a127 f127 => ?_)
              refine x_iload dX12_quarrel_128 rfl ?_
              exact x_ireturn dX12_quarrel_130 rfl (by omega) (by omega) (by
    first
      | (rw [if_neg (by omega)] at hp; exact hp _ a127 ((((((F7.rf.tr f73).tr f88).tr f99).tr f111).tr f115).tr f127))
      | (rw [if_pos (by omega)] at hp
         refine hp _ ?_ ((((((F7.rf.tr f73).tr f88).tr f99).tr f111).tr f115).tr f127)
         rw [a127]
         unfold goA
         rw [upA_s]))
            · refine x_iconst dX12_quarrel_51 ?_
              exact x_ireturn dX12_quarrel_52 rfl (by omega) (by omega) (by
    first
      | (rw [if_neg (by omega)] at hp; exact hp _ hA F7.rf)
      | (rw [if_pos (by omega)] at hp
         refine hp _ ?_ F7.rf
         rw [hA]
         unfold goA
         rw [upA_s]))
theorem dX12_bid_0 : decode prog_14_method_137_code 0 = .ok (.iload_n 1, 1) := by decide +kernel
theorem dX12_bid_1 : decode prog_14_method_137_code 1 = .ok (.iconst (-1), 1) := by decide +kernel
theorem dX12_bid_2 : decode prog_14_method_137_code 2 = .ok (.if_icmp .ne 12, 3) := by decide +kernel
theorem dX12_bid_5 : decode prog_14_method_137_code 5 = .ok (.aload_n 0, 1) := by decide +kernel
theorem dX12_bid_6 : decode prog_14_method_137_code 6 = .ok (.getfield 7, 3) := by decide +kernel
theorem dX12_bid_9 : decode prog_14_method_137_code 9 = .ok (.iconst 5, 1) := by decide +kernel
theorem dX12_bid_10 : decode prog_14_method_137_code 10 = .ok (.iconst 0, 1) := by decide +kernel
theorem dX12_bid_11 : decode prog_14_method_137_code 11 = .ok (.iastore, 1) := by decide +kernel
theorem dX12_bid_12 : decode prog_14_method_137_code 12 = .ok (.iconst 0, 1) := by decide +kernel
theorem dX12_bid_13 : decode prog_14_method_137_code 13 = .ok (.ireturn, 1) := by decide +kernel
theorem dX12_bid_14 : decode prog_14_method_137_code 14 = .ok (.iload_n 1, 1) := by decide +kernel
theorem dX12_bid_15 : decode prog_14_method_137_code 15 = .ok (.iconst 0, 1) := by decide +kernel
theorem dX12_bid_16 : decode prog_14_method_137_code 16 = .ok (.bipush 99, 2) := by decide +kernel
theorem dX12_bid_18 : decode prog_14_method_137_code 18 = .ok (.invokestatic 81, 3) := by decide +kernel
theorem dX12_bid_21 : decode prog_14_method_137_code 21 = .ok (.ifCond .eq 14, 3) := by decide +kernel
theorem dX12_bid_24 : decode prog_14_method_137_code 24 = .ok (.aload_n 0, 1) := by decide +kernel
theorem dX12_bid_25 : decode prog_14_method_137_code 25 = .ok (.getfield 7, 3) := by decide +kernel
theorem dX12_bid_28 : decode prog_14_method_137_code 28 = .ok (.iconst 5, 1) := by decide +kernel
theorem dX12_bid_29 : decode prog_14_method_137_code 29 = .ok (.iaload, 1) := by decide +kernel
theorem dX12_bid_30 : decode prog_14_method_137_code 30 = .ok (.bipush 10, 2) := by decide +kernel
theorem dX12_bid_32 : decode prog_14_method_137_code 32 = .ok (.if_icmp .ne 6, 3) := by decide +kernel
theorem dX12_bid_35 : decode prog_14_method_137_code 35 = .ok (.bipush (-2), 2) := by decide +kernel
theorem dX12_bid_37 : decode prog_14_method_137_code 37 = .ok (.ireturn, 1) := by decide +kernel
theorem dX12_bid_38 : decode prog_14_method_137_code 38 = .ok (.aload_n 0, 1) := by decide +kernel
theorem dX12_bid_39 : decode prog_14_method_137_code 39 = .ok (.getfield 7, 3) := by decide +kernel
theorem dX12_bid_42 : decode prog_14_method_137_code 42 = .ok (.bipush 74, 2) := by decide +kernel
theorem dX12_bid_44 : decode prog_14_method_137_code 44 = .ok (.iconst 2, 1) := by decide +kernel
theorem dX12_bid_45 : decode prog_14_method_137_code 45 = .ok (.aload_n 0, 1) := by decide +kernel
theorem dX12_bid_46 : decode prog_14_method_137_code 46 = .ok (.getfield 7, 3) := by decide +kernel
theorem dX12_bid_49 : decode prog_14_method_137_code 49 = .ok (.iconst 5, 1) := by decide +kernel
theorem dX12_bid_50 : decode prog_14_method_137_code 50 = .ok (.iaload, 1) := by decide +kernel
theorem dX12_bid_51 : decode prog_14_method_137_code 51 = .ok (.imul, 1) := by decide +kernel
theorem dX12_bid_52 : decode prog_14_method_137_code 52 = .ok (.iadd, 1) := by decide +kernel
theorem dX12_bid_53 : decode prog_14_method_137_code 53 = .ok (.iload_n 1, 1) := by decide +kernel
theorem dX12_bid_54 : decode prog_14_method_137_code 54 = .ok (.iastore, 1) := by decide +kernel
theorem dX12_bid_55 : decode prog_14_method_137_code 55 = .ok (.aload_n 0, 1) := by decide +kernel
theorem dX12_bid_56 : decode prog_14_method_137_code 56 = .ok (.getfield 7, 3) := by decide +kernel
theorem dX12_bid_59 : decode prog_14_method_137_code 59 = .ok (.bipush 74, 2) := by decide +kernel
theorem dX12_bid_61 : decode prog_14_method_137_code 61 = .ok (.iconst 2, 1) := by decide +kernel
theorem dX12_bid_62 : decode prog_14_method_137_code 62 = .ok (.aload_n 0, 1) := by decide +kernel
theorem dX12_bid_63 : decode prog_14_method_137_code 63 = .ok (.getfield 7, 3) := by decide +kernel
theorem dX12_bid_66 : decode prog_14_method_137_code 66 = .ok (.iconst 5, 1) := by decide +kernel
theorem dX12_bid_67 : decode prog_14_method_137_code 67 = .ok (.iaload, 1) := by decide +kernel
theorem dX12_bid_68 : decode prog_14_method_137_code 68 = .ok (.imul, 1) := by decide +kernel
theorem dX12_bid_69 : decode prog_14_method_137_code 69 = .ok (.iadd, 1) := by decide +kernel
theorem dX12_bid_70 : decode prog_14_method_137_code 70 = .ok (.iconst 1, 1) := by decide +kernel
theorem dX12_bid_71 : decode prog_14_method_137_code 71 = .ok (.iadd, 1) := by decide +kernel
theorem dX12_bid_72 : decode prog_14_method_137_code 72 = .ok (.iload_n 2, 1) := by decide +kernel
theorem dX12_bid_73 : decode prog_14_method_137_code 73 = .ok (.ifCond .eq 7, 3) := by decide +kernel
theorem dX12_bid_76 : decode prog_14_method_137_code 76 = .ok (.iconst 1, 1) := by decide +kernel
theorem dX12_bid_77 : decode prog_14_method_137_code 77 = .ok (.goto 4, 3) := by decide +kernel
theorem dX12_bid_80 : decode prog_14_method_137_code 80 = .ok (.iconst 0, 1) := by decide +kernel
theorem dX12_bid_81 : decode prog_14_method_137_code 81 = .ok (.iastore, 1) := by decide +kernel
theorem dX12_bid_82 : decode prog_14_method_137_code 82 = .ok (.aload_n 0, 1) := by decide +kernel
theorem dX12_bid_83 : decode prog_14_method_137_code 83 = .ok (.getfield 7, 3) := by decide +kernel
theorem dX12_bid_86 : decode prog_14_method_137_code 86 = .ok (.iconst 5, 1) := by decide +kernel
theorem dX12_bid_87 : decode prog_14_method_137_code 87 = .ok (.dup2, 1) := by decide +kernel
theorem dX12_bid_88 : decode prog_14_method_137_code 88 = .ok (.iaload, 1) := by decide +kernel
theorem dX12_bid_89 : decode prog_14_method_137_code 89 = .ok (.iconst 1, 1) := by decide +kernel
theorem dX12_bid_90 : decode prog_14_method_137_code 90 = .ok (.iadd, 1) := by decide +kernel
theorem dX12_bid_91 : decode prog_14_method_137_code 91 = .ok (.iastore, 1) := by decide +kernel
theorem dX12_bid_92 : decode prog_14_method_137_code 92 = .ok (.aload_n 0, 1) := by decide +kernel
theorem dX12_bid_93 : decode prog_14_method_137_code 93 = .ok (.getfield 7, 3) := by decide +kernel
theorem dX12_bid_96 : decode prog_14_method_137_code 96 = .ok (.iconst 5, 1) := by decide +kernel
theorem dX12_bid_97 : decode prog_14_method_137_code 97 = .ok (.iaload, 1) := by decide +kernel
theorem dX12_bid_98 : decode prog_14_method_137_code 98 = .ok (.ireturn, 1) := by decide +kernel
theorem sp_X12_bid {q d : Int} (cs : CS S R) (hA : I 307 = A) (hb : BA A) (hq : Rg q) (hd : d = 0 ∨ d = 1) (hn : 1 ≤ n) (hp : ∀ I', I' 307 = (f_bid A q d).2 → F7 I I' → Post (some (.int (iI (f_bid A q d).1))) S I' R) : Call n 0 0 mX12_bid [.ref (S.2.1 306), .int (iI q), .int (iI d)] S I R Post := by
  have b0 := hb.1.1
  have b1 := hb.2.1.1
  have b2 := hb.2.1.2.1
  have b3 := hb.2.1.2.2.1
  have b4 := hb.2.1.2.2.2.1
  have b5 := hb.2.1.2.2.2.2.1
  have b6 := hb.2.1.2.2.2.2.2.1
  have b114 := hb.2.1.2.2.2.2.2.2
  have b7 : 0 ≤ A 7 ∧ A 7 ≤ 9999 := hb.1.2.1
  have b8 : 0 ≤ A 8 ∧ A 8 ≤ 30870 := hb.1.2.2.1
  have b9 : 0 ≤ A 9 ∧ A 9 ≤ 9999 := hb.1.2.2.2.1
  have b10 : 0 ≤ A 10 ∧ A 10 ≤ 1 := hb.1.2.2.2.2.1
  have b11 := BA_11 hb
  unfold f_bid at hp
  refine Call.of (by decide +kernel) (Nat.le_of_ble_eq_true rfl) ?_
  show WP _ _ _ _ _ 0 [(0, _), (1, _), (2, _)] [] 0 0 _ _ _
  refine x_iload_n dX12_bid_0 rfl ?_
  refine x_iconst dX12_bid_1 ?_
  refine x_icmp_ne 14 dX12_bid_2 (by decide) ⟨(by omega), (by omega)⟩ (fun w2 => ?_) (fun w2 => ?_)
  · refine x_iload_n dX12_bid_14 rfl ?_
    refine x_iconst dX12_bid_15 ?_
    refine x_bipush dX12_bid_16 (by decide) ?_
    refine x_callS3 (mc1 := 0) (ms1 := 0) dX12_bid_18 cv_RX12_81 (Nat.le_of_ble_eq_true rfl) (n1 := n - 1) (by omega) (by omega) (by omega) ?_
    refine sp_X12_isIn (by omega) (by omega) (by omega) (fun r18 hr18 => ?_)
    refine x_if_eq 35 dX12_bid_21 (by decide) (by omega) (fun w21 => ?_) (fun w21 => ?_)
    · refine x_bipush dX12_bid_35 (by decide) ?_
      exact x_ireturn dX12_bid_37 rfl (by omega) (by omega) (by first | (rw [if_pos (by omega)] at hp; exact hp _ hA F7.rf) | (rw [if_neg (by omega), if_neg (by omega)] at hp; exact hp _ hA F7.rf) | (rcases hd with rfl | rfl <;> first | (exfalso; omega) | (rw [if_neg (by omega), if_pos (by omega)] at hp; exact hp _ hA F7.rf)))
    · refine x_aload_n dX12_bid_24 rfl ?_
      refine x_getR (b := 307) dX12_bid_25 gf_RX12_7 (k_ob_306 cs) (fun _ _ => rfl) (k_r_306_0 cs) ?_
      refine x_iconst dX12_bid_28 ?_
      refine x_ald7 (kk := 5) (v := A 5) dX12_bid_29 cs (by omega) (by omega) (by rw [hA]; repeat (first | rfl | rw [upA_s] | rw [upA_o (by omega)])) ?_
      refine x_bipush dX12_bid_30 (by decide) ?_
      refine x_icmp_ne 38 dX12_bid_32 (by decide) ⟨(by omega), (by omega)⟩ (fun w32 => ?_) (fun w32 => ?_)
      · refine x_aload_n dX12_bid_38 rfl ?_
        refine x_getR (b := 307) dX12_bid_39 gf_RX12_7 (k_ob_306 cs) (fun _ _ => rfl) (k_r_306_0 cs) ?_
        refine x_bipush dX12_bid_42 (by decide) ?_
        refine x_iconst dX12_bid_44 ?_
        refine x_aload_n dX12_bid_45 rfl ?_
        refine x_getR (b := 307) dX12_bid_46 gf_RX12_7 (k_ob_306 cs) (fun _ _ => rfl) (k_r_306_0 cs) ?_
        refine x_iconst dX12_bid_49 ?_
        refine x_ald7 (kk := 5) (v := A 5) dX12_bid_50 cs (by omega) (by omega) (by rw [hA]; repeat (first | rfl | rw [upA_s] | rw [upA_o (by omega)])) ?_
        refine x_imul dX12_bid_51 ?_
        refine x_iadd dX12_bid_52 ?_
        refine x_iload_n dX12_bid_53 rfl ?_
        refine x_ast7 (kk := 74 + 2 * (A 5).toNat) dX12_bid_54 cs (by omega) (by omega) hA (fun J54 a54 f54 => ?_)
        refine x_aload_n dX12_bid_55 rfl ?_
        refine x_getR (b := 307) dX12_bid_56 gf_RX12_7 (k_ob_306 cs) (fun _ _ => rfl) (k_r_306_0 cs) ?_
        refine x_bipush dX12_bid_59 (by decide) ?_
        refine x_iconst dX12_bid_61 ?_
        refine x_aload_n dX12_bid_62 rfl ?_
        refine x_getR (b := 307) dX12_bid_63 gf_RX12_7 (k_ob_306 cs) (fun _ _ => rfl) (k_r_306_0 cs) ?_
        refine x_iconst dX12_bid_66 ?_
        refine x_ald7 (kk := 5) (v := A 5) dX12_bid_67 cs (by omega) (by omega) (by rw [a54]; repeat (first | rfl | rw [upA_s] | rw [upA_o (by omega)])) ?_
        refine x_imul dX12_bid_68 ?_
        refine x_iadd dX12_bid_69 ?_
        refine x_iconst dX12_bid_70 ?_
        refine x_iadd dX12_bid_71 ?_
        refine x_iload_n dX12_bid_72 rfl ?_
        refine x_if_eq 80 dX12_bid_73 (by decide) (by omega) (fun w73 => ?_) (fun w73 => ?_)
        · refine x_iconst dX12_bid_80 ?_
          refine x_ast7 (kk := 75 + 2 * (A 5).toNat) dX12_bid_81 cs (by omega) (by omega) a54 (fun J81 a81 f81 => ?_)
          refine x_aload_n dX12_bid_82 rfl ?_
          refine x_getR (b := 307) dX12_bid_83 gf_RX12_7 (k_ob_306 cs) (fun _ _ => rfl) (k_r_306_0 cs) ?_
          refine x_iconst dX12_bid_86 ?_
          refine x_dup2 dX12_bid_87 rfl rfl ?_
          refine x_ald7 (kk := 5) (v := A 5) dX12_bid_88 cs (by omega) (by omega) (by rw [a81]; repeat (first | rfl | rw [upA_s] | rw [upA_o (by omega)])) ?_
          refine x_iconst dX12_bid_89 ?_
          refine x_iadd dX12_bid_90 ?_
          refine x_ast7 (kk := 5) dX12_bid_91 cs (by omega) (by omega) a81 (fun J91 a91 f91 => ?_)
          refine x_aload_n dX12_bid_92 rfl ?_
          refine x_getR (b := 307) dX12_bid_93 gf_RX12_7 (k_ob_306 cs) (fun _ _ => rfl) (k_r_306_0 cs) ?_
          refine x_iconst dX12_bid_96 ?_
          refine x_ald7 (kk := 5) (v := A 5 + 1) dX12_bid_97 cs (by omega) (by omega) (by rw [a91]; repeat (first | rfl | rw [upA_s] | rw [upA_o (by omega)])) ?_
          exact x_ireturn dX12_bid_98 rfl (by omega) (by omega) (by first | (rw [if_pos (by omega)] at hp; exact hp _ a91 (((F7.rf.tr f54).tr f81).tr f91)) | (rw [if_neg (by omega), if_neg (by omega)] at hp; exact hp _ a91 (((F7.rf.tr f54).tr f81).tr f91)) | (rcases hd with rfl | rfl <;> first | (exfalso; omega) | (rw [if_neg (by omega), if_pos (by omega)] at hp; exact hp _ a91 (((F7.rf.tr f54).tr f81).tr f91))))
        · refine x_iconst dX12_bid_76 ?_
          refine x_goto 81 dX12_bid_77 (by decide) ?_
          refine x_ast7 (kk := 75 + 2 * (A 5).toNat) dX12_bid_81 cs (by omega) (by omega) a54 (fun J81 a81 f81 => ?_)
          refine x_aload_n dX12_bid_82 rfl ?_
          refine x_getR (b := 307) dX12_bid_83 gf_RX12_7 (k_ob_306 cs) (fun _ _ => rfl) (k_r_306_0 cs) ?_
          refine x_iconst dX12_bid_86 ?_
          refine x_dup2 dX12_bid_87 rfl rfl ?_
          refine x_ald7 (kk := 5) (v := A 5) dX12_bid_88 cs (by omega) (by omega) (by rw [a81]; repeat (first | rfl | rw [upA_s] | rw [upA_o (by omega)])) ?_
          refine x_iconst dX12_bid_89 ?_
          refine x_iadd dX12_bid_90 ?_
          refine x_ast7 (kk := 5) dX12_bid_91 cs (by omega) (by omega) a81 (fun J91 a91 f91 => ?_)
          refine x_aload_n dX12_bid_92 rfl ?_
          refine x_getR (b := 307) dX12_bid_93 gf_RX12_7 (k_ob_306 cs) (fun _ _ => rfl) (k_r_306_0 cs) ?_
          refine x_iconst dX12_bid_96 ?_
          refine x_ald7 (kk := 5) (v := A 5 + 1) dX12_bid_97 cs (by omega) (by omega) (by rw [a91]; repeat (first | rfl | rw [upA_s] | rw [upA_o (by omega)])) ?_
          exact x_ireturn dX12_bid_98 rfl (by omega) (by omega) (by first | (rw [if_pos (by omega)] at hp; exact hp _ a91 (((F7.rf.tr f54).tr f81).tr f91)) | (rw [if_neg (by omega), if_neg (by omega)] at hp; exact hp _ a91 (((F7.rf.tr f54).tr f81).tr f91)) | (rcases hd with rfl | rfl <;> first | (exfalso; omega) | (rw [if_neg (by omega), if_pos (by omega)] at hp; exact hp _ a91 (((F7.rf.tr f54).tr f81).tr f91))))
      · refine x_bipush dX12_bid_35 (by decide) ?_
        exact x_ireturn dX12_bid_37 rfl (by omega) (by omega) (by first | (rw [if_pos (by omega)] at hp; exact hp _ hA F7.rf) | (rw [if_neg (by omega), if_neg (by omega)] at hp; exact hp _ hA F7.rf) | (rcases hd with rfl | rfl <;> first | (exfalso; omega) | (rw [if_neg (by omega), if_pos (by omega)] at hp; exact hp _ hA F7.rf)))
  · refine x_aload_n dX12_bid_5 rfl ?_
    refine x_getR (b := 307) dX12_bid_6 gf_RX12_7 (k_ob_306 cs) (fun _ _ => rfl) (k_r_306_0 cs) ?_
    refine x_iconst dX12_bid_9 ?_
    refine x_iconst dX12_bid_10 ?_
    refine x_ast7 (kk := 5) dX12_bid_11 cs (by omega) (by omega) hA (fun J11 a11 f11 => ?_)
    refine x_iconst dX12_bid_12 ?_
    exact x_ireturn dX12_bid_13 rfl (by omega) (by omega) (by first | (rw [if_pos (by omega)] at hp; exact hp _ a11 (F7.rf.tr f11)) | (rw [if_neg (by omega), if_neg (by omega)] at hp; exact hp _ a11 (F7.rf.tr f11)) | (rcases hd with rfl | rfl <;> first | (exfalso; omega) | (rw [if_neg (by omega), if_pos (by omega)] at hp; exact hp _ a11 (F7.rf.tr f11))))
theorem dX12_said_0 : decode prog_14_method_142_code 0 = .ok (.iload_n 1, 1) := by decide +kernel
theorem dX12_said_1 : decode prog_14_method_142_code 1 = .ok (.iconst (-1), 1) := by decide +kernel
theorem dX12_said_2 : decode prog_14_method_142_code 2 = .ok (.if_icmp .ne 13, 3) := by decide +kernel
theorem dX12_said_5 : decode prog_14_method_142_code 5 = .ok (.aload_n 0, 1) := by decide +kernel
theorem dX12_said_6 : decode prog_14_method_142_code 6 = .ok (.getfield 7, 3) := by decide +kernel
theorem dX12_said_9 : decode prog_14_method_142_code 9 = .ok (.bipush 6, 2) := by decide +kernel
theorem dX12_said_11 : decode prog_14_method_142_code 11 = .ok (.iconst 0, 1) := by decide +kernel
theorem dX12_said_12 : decode prog_14_method_142_code 12 = .ok (.iastore, 1) := by decide +kernel
theorem dX12_said_13 : decode prog_14_method_142_code 13 = .ok (.iconst 0, 1) := by decide +kernel
theorem dX12_said_14 : decode prog_14_method_142_code 14 = .ok (.ireturn, 1) := by decide +kernel
theorem dX12_said_15 : decode prog_14_method_142_code 15 = .ok (.aload_n 0, 1) := by decide +kernel
theorem dX12_said_16 : decode prog_14_method_142_code 16 = .ok (.iload_n 1, 1) := by decide +kernel
theorem dX12_said_17 : decode prog_14_method_142_code 17 = .ok (.invokevirtual 342, 3) := by decide +kernel
theorem dX12_said_20 : decode prog_14_method_142_code 20 = .ok (.ifCond .eq 26, 3) := by decide +kernel
theorem dX12_said_23 : decode prog_14_method_142_code 23 = .ok (.iload_n 2, 1) := by decide +kernel
theorem dX12_said_24 : decode prog_14_method_142_code 24 = .ok (.iconst 0, 1) := by decide +kernel
theorem dX12_said_25 : decode prog_14_method_142_code 25 = .ok (.sipush 9999, 3) := by decide +kernel
theorem dX12_said_28 : decode prog_14_method_142_code 28 = .ok (.invokestatic 81, 3) := by decide +kernel
theorem dX12_said_31 : decode prog_14_method_142_code 31 = .ok (.ifCond .eq 15, 3) := by decide +kernel
theorem dX12_said_34 : decode prog_14_method_142_code 34 = .ok (.aload_n 0, 1) := by decide +kernel
theorem dX12_said_35 : decode prog_14_method_142_code 35 = .ok (.getfield 7, 3) := by decide +kernel
theorem dX12_said_38 : decode prog_14_method_142_code 38 = .ok (.bipush 6, 2) := by decide +kernel
theorem dX12_said_40 : decode prog_14_method_142_code 40 = .ok (.iaload, 1) := by decide +kernel
theorem dX12_said_41 : decode prog_14_method_142_code 41 = .ok (.bipush 8, 2) := by decide +kernel
theorem dX12_said_43 : decode prog_14_method_142_code 43 = .ok (.if_icmp .ne 6, 3) := by decide +kernel
theorem dX12_said_46 : decode prog_14_method_142_code 46 = .ok (.bipush (-2), 2) := by decide +kernel
theorem dX12_said_48 : decode prog_14_method_142_code 48 = .ok (.ireturn, 1) := by decide +kernel
theorem dX12_said_49 : decode prog_14_method_142_code 49 = .ok (.aload_n 0, 1) := by decide +kernel
theorem dX12_said_50 : decode prog_14_method_142_code 50 = .ok (.getfield 7, 3) := by decide +kernel
theorem dX12_said_53 : decode prog_14_method_142_code 53 = .ok (.bipush 94, 2) := by decide +kernel
theorem dX12_said_55 : decode prog_14_method_142_code 55 = .ok (.iconst 2, 1) := by decide +kernel
theorem dX12_said_56 : decode prog_14_method_142_code 56 = .ok (.aload_n 0, 1) := by decide +kernel
theorem dX12_said_57 : decode prog_14_method_142_code 57 = .ok (.getfield 7, 3) := by decide +kernel
theorem dX12_said_60 : decode prog_14_method_142_code 60 = .ok (.bipush 6, 2) := by decide +kernel
theorem dX12_said_62 : decode prog_14_method_142_code 62 = .ok (.iaload, 1) := by decide +kernel
theorem dX12_said_63 : decode prog_14_method_142_code 63 = .ok (.imul, 1) := by decide +kernel
theorem dX12_said_64 : decode prog_14_method_142_code 64 = .ok (.iadd, 1) := by decide +kernel
theorem dX12_said_65 : decode prog_14_method_142_code 65 = .ok (.iload_n 1, 1) := by decide +kernel
theorem dX12_said_66 : decode prog_14_method_142_code 66 = .ok (.iastore, 1) := by decide +kernel
theorem dX12_said_67 : decode prog_14_method_142_code 67 = .ok (.aload_n 0, 1) := by decide +kernel
theorem dX12_said_68 : decode prog_14_method_142_code 68 = .ok (.getfield 7, 3) := by decide +kernel
theorem dX12_said_71 : decode prog_14_method_142_code 71 = .ok (.bipush 94, 2) := by decide +kernel
theorem dX12_said_73 : decode prog_14_method_142_code 73 = .ok (.iconst 2, 1) := by decide +kernel
theorem dX12_said_74 : decode prog_14_method_142_code 74 = .ok (.aload_n 0, 1) := by decide +kernel
theorem dX12_said_75 : decode prog_14_method_142_code 75 = .ok (.getfield 7, 3) := by decide +kernel
theorem dX12_said_78 : decode prog_14_method_142_code 78 = .ok (.bipush 6, 2) := by decide +kernel
theorem dX12_said_80 : decode prog_14_method_142_code 80 = .ok (.iaload, 1) := by decide +kernel
theorem dX12_said_81 : decode prog_14_method_142_code 81 = .ok (.imul, 1) := by decide +kernel
theorem dX12_said_82 : decode prog_14_method_142_code 82 = .ok (.iadd, 1) := by decide +kernel
theorem dX12_said_83 : decode prog_14_method_142_code 83 = .ok (.iconst 1, 1) := by decide +kernel
theorem dX12_said_84 : decode prog_14_method_142_code 84 = .ok (.iadd, 1) := by decide +kernel
theorem dX12_said_85 : decode prog_14_method_142_code 85 = .ok (.iload_n 2, 1) := by decide +kernel
theorem dX12_said_86 : decode prog_14_method_142_code 86 = .ok (.iastore, 1) := by decide +kernel
theorem dX12_said_87 : decode prog_14_method_142_code 87 = .ok (.aload_n 0, 1) := by decide +kernel
theorem dX12_said_88 : decode prog_14_method_142_code 88 = .ok (.getfield 7, 3) := by decide +kernel
theorem dX12_said_91 : decode prog_14_method_142_code 91 = .ok (.bipush 6, 2) := by decide +kernel
theorem dX12_said_93 : decode prog_14_method_142_code 93 = .ok (.dup2, 1) := by decide +kernel
theorem dX12_said_94 : decode prog_14_method_142_code 94 = .ok (.iaload, 1) := by decide +kernel
theorem dX12_said_95 : decode prog_14_method_142_code 95 = .ok (.iconst 1, 1) := by decide +kernel
theorem dX12_said_96 : decode prog_14_method_142_code 96 = .ok (.iadd, 1) := by decide +kernel
theorem dX12_said_97 : decode prog_14_method_142_code 97 = .ok (.iastore, 1) := by decide +kernel
theorem dX12_said_98 : decode prog_14_method_142_code 98 = .ok (.aload_n 0, 1) := by decide +kernel
theorem dX12_said_99 : decode prog_14_method_142_code 99 = .ok (.getfield 7, 3) := by decide +kernel
theorem dX12_said_102 : decode prog_14_method_142_code 102 = .ok (.bipush 6, 2) := by decide +kernel
theorem dX12_said_104 : decode prog_14_method_142_code 104 = .ok (.iaload, 1) := by decide +kernel
theorem dX12_said_105 : decode prog_14_method_142_code 105 = .ok (.ireturn, 1) := by decide +kernel
theorem sp_X12_said {q d : Int} (cs : CS S R) (hA : I 307 = A) (hb : BA A) (hq : Rg q) (hd : Rg d) (hn : 2 ≤ n) (hp : ∀ I', I' 307 = (f_said A q d).2 → F7 I I' → Post (some (.int (iI (f_said A q d).1))) S I' R) : Call n 0 0 mX12_said [.ref (S.2.1 306), .int (iI q), .int (iI d)] S I R Post := by
  have b0 := hb.1.1
  have b1 := hb.2.1.1
  have b2 := hb.2.1.2.1
  have b3 := hb.2.1.2.2.1
  have b4 := hb.2.1.2.2.2.1
  have b5 := hb.2.1.2.2.2.2.1
  have b6 := hb.2.1.2.2.2.2.2.1
  have b114 := hb.2.1.2.2.2.2.2.2
  have b7 : 0 ≤ A 7 ∧ A 7 ≤ 9999 := hb.1.2.1
  have b8 : 0 ≤ A 8 ∧ A 8 ≤ 30870 := hb.1.2.2.1
  have b9 : 0 ≤ A 9 ∧ A 9 ≤ 9999 := hb.1.2.2.2.1
  have b10 : 0 ≤ A 10 ∧ A 10 ≤ 1 := hb.1.2.2.2.2.1
  have b11 := BA_11 hb
  unfold f_said at hp
  refine Call.of (by decide +kernel) (Nat.le_of_ble_eq_true rfl) ?_
  show WP _ _ _ _ _ 0 [(0, _), (1, _), (2, _)] [] 0 0 _ _ _
  refine x_iload_n dX12_said_0 rfl ?_
  refine x_iconst dX12_said_1 ?_
  refine x_icmp_ne 15 dX12_said_2 (by decide) ⟨(by omega), (by omega)⟩ (fun w2 => ?_) (fun w2 => ?_)
  · refine x_aload_n dX12_said_15 rfl ?_
    refine x_iload_n dX12_said_16 rfl ?_
    refine x_callV1 (mc1 := 0) (ms1 := 0) dX12_said_17 cv_RX12_342 (ci := 12) (k_ob_306 cs) rfl (Nat.le_of_ble_eq_true rfl) (n1 := n - 1) (by omega) (by omega) (by omega) ?_
    refine sp_X12_isQuarrel cs hA (by omega) (by omega) (by omega) (fun r17 hr17 => ?_)
    refine x_if_eq 46 dX12_said_20 (by decide) (by omega) (fun w20 => ?_) (fun w20 => ?_)
    · refine x_bipush dX12_said_46 (by decide) ?_
      exact x_ireturn dX12_said_48 rfl (by omega) (by omega) (by first | (rw [if_pos (by omega)] at hp; exact hp _ hA F7.rf) | (rw [if_neg (by omega), if_neg (by omega)] at hp; exact hp _ hA F7.rf) | (rw [if_neg (by omega), if_pos (by omega)] at hp; exact hp _ hA F7.rf))
    · refine x_iload_n dX12_said_23 rfl ?_
      refine x_iconst dX12_said_24 ?_
      refine x_sipush dX12_said_25 (by decide) ?_
      refine x_callS3 (mc1 := 0) (ms1 := 0) dX12_said_28 cv_RX12_81 (Nat.le_of_ble_eq_true rfl) (n1 := n - 1) (by omega) (by omega) (by omega) ?_
      refine sp_X12_isIn (by omega) (by omega) (by omega) (fun r28 hr28 => ?_)
      refine x_if_eq 46 dX12_said_31 (by decide) (by omega) (fun w31 => ?_) (fun w31 => ?_)
      · refine x_bipush dX12_said_46 (by decide) ?_
        exact x_ireturn dX12_said_48 rfl (by omega) (by omega) (by first | (rw [if_pos (by omega)] at hp; exact hp _ hA F7.rf) | (rw [if_neg (by omega), if_neg (by omega)] at hp; exact hp _ hA F7.rf) | (rw [if_neg (by omega), if_pos (by omega)] at hp; exact hp _ hA F7.rf))
      · refine x_aload_n dX12_said_34 rfl ?_
        refine x_getR (b := 307) dX12_said_35 gf_RX12_7 (k_ob_306 cs) (fun _ _ => rfl) (k_r_306_0 cs) ?_
        refine x_bipush dX12_said_38 (by decide) ?_
        refine x_ald7 (kk := 6) (v := A 6) dX12_said_40 cs (by omega) (by omega) (by rw [hA]; repeat (first | rfl | rw [upA_s] | rw [upA_o (by omega)])) ?_
        refine x_bipush dX12_said_41 (by decide) ?_
        refine x_icmp_ne 49 dX12_said_43 (by decide) ⟨(by omega), (by omega)⟩ (fun w43 => ?_) (fun w43 => ?_)
        · refine x_aload_n dX12_said_49 rfl ?_
          refine x_getR (b := 307) dX12_said_50 gf_RX12_7 (k_ob_306 cs) (fun _ _ => rfl) (k_r_306_0 cs) ?_
          refine x_bipush dX12_said_53 (by decide) ?_
          refine x_iconst dX12_said_55 ?_
          refine x_aload_n dX12_said_56 rfl ?_
          refine x_getR (b := 307) dX12_said_57 gf_RX12_7 (k_ob_306 cs) (fun _ _ => rfl) (k_r_306_0 cs) ?_
          refine x_bipush dX12_said_60 (by decide) ?_
          refine x_ald7 (kk := 6) (v := A 6) dX12_said_62 cs (by omega) (by omega) (by rw [hA]; repeat (first | rfl | rw [upA_s] | rw [upA_o (by omega)])) ?_
          refine x_imul dX12_said_63 ?_
          refine x_iadd dX12_said_64 ?_
          refine x_iload_n dX12_said_65 rfl ?_
          refine x_ast7 (kk := 94 + 2 * (A 6).toNat) dX12_said_66 cs (by omega) (by omega) hA (fun J66 a66 f66 => ?_)
          refine x_aload_n dX12_said_67 rfl ?_
          refine x_getR (b := 307) dX12_said_68 gf_RX12_7 (k_ob_306 cs) (fun _ _ => rfl) (k_r_306_0 cs) ?_
          refine x_bipush dX12_said_71 (by decide) ?_
          refine x_iconst dX12_said_73 ?_
          refine x_aload_n dX12_said_74 rfl ?_
          refine x_getR (b := 307) dX12_said_75 gf_RX12_7 (k_ob_306 cs) (fun _ _ => rfl) (k_r_306_0 cs) ?_
          refine x_bipush dX12_said_78 (by decide) ?_
          refine x_ald7 (kk := 6) (v := A 6) dX12_said_80 cs (by omega) (by omega) (by rw [a66]; repeat (first | rfl | rw [upA_s] | rw [upA_o (by omega)])) ?_
          refine x_imul dX12_said_81 ?_
          refine x_iadd dX12_said_82 ?_
          refine x_iconst dX12_said_83 ?_
          refine x_iadd dX12_said_84 ?_
          refine x_iload_n dX12_said_85 rfl ?_
          refine x_ast7 (kk := 95 + 2 * (A 6).toNat) dX12_said_86 cs (by omega) (by omega) a66 (fun J86 a86 f86 => ?_)
          refine x_aload_n dX12_said_87 rfl ?_
          refine x_getR (b := 307) dX12_said_88 gf_RX12_7 (k_ob_306 cs) (fun _ _ => rfl) (k_r_306_0 cs) ?_
          refine x_bipush dX12_said_91 (by decide) ?_
          refine x_dup2 dX12_said_93 rfl rfl ?_
          refine x_ald7 (kk := 6) (v := A 6) dX12_said_94 cs (by omega) (by omega) (by rw [a86]; repeat (first | rfl | rw [upA_s] | rw [upA_o (by omega)])) ?_
          refine x_iconst dX12_said_95 ?_
          refine x_iadd dX12_said_96 ?_
          refine x_ast7 (kk := 6) dX12_said_97 cs (by omega) (by omega) a86 (fun J97 a97 f97 => ?_)
          refine x_aload_n dX12_said_98 rfl ?_
          refine x_getR (b := 307) dX12_said_99 gf_RX12_7 (k_ob_306 cs) (fun _ _ => rfl) (k_r_306_0 cs) ?_
          refine x_bipush dX12_said_102 (by decide) ?_
          refine x_ald7 (kk := 6) (v := A 6 + 1) dX12_said_104 cs (by omega) (by omega) (by rw [a97]; repeat (first | rfl | rw [upA_s] | rw [upA_o (by omega)])) ?_
          exact x_ireturn dX12_said_105 rfl (by omega) (by omega) (by first | (rw [if_pos (by omega)] at hp; exact hp _ a97 (((F7.rf.tr f66).tr f86).tr f97)) | (rw [if_neg (by omega), if_neg (by omega)] at hp; exact hp _ a97 (((F7.rf.tr f66).tr f86).tr f97)) | (rw [if_neg (by omega), if_pos (by omega)] at hp; exact hp _ a97 (((F7.rf.tr f66).tr f86).tr f97)))
        · refine x_bipush dX12_said_46 (by decide) ?_
          exact x_ireturn dX12_said_48 rfl (by omega) (by omega) (by first | (rw [if_pos (by omega)] at hp; exact hp _ hA F7.rf) | (rw [if_neg (by omega), if_neg (by omega)] at hp; exact hp _ hA F7.rf) | (rw [if_neg (by omega), if_pos (by omega)] at hp; exact hp _ hA F7.rf))
  · refine x_aload_n dX12_said_5 rfl ?_
    refine x_getR (b := 307) dX12_said_6 gf_RX12_7 (k_ob_306 cs) (fun _ _ => rfl) (k_r_306_0 cs) ?_
    refine x_bipush dX12_said_9 (by decide) ?_
    refine x_iconst dX12_said_11 ?_
    refine x_ast7 (kk := 6) dX12_said_12 cs (by omega) (by omega) hA (fun J12 a12 f12 => ?_)
    refine x_iconst dX12_said_13 ?_
    exact x_ireturn dX12_said_14 rfl (by omega) (by omega) (by first | (rw [if_pos (by omega)] at hp; exact hp _ a12 (F7.rf.tr f12)) | (rw [if_neg (by omega), if_neg (by omega)] at hp; exact hp _ a12 (F7.rf.tr f12)) | (rw [if_neg (by omega), if_pos (by omega)] at hp; exact hp _ a12 (F7.rf.tr f12)))
/-- what stands in the book, as the reference keeps it -/
def BK (A : Nat → Int) : Prop := ∀ i : Nat, (i : Int) < A 11 → 0 ≤ A (2815 + i) ∧ A (2815 + i) ≤ 300000
theorem BK_of {b : Nat} (hc : ClW I b A) : BK A := by
  intro i hi
  have h := hc.2.2.1 i hi
  omega
def entP (A : Nat → Int) (i : Nat) (w : Int) : Int := if w = 0 then A (2815 + i) / 24 else if w = 1 then A (2815 + i) / 3 % 8 else if w = 2 then A (2815 + i) % 3 else A (2845 + i)
theorem dX12_entry_0 : decode prog_14_method_99_code 0 = .ok (.aload_n 0, 1) := by decide +kernel
theorem dX12_entry_1 : decode prog_14_method_99_code 1 = .ok (.getfield 7, 3) := by decide +kernel
theorem dX12_entry_4 : decode prog_14_method_99_code 4 = .ok (.sipush 2815, 3) := by decide +kernel
theorem dX12_entry_7 : decode prog_14_method_99_code 7 = .ok (.iload_n 1, 1) := by decide +kernel
theorem dX12_entry_8 : decode prog_14_method_99_code 8 = .ok (.iadd, 1) := by decide +kernel
theorem dX12_entry_9 : decode prog_14_method_99_code 9 = .ok (.iaload, 1) := by decide +kernel
theorem dX12_entry_10 : decode prog_14_method_99_code 10 = .ok (.istore_n 3, 1) := by decide +kernel
theorem dX12_entry_11 : decode prog_14_method_99_code 11 = .ok (.iload_n 2, 1) := by decide +kernel
theorem dX12_entry_12 : decode prog_14_method_99_code 12 = .ok (.ifCond .ne 10, 3) := by decide +kernel
theorem dX12_entry_15 : decode prog_14_method_99_code 15 = .ok (.iload_n 3, 1) := by decide +kernel
theorem dX12_entry_16 : decode prog_14_method_99_code 16 = .ok (.bipush 24, 2) := by decide +kernel
theorem dX12_entry_18 : decode prog_14_method_99_code 18 = .ok (.idiv, 1) := by decide +kernel
theorem dX12_entry_19 : decode prog_14_method_99_code 19 = .ok (.goto 38, 3) := by decide +kernel
theorem dX12_entry_22 : decode prog_14_method_99_code 22 = .ok (.iload_n 2, 1) := by decide +kernel
theorem dX12_entry_23 : decode prog_14_method_99_code 23 = .ok (.iconst 1, 1) := by decide +kernel
theorem dX12_entry_24 : decode prog_14_method_99_code 24 = .ok (.if_icmp .ne 12, 3) := by decide +kernel
theorem dX12_entry_27 : decode prog_14_method_99_code 27 = .ok (.iload_n 3, 1) := by decide +kernel
theorem dX12_entry_28 : decode prog_14_method_99_code 28 = .ok (.iconst 3, 1) := by decide +kernel
theorem dX12_entry_29 : decode prog_14_method_99_code 29 = .ok (.idiv, 1) := by decide +kernel
theorem dX12_entry_30 : decode prog_14_method_99_code 30 = .ok (.bipush 8, 2) := by decide +kernel
theorem dX12_entry_32 : decode prog_14_method_99_code 32 = .ok (.irem, 1) := by decide +kernel
theorem dX12_entry_33 : decode prog_14_method_99_code 33 = .ok (.goto 24, 3) := by decide +kernel
theorem dX12_entry_36 : decode prog_14_method_99_code 36 = .ok (.iload_n 2, 1) := by decide +kernel
theorem dX12_entry_37 : decode prog_14_method_99_code 37 = .ok (.iconst 2, 1) := by decide +kernel
theorem dX12_entry_38 : decode prog_14_method_99_code 38 = .ok (.if_icmp .ne 9, 3) := by decide +kernel
theorem dX12_entry_41 : decode prog_14_method_99_code 41 = .ok (.iload_n 3, 1) := by decide +kernel
theorem dX12_entry_42 : decode prog_14_method_99_code 42 = .ok (.iconst 3, 1) := by decide +kernel
theorem dX12_entry_43 : decode prog_14_method_99_code 43 = .ok (.irem, 1) := by decide +kernel
theorem dX12_entry_44 : decode prog_14_method_99_code 44 = .ok (.goto 13, 3) := by decide +kernel
theorem dX12_entry_47 : decode prog_14_method_99_code 47 = .ok (.aload_n 0, 1) := by decide +kernel
theorem dX12_entry_48 : decode prog_14_method_99_code 48 = .ok (.getfield 7, 3) := by decide +kernel
theorem dX12_entry_51 : decode prog_14_method_99_code 51 = .ok (.sipush 2845, 3) := by decide +kernel
theorem dX12_entry_54 : decode prog_14_method_99_code 54 = .ok (.iload_n 1, 1) := by decide +kernel
theorem dX12_entry_55 : decode prog_14_method_99_code 55 = .ok (.iadd, 1) := by decide +kernel
theorem dX12_entry_56 : decode prog_14_method_99_code 56 = .ok (.iaload, 1) := by decide +kernel
theorem dX12_entry_57 : decode prog_14_method_99_code 57 = .ok (.ireturn, 1) := by decide +kernel
theorem sp_X12_entry {i : Nat} {w : Int} (cs : CS S R) (hA : I 307 = A) (hi : i < 30) (hv : 0 ≤ A (2815 + i) ∧ A (2815 + i) ≤ 300000) (hw : Rg w) (hp : Post (some (.int (iI (entP A i w)))) S I R) : Call n 0 0 mX12_entry [.ref (S.2.1 306), .int (iI (i : Int)), .int (iI w)] S I R Post := by
  unfold entP at hp
  refine Call.of (by decide +kernel) (Nat.le_of_ble_eq_true rfl) ?_
  show WP _ _ _ _ _ 0 [(0, _), (1, _), (2, _)] [] 0 0 _ _ _
  refine x_aload_n dX12_entry_0 rfl ?_
  refine x_getR (b := 307) dX12_entry_1 gf_RX12_7 (k_ob_306 cs) (fun _ _ => rfl) (k_r_306_0 cs) ?_
  refine x_sipush dX12_entry_4 (by decide) ?_
  refine x_iload_n dX12_entry_7 rfl ?_
  refine x_iadd dX12_entry_8 ?_
  refine x_ald7 (kk := 2815 + i) (v := A (2815 + i)) dX12_entry_9 cs (by omega) (by omega) (by rw [hA]; repeat (first | rfl | rw [upA_s] | rw [upA_o (by omega)])) ?_
  refine x_istore_n (lv2 := [(3, _), (0, _), (1, _), (2, _)]) dX12_entry_10 (by decide) rfl ?_
  refine x_iload_n dX12_entry_11 rfl ?_
  refine x_if_ne 22 dX12_entry_12 (by decide) (by omega) (fun w12 => ?_) (fun w12 => ?_)
  · refine x_iload_n dX12_entry_22 rfl ?_
    refine x_iconst dX12_entry_23 ?_
    refine x_icmp_ne 36 dX12_entry_24 (by decide) ⟨(by omega), (by omega)⟩ (fun w24 => ?_) (fun w24 => ?_)
    · refine x_iload_n dX12_entry_36 rfl ?_
      refine x_iconst dX12_entry_37 ?_
      refine x_icmp_ne 47 dX12_entry_38 (by decide) ⟨(by omega), (by omega)⟩ (fun w38 => ?_) (fun w38 => ?_)
      · refine x_aload_n dX12_entry_47 rfl ?_
        refine x_getR (b := 307) dX12_entry_48 gf_RX12_7 (k_ob_306 cs) (fun _ _ => rfl) (k_r_306_0 cs) ?_
        refine x_sipush dX12_entry_51 (by decide) ?_
        refine x_iload_n dX12_entry_54 rfl ?_
        refine x_iadd dX12_entry_55 ?_
        refine x_ald7 (kk := 2845 + i) (v := A (2845 + i)) dX12_entry_56 cs (by omega) (by omega) (by rw [hA]; repeat (first | rfl | rw [upA_s] | rw [upA_o (by omega)])) ?_
        exact x_ireturn dX12_entry_57 rfl (by omega) (by omega) (by first | (rw [if_pos (by omega)] at hp; exact hp) | (rw [if_neg (by omega), if_pos (by omega)] at hp; exact hp) | (rw [if_neg (by omega), if_neg (by omega), if_pos (by omega)] at hp; exact hp) | (rw [if_neg (by omega), if_neg (by omega), if_neg (by omega)] at hp; exact hp))
      · refine x_iload_n dX12_entry_41 rfl ?_
        refine x_iconst dX12_entry_42 ?_
        refine x_irem dX12_entry_43 (by omega) ?_
        refine x_goto 57 dX12_entry_44 (by decide) ?_
        exact x_ireturn dX12_entry_57 rfl (by omega) (by omega) (by first | (rw [if_pos (by omega)] at hp; exact hp) | (rw [if_neg (by omega), if_pos (by omega)] at hp; exact hp) | (rw [if_neg (by omega), if_neg (by omega), if_pos (by omega)] at hp; exact hp) | (rw [if_neg (by omega), if_neg (by omega), if_neg (by omega)] at hp; exact hp))
    · refine x_iload_n dX12_entry_27 rfl ?_
      refine x_iconst dX12_entry_28 ?_
      refine x_idiv dX12_entry_29 (by omega) ?_
      refine x_bipush dX12_entry_30 (by decide) ?_
      refine x_irem dX12_entry_32 (by omega) ?_
      refine x_goto 57 dX12_entry_33 (by decide) ?_
      exact x_ireturn dX12_entry_57 rfl (by omega) (by omega) (by first | (rw [if_pos (by omega)] at hp; exact hp) | (rw [if_neg (by omega), if_pos (by omega)] at hp; exact hp) | (rw [if_neg (by omega), if_neg (by omega), if_pos (by omega)] at hp; exact hp) | (rw [if_neg (by omega), if_neg (by omega), if_neg (by omega)] at hp; exact hp))
  · refine x_iload_n dX12_entry_15 rfl ?_
    refine x_bipush dX12_entry_16 (by decide) ?_
    refine x_idiv dX12_entry_18 (by omega) ?_
    refine x_goto 57 dX12_entry_19 (by decide) ?_
    exact x_ireturn dX12_entry_57 rfl (by omega) (by omega) (by first | (rw [if_pos (by omega)] at hp; exact hp) | (rw [if_neg (by omega), if_pos (by omega)] at hp; exact hp) | (rw [if_neg (by omega), if_neg (by omega), if_pos (by omega)] at hp; exact hp) | (rw [if_neg (by omega), if_neg (by omega), if_neg (by omega)] at hp; exact hp))
theorem dX12_book_0 : decode prog_14_method_100_code 0 = .ok (.iload_n 1, 1) := by decide +kernel
theorem dX12_book_1 : decode prog_14_method_100_code 1 = .ok (.iconst (-1), 1) := by decide +kernel
theorem dX12_book_2 : decode prog_14_method_100_code 2 = .ok (.if_icmp .ne 11, 3) := by decide +kernel
theorem dX12_book_5 : decode prog_14_method_100_code 5 = .ok (.aload_n 0, 1) := by decide +kernel
theorem dX12_book_6 : decode prog_14_method_100_code 6 = .ok (.getfield 7, 3) := by decide +kernel
theorem dX12_book_9 : decode prog_14_method_100_code 9 = .ok (.bipush 11, 2) := by decide +kernel
theorem dX12_book_11 : decode prog_14_method_100_code 11 = .ok (.iaload, 1) := by decide +kernel
theorem dX12_book_12 : decode prog_14_method_100_code 12 = .ok (.ireturn, 1) := by decide +kernel
theorem dX12_book_13 : decode prog_14_method_100_code 13 = .ok (.iload_n 1, 1) := by decide +kernel
theorem dX12_book_14 : decode prog_14_method_100_code 14 = .ok (.iconst 0, 1) := by decide +kernel
theorem dX12_book_15 : decode prog_14_method_100_code 15 = .ok (.aload_n 0, 1) := by decide +kernel
theorem dX12_book_16 : decode prog_14_method_100_code 16 = .ok (.getfield 7, 3) := by decide +kernel
theorem dX12_book_19 : decode prog_14_method_100_code 19 = .ok (.bipush 11, 2) := by decide +kernel
theorem dX12_book_21 : decode prog_14_method_100_code 21 = .ok (.iaload, 1) := by decide +kernel
theorem dX12_book_22 : decode prog_14_method_100_code 22 = .ok (.iconst 1, 1) := by decide +kernel
theorem dX12_book_23 : decode prog_14_method_100_code 23 = .ok (.isub, 1) := by decide +kernel
theorem dX12_book_24 : decode prog_14_method_100_code 24 = .ok (.invokestatic 81, 3) := by decide +kernel
theorem dX12_book_27 : decode prog_14_method_100_code 27 = .ok (.ifCond .eq 21, 3) := by decide +kernel
theorem dX12_book_30 : decode prog_14_method_100_code 30 = .ok (.iload_n 2, 1) := by decide +kernel
theorem dX12_book_31 : decode prog_14_method_100_code 31 = .ok (.iconst 0, 1) := by decide +kernel
theorem dX12_book_32 : decode prog_14_method_100_code 32 = .ok (.iconst 3, 1) := by decide +kernel
theorem dX12_book_33 : decode prog_14_method_100_code 33 = .ok (.invokestatic 81, 3) := by decide +kernel
theorem dX12_book_36 : decode prog_14_method_100_code 36 = .ok (.ifCond .eq 12, 3) := by decide +kernel
theorem dX12_book_39 : decode prog_14_method_100_code 39 = .ok (.aload_n 0, 1) := by decide +kernel
theorem dX12_book_40 : decode prog_14_method_100_code 40 = .ok (.iload_n 1, 1) := by decide +kernel
theorem dX12_book_41 : decode prog_14_method_100_code 41 = .ok (.iload_n 2, 1) := by decide +kernel
theorem dX12_book_42 : decode prog_14_method_100_code 42 = .ok (.invokevirtual 405, 3) := by decide +kernel
theorem dX12_book_45 : decode prog_14_method_100_code 45 = .ok (.goto 5, 3) := by decide +kernel
theorem dX12_book_48 : decode prog_14_method_100_code 48 = .ok (.bipush (-2), 2) := by decide +kernel
theorem dX12_book_50 : decode prog_14_method_100_code 50 = .ok (.ireturn, 1) := by decide +kernel
theorem sp_X12_book {i w : Int} (cs : CS S R) (hA : I 307 = A) (hb : BA A) (hk : BK A) (hi : Rg i) (hw : Rg w) (hn : 1 ≤ n) (hp : Post (some (.int (iI (f_book A i w)))) S I R) : Call n 0 0 mX12_book [.ref (S.2.1 306), .int (iI i), .int (iI w)] S I R Post := by
  have b0 := hb.1.1
  have b1 := hb.2.1.1
  have b2 := hb.2.1.2.1
  have b3 := hb.2.1.2.2.1
  have b4 := hb.2.1.2.2.2.1
  have b5 := hb.2.1.2.2.2.2.1
  have b6 := hb.2.1.2.2.2.2.2.1
  have b114 := hb.2.1.2.2.2.2.2.2
  have b7 : 0 ≤ A 7 ∧ A 7 ≤ 9999 := hb.1.2.1
  have b8 : 0 ≤ A 8 ∧ A 8 ≤ 30870 := hb.1.2.2.1
  have b9 : 0 ≤ A 9 ∧ A 9 ≤ 9999 := hb.1.2.2.2.1
  have b10 : 0 ≤ A 10 ∧ A 10 ≤ 1 := hb.1.2.2.2.2.1
  have b11 := BA_11 hb
  unfold f_book at hp
  refine Call.of (by decide +kernel) (Nat.le_of_ble_eq_true rfl) ?_
  show WP _ _ _ _ _ 0 [(0, _), (1, _), (2, _)] [] 0 0 _ _ _
  refine x_iload_n dX12_book_0 rfl ?_
  refine x_iconst dX12_book_1 ?_
  refine x_icmp_ne 13 dX12_book_2 (by decide) ⟨(by omega), (by omega)⟩ (fun w2 => ?_) (fun w2 => ?_)
  · refine x_iload_n dX12_book_13 rfl ?_
    refine x_iconst dX12_book_14 ?_
    refine x_aload_n dX12_book_15 rfl ?_
    refine x_getR (b := 307) dX12_book_16 gf_RX12_7 (k_ob_306 cs) (fun _ _ => rfl) (k_r_306_0 cs) ?_
    refine x_bipush dX12_book_19 (by decide) ?_
    refine x_ald7 (kk := 11) (v := A 11) dX12_book_21 cs (by omega) (by omega) (by rw [hA]; repeat (first | rfl | rw [upA_s] | rw [upA_o (by omega)])) ?_
    refine x_iconst dX12_book_22 ?_
    refine x_isub dX12_book_23 ?_
    refine x_callS3 (mc1 := 0) (ms1 := 0) dX12_book_24 cv_RX12_81 (Nat.le_of_ble_eq_true rfl) (n1 := n - 1) (by omega) (by omega) (by omega) ?_
    refine sp_X12_isIn (by omega) (by omega) (by omega) (fun r24 hr24 => ?_)
    refine x_if_eq 48 dX12_book_27 (by decide) (by omega) (fun w27 => ?_) (fun w27 => ?_)
    · refine x_bipush dX12_book_48 (by decide) ?_
      exact x_ireturn dX12_book_50 rfl (by omega) (by omega) (by first | (rw [if_pos (by omega)] at hp; exact hp) | (rw [if_neg (by omega), if_pos (by omega)] at hp; exact hp) | (rw [if_neg (by omega), if_neg (by omega)] at hp; exact hp))
    · refine x_iload_n dX12_book_30 rfl ?_
      refine x_iconst dX12_book_31 ?_
      refine x_iconst dX12_book_32 ?_
      refine x_callS3 (mc1 := 0) (ms1 := 0) dX12_book_33 cv_RX12_81 (Nat.le_of_ble_eq_true rfl) (n1 := n - 1) (by omega) (by omega) (by omega) ?_
      refine sp_X12_isIn (by omega) (by omega) (by omega) (fun r33 hr33 => ?_)
      refine x_if_eq 48 dX12_book_36 (by decide) (by omega) (fun w36 => ?_) (fun w36 => ?_)
      · refine x_bipush dX12_book_48 (by decide) ?_
        exact x_ireturn dX12_book_50 rfl (by omega) (by omega) (by first | (rw [if_pos (by omega)] at hp; exact hp) | (rw [if_neg (by omega), if_pos (by omega)] at hp; exact hp) | (rw [if_neg (by omega), if_neg (by omega)] at hp; exact hp))
      · refine x_aload_n dX12_book_39 rfl ?_
        refine x_iload_n dX12_book_40 rfl ?_
        refine x_iload_n dX12_book_41 rfl ?_
        refine x_callV2 (mc1 := 0) (ms1 := 0) dX12_book_42 cv_RX12_405 (ci := 12) (k_ob_306 cs) rfl (Nat.le_of_ble_eq_true rfl) (n1 := n - 1) (by omega) (by omega) (by omega) ?_
        rw [asN (a := i) (by omega)]
        refine sp_X12_entry cs hA (by omega) (hk i.toNat (by omega)) (by omega) ?_
        refine x_goto 50 dX12_book_45 (by decide) ?_
        exact x_ireturn dX12_book_50 rfl (by omega) (by omega) (by first | (rw [if_pos (by omega)] at hp; exact hp) | (rw [if_neg (by omega), if_pos (by omega)] at hp; exact hp) | (rw [if_neg (by omega), if_neg (by omega)] at hp; exact hp))
  · refine x_aload_n dX12_book_5 rfl ?_
    refine x_getR (b := 307) dX12_book_6 gf_RX12_7 (k_ob_306 cs) (fun _ _ => rfl) (k_r_306_0 cs) ?_
    refine x_bipush dX12_book_9 (by decide) ?_
    refine x_ald7 (kk := 11) (v := A 11) dX12_book_11 cs (by omega) (by omega) (by rw [hA]; repeat (first | rfl | rw [upA_s] | rw [upA_o (by omega)])) ?_
    exact x_ireturn dX12_book_12 rfl (by omega) (by omega) (by first | (rw [if_pos (by omega)] at hp; exact hp) | (rw [if_neg (by omega), if_pos (by omega)] at hp; exact hp) | (rw [if_neg (by omega), if_neg (by omega)] at hp; exact hp))
theorem dX12_ledger_0 : decode prog_14_method_101_code 0 = .ok (.iload_n 1, 1) := by decide +kernel
theorem dX12_ledger_1 : decode prog_14_method_101_code 1 = .ok (.iconst 0, 1) := by decide +kernel
theorem dX12_ledger_2 : decode prog_14_method_101_code 2 = .ok (.iconst 2, 1) := by decide +kernel
theorem dX12_ledger_3 : decode prog_14_method_101_code 3 = .ok (.invokestatic 81, 3) := by decide +kernel
theorem dX12_ledger_6 : decode prog_14_method_101_code 6 = .ok (.ifCond .ne 6, 3) := by decide +kernel
theorem dX12_ledger_9 : decode prog_14_method_101_code 9 = .ok (.bipush (-2), 2) := by decide +kernel
theorem dX12_ledger_11 : decode prog_14_method_101_code 11 = .ok (.ireturn, 1) := by decide +kernel
theorem dX12_ledger_12 : decode prog_14_method_101_code 12 = .ok (.iconst 0, 1) := by decide +kernel
theorem dX12_ledger_13 : decode prog_14_method_101_code 13 = .ok (.istore_n 2, 1) := by decide +kernel
theorem dX12_ledger_14 : decode prog_14_method_101_code 14 = .ok (.iconst 0, 1) := by decide +kernel
theorem dX12_ledger_15 : decode prog_14_method_101_code 15 = .ok (.istore_n 3, 1) := by decide +kernel
theorem dX12_ledger_16 : decode prog_14_method_101_code 16 = .ok (.iload_n 3, 1) := by decide +kernel
theorem dX12_ledger_17 : decode prog_14_method_101_code 17 = .ok (.aload_n 0, 1) := by decide +kernel
theorem dX12_ledger_18 : decode prog_14_method_101_code 18 = .ok (.getfield 7, 3) := by decide +kernel
theorem dX12_ledger_21 : decode prog_14_method_101_code 21 = .ok (.bipush 11, 2) := by decide +kernel
theorem dX12_ledger_23 : decode prog_14_method_101_code 23 = .ok (.iaload, 1) := by decide +kernel
theorem dX12_ledger_24 : decode prog_14_method_101_code 24 = .ok (.if_icmp .ge 27, 3) := by decide +kernel
theorem dX12_ledger_27 : decode prog_14_method_101_code 27 = .ok (.iload_n 2, 1) := by decide +kernel
theorem dX12_ledger_28 : decode prog_14_method_101_code 28 = .ok (.aload_n 0, 1) := by decide +kernel
theorem dX12_ledger_29 : decode prog_14_method_101_code 29 = .ok (.iload_n 3, 1) := by decide +kernel
theorem dX12_ledger_30 : decode prog_14_method_101_code 30 = .ok (.iconst 2, 1) := by decide +kernel
theorem dX12_ledger_31 : decode prog_14_method_101_code 31 = .ok (.invokevirtual 405, 3) := by decide +kernel
theorem dX12_ledger_34 : decode prog_14_method_101_code 34 = .ok (.iload_n 1, 1) := by decide +kernel
theorem dX12_ledger_35 : decode prog_14_method_101_code 35 = .ok (.if_icmp .ne 7, 3) := by decide +kernel
theorem dX12_ledger_38 : decode prog_14_method_101_code 38 = .ok (.iconst 1, 1) := by decide +kernel
theorem dX12_ledger_39 : decode prog_14_method_101_code 39 = .ok (.goto 4, 3) := by decide +kernel
theorem dX12_ledger_42 : decode prog_14_method_101_code 42 = .ok (.iconst 0, 1) := by decide +kernel
theorem dX12_ledger_43 : decode prog_14_method_101_code 43 = .ok (.iadd, 1) := by decide +kernel
theorem dX12_ledger_44 : decode prog_14_method_101_code 44 = .ok (.istore_n 2, 1) := by decide +kernel
theorem dX12_ledger_45 : decode prog_14_method_101_code 45 = .ok (.iinc 3 1, 3) := by decide +kernel
theorem dX12_ledger_48 : decode prog_14_method_101_code 48 = .ok (.goto (-32), 3) := by decide +kernel
theorem dX12_ledger_51 : decode prog_14_method_101_code 51 = .ok (.iload_n 2, 1) := by decide +kernel
theorem dX12_ledger_52 : decode prog_14_method_101_code 52 = .ok (.ireturn, 1) := by decide +kernel
theorem lp_X12_ledger {w : Int} (cs : CS S R) (hA : I 307 = A) (hb : BA A) (hk : BK A) (hw : 0 ≤ w ∧ w ≤ 2) (hn : 1 ≤ n) (hp : Post (some (.int (iI (ldg A w (A 11).toNat)))) S I R) : ∀ (d k : Nat), (k : Int) ≤ A 11 → (A 11).toNat - k = d → WP n 0 0 mX12_ledger Post 16 [(0, .ref (S.2.1 306)), (1, .int (iI w)), (2, .int (iI (ldg A w k))), (3, .int (iI (k : Int)))] [] 0 0 S I R := by
  have b11 := BA_11 hb
  intro d
  induction d using Nat.strongRecOn with
  | ind d ih =>
    intro k k1 k2
    have hl := ldg_b A w k
    refine x_iload_n dX12_ledger_16 rfl ?_
    refine x_aload_n dX12_ledger_17 rfl ?_
    refine x_getR (b := 307) dX12_ledger_18 gf_RX12_7 (k_ob_306 cs) (fun _ _ => rfl) (k_r_306_0 cs) ?_
    refine x_bipush dX12_ledger_21 (by decide) ?_
    refine x_ald7 (kk := 11) (v := A 11) dX12_ledger_23 cs (by omega) (by omega) (by rw [hA]; repeat (first | rfl | rw [upA_s] | rw [upA_o (by omega)])) ?_
    refine x_icmp_ge 51 dX12_ledger_24 (by decide) ⟨(by omega), (by omega)⟩ (fun w24 => ?_) (fun w24 => ?_)
    · refine x_iload_n dX12_ledger_51 rfl ?_
      exact x_ireturn dX12_ledger_52 rfl (by omega) (by omega) (by obtain rfl : k = (A 11).toNat := (by omega); exact hp)
    · refine x_iload_n dX12_ledger_27 rfl ?_
      refine x_aload_n dX12_ledger_28 rfl ?_
      refine x_iload_n dX12_ledger_29 rfl ?_
      refine x_iconst dX12_ledger_30 ?_
      refine x_callV2 (mc1 := 0) (ms1 := 0) dX12_ledger_31 cv_RX12_405 (ci := 12) (k_ob_306 cs) rfl (Nat.le_of_ble_eq_true rfl) (n1 := n - 1) (by omega) (by omega) (by omega) ?_
      have hkk := hk k (by omega)
      refine sp_X12_entry (w := 2) cs hA (by omega) hkk (by omega) ?_
      rw [show entP A k 2 = A (2815 + k) % 3 from rfl]
      refine x_iload_n dX12_ledger_34 rfl ?_
      refine x_icmp_ne 42 dX12_ledger_35 (by decide) ⟨(by omega), (by omega)⟩ (fun w35 => ?_) (fun w35 => ?_)
      · refine x_iconst dX12_ledger_42 ?_
        refine x_iadd dX12_ledger_43 ?_
        refine x_istore_n (lv2 := [(2, _), (0, _), (1, _), (3, _)]) dX12_ledger_44 (by decide) rfl ?_
        refine x_iinc (lv2 := [(3, _), (2, _), (0, _), (1, _)]) dX12_ledger_45 rfl (by decide) rfl ?_
        refine x_goto 16 dX12_ledger_48 (by decide) ?_
        refine x_sub [2, 3, 1, 0] rfl ?_
        have hg := ih _ (by omega) (k + 1) (by omega) rfl
        first
          | (rw [show ldg A w (k + 1) = ldg A w k + 1 from congrArg _ (if_pos (by omega))] at hg; exact hg)
          | (rw [show ldg A w (k + 1) = ldg A w k + 0 from congrArg _ (if_neg (by omega))] at hg; exact hg)
      · refine x_iconst dX12_ledger_38 ?_
        refine x_goto 43 dX12_ledger_39 (by decide) ?_
        refine x_iadd dX12_ledger_43 ?_
        refine x_istore_n (lv2 := [(2, _), (0, _), (1, _), (3, _)]) dX12_ledger_44 (by decide) rfl ?_
        refine x_iinc (lv2 := [(3, _), (2, _), (0, _), (1, _)]) dX12_ledger_45 rfl (by decide) rfl ?_
        refine x_goto 16 dX12_ledger_48 (by decide) ?_
        refine x_sub [2, 3, 1, 0] rfl ?_
        have hg := ih _ (by omega) (k + 1) (by omega) rfl
        first
          | (rw [show ldg A w (k + 1) = ldg A w k + 1 from congrArg _ (if_pos (by omega))] at hg; exact hg)
          | (rw [show ldg A w (k + 1) = ldg A w k + 0 from congrArg _ (if_neg (by omega))] at hg; exact hg)
theorem sp_X12_ledger {w : Int} (cs : CS S R) (hA : I 307 = A) (hb : BA A) (hk : BK A) (hw : Rg w) (hn : 1 ≤ n) (hp : Post (some (.int (iI (f_ledger A w)))) S I R) : Call n 0 0 mX12_ledger [.ref (S.2.1 306), .int (iI w)] S I R Post := by
  have b0 := hb.1.1
  have b1 := hb.2.1.1
  have b2 := hb.2.1.2.1
  have b3 := hb.2.1.2.2.1
  have b4 := hb.2.1.2.2.2.1
  have b5 := hb.2.1.2.2.2.2.1
  have b6 := hb.2.1.2.2.2.2.2.1
  have b114 := hb.2.1.2.2.2.2.2.2
  have b7 : 0 ≤ A 7 ∧ A 7 ≤ 9999 := hb.1.2.1
  have b8 : 0 ≤ A 8 ∧ A 8 ≤ 30870 := hb.1.2.2.1
  have b9 : 0 ≤ A 9 ∧ A 9 ≤ 9999 := hb.1.2.2.2.1
  have b10 : 0 ≤ A 10 ∧ A 10 ≤ 1 := hb.1.2.2.2.2.1
  have b11 := BA_11 hb
  unfold f_ledger at hp
  refine Call.of (by decide +kernel) (Nat.le_of_ble_eq_true rfl) ?_
  show WP _ _ _ _ _ 0 [(0, _), (1, _)] [] 0 0 _ _ _
  refine x_iload_n dX12_ledger_0 rfl ?_
  refine x_iconst dX12_ledger_1 ?_
  refine x_iconst dX12_ledger_2 ?_
  refine x_callS3 (mc1 := 0) (ms1 := 0) dX12_ledger_3 cv_RX12_81 (Nat.le_of_ble_eq_true rfl) (n1 := n - 1) (by omega) (by omega) (by omega) ?_
  refine sp_X12_isIn (by omega) (by omega) (by omega) (fun r3 hr3 => ?_)
  refine x_if_ne 12 dX12_ledger_6 (by decide) (by omega) (fun w6 => ?_) (fun w6 => ?_)
  · refine x_iconst dX12_ledger_12 ?_
    refine x_istore_n (lv2 := [(2, _), (0, _), (1, _)]) dX12_ledger_13 (by decide) rfl ?_
    refine x_iconst dX12_ledger_14 ?_
    refine x_istore_n (lv2 := [(3, _), (2, _), (0, _), (1, _)]) dX12_ledger_15 (by decide) rfl ?_
    refine x_sub [2, 3, 1, 0] rfl ?_
    rw [if_pos (by omega)] at hp
    exact lp_X12_ledger cs hA hb hk (by omega) hn hp _ 0 (by omega) rfl
  · refine x_bipush dX12_ledger_9 (by decide) ?_
    exact x_ireturn dX12_ledger_11 rfl (by omega) (by omega) (by rw [if_neg (by omega)] at hp; exact hp)
end Ref2
