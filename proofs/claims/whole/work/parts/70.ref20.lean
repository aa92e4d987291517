section Ref20
variable {n mc ms : Nat} {M : Md} {pc : Nat} {lv : List (Nat × Value)} {st : List Value} {k j : Nat} {Post : PT} {S : Sh} {I : CI} {R : CR} {A : Nat → Int} {tx : Nat → Nat → Int}
def dgP4 (t : Int) (k : Int) : Int := if k = 0 then t / 1000 else if k = 1 then t / 100 % 10 else if k = 2 then t / 10 % 10 else t % 10
theorem dX12_digitOf_0 : decode prog_14_method_129_code 0 = .ok (.iload_n 1, 1) := by decide +kernel
theorem dX12_digitOf_1 : decode prog_14_method_129_code 1 = .ok (.ifCond .ne 11, 3) := by decide +kernel
theorem dX12_digitOf_4 : decode prog_14_method_129_code 4 = .ok (.iload_n 0, 1) := by decide +kernel
theorem dX12_digitOf_5 : decode prog_14_method_129_code 5 = .ok (.sipush 1000, 3) := by decide +kernel
theorem dX12_digitOf_8 : decode prog_14_method_129_code 8 = .ok (.idiv, 1) := by decide +kernel
theorem dX12_digitOf_9 : decode prog_14_method_129_code 9 = .ok (.goto 37, 3) := by decide +kernel
theorem dX12_digitOf_12 : decode prog_14_method_129_code 12 = .ok (.iload_n 1, 1) := by decide +kernel
theorem dX12_digitOf_13 : decode prog_14_method_129_code 13 = .ok (.iconst 1, 1) := by decide +kernel
theorem dX12_digitOf_14 : decode prog_14_method_129_code 14 = .ok (.if_icmp .ne 13, 3) := by decide +kernel
theorem dX12_digitOf_17 : decode prog_14_method_129_code 17 = .ok (.iload_n 0, 1) := by decide +kernel
theorem dX12_digitOf_18 : decode prog_14_method_129_code 18 = .ok (.bipush 100, 2) := by decide +kernel
theorem dX12_digitOf_20 : decode prog_14_method_129_code 20 = .ok (.idiv, 1) := by decide +kernel
theorem dX12_digitOf_21 : decode prog_14_method_129_code 21 = .ok (.bipush 10, 2) := by decide +kernel
theorem dX12_digitOf_23 : decode prog_14_method_129_code 23 = .ok (.irem, 1) := by decide +kernel
theorem dX12_digitOf_24 : decode prog_14_method_129_code 24 = .ok (.goto 22, 3) := by decide +kernel
theorem dX12_digitOf_27 : decode prog_14_method_129_code 27 = .ok (.iload_n 1, 1) := by decide +kernel
theorem dX12_digitOf_28 : decode prog_14_method_129_code 28 = .ok (.iconst 2, 1) := by decide +kernel
theorem dX12_digitOf_29 : decode prog_14_method_129_code 29 = .ok (.if_icmp .ne 13, 3) := by decide +kernel
theorem dX12_digitOf_32 : decode prog_14_method_129_code 32 = .ok (.iload_n 0, 1) := by decide +kernel
theorem dX12_digitOf_33 : decode prog_14_method_129_code 33 = .ok (.bipush 10, 2) := by decide +kernel
theorem dX12_digitOf_35 : decode prog_14_method_129_code 35 = .ok (.idiv, 1) := by decide +kernel
theorem dX12_digitOf_36 : decode prog_14_method_129_code 36 = .ok (.bipush 10, 2) := by decide +kernel
theorem dX12_digitOf_38 : decode prog_14_method_129_code 38 = .ok (.irem, 1) := by decide +kernel
theorem dX12_digitOf_39 : decode prog_14_method_129_code 39 = .ok (.goto 7, 3) := by decide +kernel
theorem dX12_digitOf_42 : decode prog_14_method_129_code 42 = .ok (.iload_n 0, 1) := by decide +kernel
theorem dX12_digitOf_43 : decode prog_14_method_129_code 43 = .ok (.bipush 10, 2) := by decide +kernel
theorem dX12_digitOf_45 : decode prog_14_method_129_code 45 = .ok (.irem, 1) := by decide +kernel
theorem dX12_digitOf_46 : decode prog_14_method_129_code 46 = .ok (.ireturn, 1) := by decide +kernel
theorem sp_X12_digitOf {t k : Int} (ht : 0 ≤ t ∧ t ≤ 9999) (hk : Rg k) (hp : Post (some (.int (iI (dgP4 t k)))) S I R) : Call n 0 0 mX12_digitOf [.int (iI t), .int (iI k)] S I R Post := by
  unfold dgP4 at hp
  refine Call.of (by decide +kernel) (Nat.le_of_ble_eq_true rfl) ?_
  show WP _ _ _ _ _ 0 [(0, _), (1, _)] [] 0 0 _ _ _
  refine x_iload_n dX12_digitOf_0 rfl ?_
  refine x_if_ne 12 dX12_digitOf_1 (by decide) (by omega) (fun w1 => ?_) (fun w1 => ?_)
  · refine x_iload_n dX12_digitOf_12 rfl ?_
    refine x_iconst dX12_digitOf_13 ?_
    refine x_icmp_ne 27 dX12_digitOf_14 (by decide) ⟨(by omega), (by omega)⟩ (fun w14 => ?_) (fun w14 => ?_)
    · refine x_iload_n dX12_digitOf_27 rfl ?_
      refine x_iconst dX12_digitOf_28 ?_
      refine x_icmp_ne 42 dX12_digitOf_29 (by decide) ⟨(by omega), (by omega)⟩ (fun w29 => ?_) (fun w29 => ?_)
      · refine x_iload_n dX12_digitOf_42 rfl ?_
        refine x_bipush dX12_digitOf_43 (by decide) ?_
        refine x_irem dX12_digitOf_45 (by omega) ?_
        exact x_ireturn dX12_digitOf_46 rfl (by omega) (by omega) (by first | (rw [if_pos (by omega)] at hp; exact hp) | (rw [if_neg (by omega), if_pos (by omega)] at hp; exact hp) | (rw [if_neg (by omega), if_neg (by omega), if_pos (by omega)] at hp; exact hp) | (rw [if_neg (by omega), if_neg (by omega), if_neg (by omega)] at hp; exact hp))
      · refine x_iload_n dX12_digitOf_32 rfl ?_
        refine x_bipush dX12_digitOf_33 (by decide) ?_
        refine x_idiv dX12_digitOf_35 (by omega) ?_
        refine x_bipush dX12_digitOf_36 (by decide) ?_
        refine x_irem dX12_digitOf_38 (by omega) ?_
        refine x_goto 46 dX12_digitOf_39 (by decide) ?_
        exact x_ireturn dX12_digitOf_46 rfl (by omega) (by omega) (by first | (rw [if_pos (by omega)] at hp; exact hp) | (rw [if_neg (by omega), if_pos (by omega)] at hp; exact hp) | (rw [if_neg (by omega), if_neg (by omega), if_pos (by omega)] at hp; exact hp) | (rw [if_neg (by omega), if_neg (by omega), if_neg (by omega)] at hp; exact hp))
    · refine x_iload_n dX12_digitOf_17 rfl ?_
      refine x_bipush dX12_digitOf_18 (by decide) ?_
      refine x_idiv dX12_digitOf_20 (by omega) ?_
      refine x_bipush dX12_digitOf_21 (by decide) ?_
      refine x_irem dX12_digitOf_23 (by omega) ?_
      refine x_goto 46 dX12_digitOf_24 (by decide) ?_
      exact x_ireturn dX12_digitOf_46 rfl (by omega) (by omega) (by first | (rw [if_pos (by omega)] at hp; exact hp) | (rw [if_neg (by omega), if_pos (by omega)] at hp; exact hp) | (rw [if_neg (by omega), if_neg (by omega), if_pos (by omega)] at hp; exact hp) | (rw [if_neg (by omega), if_neg (by omega), if_neg (by omega)] at hp; exact hp))
  · refine x_iload_n dX12_digitOf_4 rfl ?_
    refine x_sipush dX12_digitOf_5 (by decide) ?_
    refine x_idiv dX12_digitOf_8 (by omega) ?_
    refine x_goto 46 dX12_digitOf_9 (by decide) ?_
    exact x_ireturn dX12_digitOf_46 rfl (by omega) (by omega) (by first | (rw [if_pos (by omega)] at hp; exact hp) | (rw [if_neg (by omega), if_pos (by omega)] at hp; exact hp) | (rw [if_neg (by omega), if_neg (by omega), if_pos (by omega)] at hp; exact hp) | (rw [if_neg (by omega), if_neg (by omega), if_neg (by omega)] at hp; exact hp))
theorem fit_iff {t : Nat} (ht : t < 10000) : fitK A 4 (t : Int) ↔ ∀ k : Nat, k < 4 → (A (110 + k) = -1 ∨ A (110 + k) = dgP4 t k) := by
  have e : fitK A 4 (t : Int) ↔ ((A 113 = -1 ∨ A 113 = (t : Int) % 10) ∧ (A 112 = -1 ∨ A 112 = (t : Int) / 10 % 10) ∧ (A 111 = -1 ∨ A 111 = (t : Int) / 10 / 10 % 10) ∧ (A 110 = -1 ∨ A 110 = (t : Int) / 10 / 10 / 10 % 10) ∧ True) := Iff.rfl
  rw [e]
  have d0 : dgP4 t ((0 : Nat) : Int) = (t : Int) / 1000 := rfl
  have d1 : dgP4 t ((1 : Nat) : Int) = (t : Int) / 100 % 10 := rfl
  have d2 : dgP4 t ((2 : Nat) : Int) = (t : Int) / 10 % 10 := rfl
  have d3 : dgP4 t ((3 : Nat) : Int) = (t : Int) % 10 := rfl
  constructor
  · intro h k hk
    rcases (show k = 0 ∨ k = 1 ∨ k = 2 ∨ k = 3 by omega) with rfl | rfl | rfl | rfl
    · rw [d0]; show A 110 = -1 ∨ A 110 = _; omega
    · rw [d1]; show A 111 = -1 ∨ A 111 = _; omega
    · rw [d2]; show A 112 = -1 ∨ A 112 = _; omega
    · rw [d3]; show A 113 = -1 ∨ A 113 = _; omega
  · intro h
    have h0 : A 110 = -1 ∨ A 110 = dgP4 t ((0 : Nat) : Int) := h 0 (by omega)
    have h1 : A 111 = -1 ∨ A 111 = dgP4 t ((1 : Nat) : Int) := h 1 (by omega)
    have h2 : A 112 = -1 ∨ A 112 = dgP4 t ((2 : Nat) : Int) := h 2 (by omega)
    have h3 : A 113 = -1 ∨ A 113 = dgP4 t ((3 : Nat) : Int) := h 3 (by omega)
    rw [d0] at h0; rw [d1] at h1; rw [d2] at h2; rw [d3] at h3
    exact ⟨by omega, by omega, by omega, by omega, trivial⟩
theorem dX12_isTicket_0 : decode prog_14_method_130_code 0 = .ok (.iconst 0, 1) := by decide +kernel
theorem dX12_isTicket_1 : decode prog_14_method_130_code 1 = .ok (.istore_n 2, 1) := by decide +kernel
theorem dX12_isTicket_2 : decode prog_14_method_130_code 2 = .ok (.iload_n 2, 1) := by decide +kernel
theorem dX12_isTicket_3 : decode prog_14_method_130_code 3 = .ok (.iconst 4, 1) := by decide +kernel
theorem dX12_isTicket_4 : decode prog_14_method_130_code 4 = .ok (.if_icmp .ge 41, 3) := by decide +kernel
theorem dX12_isTicket_7 : decode prog_14_method_130_code 7 = .ok (.aload_n 0, 1) := by decide +kernel
theorem dX12_isTicket_8 : decode prog_14_method_130_code 8 = .ok (.getfield 7, 3) := by decide +kernel
theorem dX12_isTicket_11 : decode prog_14_method_130_code 11 = .ok (.bipush 110, 2) := by decide +kernel
theorem dX12_isTicket_13 : decode prog_14_method_130_code 13 = .ok (.iload_n 2, 1) := by decide +kernel
theorem dX12_isTicket_14 : decode prog_14_method_130_code 14 = .ok (.iadd, 1) := by decide +kernel
theorem dX12_isTicket_15 : decode prog_14_method_130_code 15 = .ok (.iaload, 1) := by decide +kernel
theorem dX12_isTicket_16 : decode prog_14_method_130_code 16 = .ok (.iconst (-1), 1) := by decide +kernel
theorem dX12_isTicket_17 : decode prog_14_method_130_code 17 = .ok (.if_icmp .eq 22, 3) := by decide +kernel
theorem dX12_isTicket_20 : decode prog_14_method_130_code 20 = .ok (.aload_n 0, 1) := by decide +kernel
theorem dX12_isTicket_21 : decode prog_14_method_130_code 21 = .ok (.getfield 7, 3) := by decide +kernel
theorem dX12_isTicket_24 : decode prog_14_method_130_code 24 = .ok (.bipush 110, 2) := by decide +kernel
theorem dX12_isTicket_26 : decode prog_14_method_130_code 26 = .ok (.iload_n 2, 1) := by decide +kernel
theorem dX12_isTicket_27 : decode prog_14_method_130_code 27 = .ok (.iadd, 1) := by decide +kernel
theorem dX12_isTicket_28 : decode prog_14_method_130_code 28 = .ok (.iaload, 1) := by decide +kernel
theorem dX12_isTicket_29 : decode prog_14_method_130_code 29 = .ok (.iload_n 1, 1) := by decide +kernel
theorem dX12_isTicket_30 : decode prog_14_method_130_code 30 = .ok (.iload_n 2, 1) := by decide +kernel
theorem dX12_isTicket_31 : decode prog_14_method_130_code 31 = .ok (.invokestatic 461, 3) := by decide +kernel
theorem dX12_isTicket_34 : decode prog_14_method_130_code 34 = .ok (.if_icmp .eq 5, 3) := by decide +kernel
theorem dX12_isTicket_37 : decode prog_14_method_130_code 37 = .ok (.iconst 0, 1) := by decide +kernel
theorem dX12_isTicket_38 : decode prog_14_method_130_code 38 = .ok (.ireturn, 1) := by decide +kernel
theorem dX12_isTicket_39 : decode prog_14_method_130_code 39 = .ok (.iinc 2 1, 3) := by decide +kernel
theorem dX12_isTicket_42 : decode prog_14_method_130_code 42 = .ok (.goto (-40), 3) := by decide +kernel
theorem dX12_isTicket_45 : decode prog_14_method_130_code 45 = .ok (.iload_n 1, 1) := by decide +kernel
theorem dX12_isTicket_46 : decode prog_14_method_130_code 46 = .ok (.iconst 0, 1) := by decide +kernel
theorem dX12_isTicket_47 : decode prog_14_method_130_code 47 = .ok (.invokestatic 461, 3) := by decide +kernel
theorem dX12_isTicket_50 : decode prog_14_method_130_code 50 = .ok (.iconst 3, 1) := by decide +kernel
theorem dX12_isTicket_51 : decode prog_14_method_130_code 51 = .ok (.iload_n 1, 1) := by decide +kernel
theorem dX12_isTicket_52 : decode prog_14_method_130_code 52 = .ok (.iconst 1, 1) := by decide +kernel
theorem dX12_isTicket_53 : decode prog_14_method_130_code 53 = .ok (.invokestatic 461, 3) := by decide +kernel
theorem dX12_isTicket_56 : decode prog_14_method_130_code 56 = .ok (.imul, 1) := by decide +kernel
theorem dX12_isTicket_57 : decode prog_14_method_130_code 57 = .ok (.iadd, 1) := by decide +kernel
theorem dX12_isTicket_58 : decode prog_14_method_130_code 58 = .ok (.bipush 7, 2) := by decide +kernel
theorem dX12_isTicket_60 : decode prog_14_method_130_code 60 = .ok (.iload_n 1, 1) := by decide +kernel
theorem dX12_isTicket_61 : decode prog_14_method_130_code 61 = .ok (.iconst 2, 1) := by decide +kernel
theorem dX12_isTicket_62 : decode prog_14_method_130_code 62 = .ok (.invokestatic 461, 3) := by decide +kernel
theorem dX12_isTicket_65 : decode prog_14_method_130_code 65 = .ok (.imul, 1) := by decide +kernel
theorem dX12_isTicket_66 : decode prog_14_method_130_code 66 = .ok (.iadd, 1) := by decide +kernel
theorem dX12_isTicket_67 : decode prog_14_method_130_code 67 = .ok (.bipush 9, 2) := by decide +kernel
theorem dX12_isTicket_69 : decode prog_14_method_130_code 69 = .ok (.iload_n 1, 1) := by decide +kernel
theorem dX12_isTicket_70 : decode prog_14_method_130_code 70 = .ok (.iconst 3, 1) := by decide +kernel
theorem dX12_isTicket_71 : decode prog_14_method_130_code 71 = .ok (.invokestatic 461, 3) := by decide +kernel
theorem dX12_isTicket_74 : decode prog_14_method_130_code 74 = .ok (.imul, 1) := by decide +kernel
theorem dX12_isTicket_75 : decode prog_14_method_130_code 75 = .ok (.iadd, 1) := by decide +kernel
theorem dX12_isTicket_76 : decode prog_14_method_130_code 76 = .ok (.bipush 10, 2) := by decide +kernel
theorem dX12_isTicket_78 : decode prog_14_method_130_code 78 = .ok (.irem, 1) := by decide +kernel
theorem dX12_isTicket_79 : decode prog_14_method_130_code 79 = .ok (.ifCond .ne 7, 3) := by decide +kernel
theorem dX12_isTicket_82 : decode prog_14_method_130_code 82 = .ok (.iconst 1, 1) := by decide +kernel
theorem dX12_isTicket_83 : decode prog_14_method_130_code 83 = .ok (.goto 4, 3) := by decide +kernel
theorem dX12_isTicket_86 : decode prog_14_method_130_code 86 = .ok (.iconst 0, 1) := by decide +kernel
theorem dX12_isTicket_87 : decode prog_14_method_130_code 87 = .ok (.ireturn, 1) := by decide +kernel
theorem lp_X12_isTicket {t : Nat} (cs : CS S R) (hA : I 307 = A) (hd : ∀ i, i < 4 → -1 ≤ A (110 + i) ∧ A (110 + i) ≤ 9) (ht : t < 10000) (hn : 1 ≤ n) (hp : ∀ r : Int, (r = 1 ∧ tkP A t ∨ r = 0 ∧ ¬ tkP A t) → Post (some (.int (iI r))) S I R) : ∀ (d k : Nat), k ≤ 4 → 4 - k = d → (∀ i : Nat, i < k → (A (110 + i) = -1 ∨ A (110 + i) = dgP4 t i)) → WP n 0 0 mX12_isTicket Post 2 [(0, .ref (S.2.1 306)), (1, .int (iI (t : Int))), (2, .int (iI (k : Int)))] [] 0 0 S I R := by
  have hdb : ∀ k : Int, 0 ≤ dgP4 t k ∧ dgP4 t k ≤ 9 := fun k => by unfold dgP4; split <;> first | omega | (split <;> first | omega | (split <;> omega))
  intro d
  induction d using Nat.strongRecOn with
  | ind d ih =>
    intro k k1 k2 hf
    have hdk : k < 4 → _ := fun h => hd k h
    have hdkk := hdb k
    refine x_iload_n dX12_isTicket_2 rfl ?_
    refine x_iconst dX12_isTicket_3 ?_
    refine x_icmp_ge 45 dX12_isTicket_4 (by decide) ⟨(by omega), (by omega)⟩ (fun w4 => ?_) (fun w4 => ?_)
    · refine x_iload_n dX12_isTicket_45 rfl ?_
      refine x_iconst dX12_isTicket_46 ?_
      refine x_callS2 (mc1 := 0) (ms1 := 0) dX12_isTicket_47 cv_RX12_461 (Nat.le_of_ble_eq_true rfl) (n1 := n - 1) (by omega) (by omega) (by omega) ?_
      refine sp_X12_digitOf (k := 0) (by omega) (by omega) ?_
      rw [show dgP4 t 0 = (t : Int) / 1000 from rfl]
      refine x_iconst dX12_isTicket_50 ?_
      refine x_iload_n dX12_isTicket_51 rfl ?_
      refine x_iconst dX12_isTicket_52 ?_
      refine x_callS2 (mc1 := 0) (ms1 := 0) dX12_isTicket_53 cv_RX12_461 (Nat.le_of_ble_eq_true rfl) (n1 := n - 1) (by omega) (by omega) (by omega) ?_
      refine sp_X12_digitOf (k := 1) (by omega) (by omega) ?_
      rw [show dgP4 t 1 = (t : Int) / 100 % 10 from rfl]
      refine x_imul dX12_isTicket_56 ?_
      refine x_iadd dX12_isTicket_57 ?_
      refine x_bipush dX12_isTicket_58 (by decide) ?_
      refine x_iload_n dX12_isTicket_60 rfl ?_
      refine x_iconst dX12_isTicket_61 ?_
      refine x_callS2 (mc1 := 0) (ms1 := 0) dX12_isTicket_62 cv_RX12_461 (Nat.le_of_ble_eq_true rfl) (n1 := n - 1) (by omega) (by omega) (by omega) ?_
      refine sp_X12_digitOf (k := 2) (by omega) (by omega) ?_
      rw [show dgP4 t 2 = (t : Int) / 10 % 10 from rfl]
      refine x_imul dX12_isTicket_65 ?_
      refine x_iadd dX12_isTicket_66 ?_
      refine x_bipush dX12_isTicket_67 (by decide) ?_
      refine x_iload_n dX12_isTicket_69 rfl ?_
      refine x_iconst dX12_isTicket_70 ?_
      refine x_callS2 (mc1 := 0) (ms1 := 0) dX12_isTicket_71 cv_RX12_461 (Nat.le_of_ble_eq_true rfl) (n1 := n - 1) (by omega) (by omega) (by omega) ?_
      refine sp_X12_digitOf (k := 3) (by omega) (by omega) ?_
      rw [show dgP4 t 3 = (t : Int) % 10 from rfl]
      refine x_imul dX12_isTicket_74 ?_
      refine x_iadd dX12_isTicket_75 ?_
      refine x_bipush dX12_isTicket_76 (by decide) ?_
      refine x_irem dX12_isTicket_78 (by omega) ?_
      refine x_if_ne 86 dX12_isTicket_79 (by decide) (by omega) (fun w79 => ?_) (fun w79 => ?_)
      · refine x_iconst dX12_isTicket_86 ?_
        exact x_zreturn (by omega) dX12_isTicket_87 rfl (by omega) (by omega) (by
    first
      | (obtain rfl : k = 4 := (by omega)
         exact hp 1 (Or.inl ⟨rfl, (fit_iff ht).mpr hf, by omega⟩))
      | (obtain rfl : k = 4 := (by omega)
         exact hp 0 (Or.inr ⟨rfl, fun h => by have := h.2; omega⟩)))
      · refine x_iconst dX12_isTicket_82 ?_
        refine x_goto 87 dX12_isTicket_83 (by decide) ?_
        exact x_zreturn (by omega) dX12_isTicket_87 rfl (by omega) (by omega) (by
    first
      | (obtain rfl : k = 4 := (by omega)
         exact hp 1 (Or.inl ⟨rfl, (fit_iff ht).mpr hf, by omega⟩))
      | (obtain rfl : k = 4 := (by omega)
         exact hp 0 (Or.inr ⟨rfl, fun h => by have := h.2; omega⟩)))
    · have hk9 := hdk (by omega)
      refine x_aload_n dX12_isTicket_7 rfl ?_
      refine x_getR (b := 307) dX12_isTicket_8 gf_RX12_7 (k_ob_306 cs) (fun _ _ => rfl) (k_r_306_0 cs) ?_
      refine x_bipush dX12_isTicket_11 (by decide) ?_
      refine x_iload_n dX12_isTicket_13 rfl ?_
      refine x_iadd dX12_isTicket_14 ?_
      refine x_ald7 (kk := 110 + k) (v := A (110 + k)) dX12_isTicket_15 cs (by omega) (by omega) (by rw [hA]; repeat (first | rfl | rw [upA_s] | rw [upA_o (by omega)])) ?_
      refine x_iconst dX12_isTicket_16 ?_
      refine x_icmp_eq 39 dX12_isTicket_17 (by decide) ⟨(by omega), (by omega)⟩ (fun w17 => ?_) (fun w17 => ?_)
      · refine x_iinc (lv2 := [(2, _), (0, _), (1, _)]) dX12_isTicket_39 rfl (by decide) rfl ?_
        refine x_goto 2 dX12_isTicket_42 (by decide) ?_
        refine x_sub [1, 2, 0] rfl ?_
        refine ih _ (by omega) (k + 1) (by omega) rfl (fun i hi => ?_)
        by_cases e : i = k
        · rw [e]; omega
        · exact hf i (by omega)
      · refine x_aload_n dX12_isTicket_20 rfl ?_
        refine x_getR (b := 307) dX12_isTicket_21 gf_RX12_7 (k_ob_306 cs) (fun _ _ => rfl) (k_r_306_0 cs) ?_
        refine x_bipush dX12_isTicket_24 (by decide) ?_
        refine x_iload_n dX12_isTicket_26 rfl ?_
        refine x_iadd dX12_isTicket_27 ?_
        refine x_ald7 (kk := 110 + k) (v := A (110 + k)) dX12_isTicket_28 cs (by omega) (by omega) (by rw [hA]; repeat (first | rfl | rw [upA_s] | rw [upA_o (by omega)])) ?_
        refine x_iload_n dX12_isTicket_29 rfl ?_
        refine x_iload_n dX12_isTicket_30 rfl ?_
        refine x_callS2 (mc1 := 0) (ms1 := 0) dX12_isTicket_31 cv_RX12_461 (Nat.le_of_ble_eq_true rfl) (n1 := n - 1) (by omega) (by omega) (by omega) ?_
        refine sp_X12_digitOf (by omega) (by omega) ?_
        refine x_icmp_eq 39 dX12_isTicket_34 (by decide) ⟨(by omega), (by omega)⟩ (fun w34 => ?_) (fun w34 => ?_)
        · refine x_iinc (lv2 := [(2, _), (0, _), (1, _)]) dX12_isTicket_39 rfl (by decide) rfl ?_
          refine x_goto 2 dX12_isTicket_42 (by decide) ?_
          refine x_sub [1, 2, 0] rfl ?_
          refine ih _ (by omega) (k + 1) (by omega) rfl (fun i hi => ?_)
          by_cases e : i = k
          · rw [e]; omega
          · exact hf i (by omega)
        · have hnf : ¬ tkP A t := fun h => by
            have h2 := (fit_iff ht).mp h.1 k (by omega)
            omega
          refine x_iconst dX12_isTicket_37 ?_
          exact x_zreturn (by omega) dX12_isTicket_38 rfl (by omega) (by omega) (hp 0 (Or.inr ⟨rfl, hnf⟩))
theorem sp_X12_isTicket {t : Nat} (cs : CS S R) (hA : I 307 = A) (hd : ∀ i, i < 4 → -1 ≤ A (110 + i) ∧ A (110 + i) ≤ 9) (ht : t < 10000) (hn : 1 ≤ n) (hp : ∀ r : Int, (r = 1 ∧ tkP A t ∨ r = 0 ∧ ¬ tkP A t) → Post (some (.int (iI r))) S I R) : Call n 0 0 mX12_isTicket [.ref (S.2.1 306), .int (iI (t : Int))] S I R Post := by
  refine Call.of (by decide +kernel) (Nat.le_of_ble_eq_true rfl) ?_
  show WP _ _ _ _ _ 0 [(0, _), (1, _)] [] 0 0 _ _ _
  refine x_iconst dX12_isTicket_0 ?_
  refine x_istore_n (lv2 := [(2, _), (0, _), (1, _)]) dX12_isTicket_1 (by decide) rfl ?_
  refine x_sub [1, 2, 0] rfl ?_
  exact lp_X12_isTicket cs hA hd ht hn hp _ 0 (by omega) rfl (fun i hi => by omega)
theorem dX12_tickets_0 : decode prog_14_method_131_code 0 = .ok (.iconst 0, 1) := by decide +kernel
theorem dX12_tickets_1 : decode prog_14_method_131_code 1 = .ok (.istore_n 2, 1) := by decide +kernel
theorem dX12_tickets_2 : decode prog_14_method_131_code 2 = .ok (.bipush (-2), 2) := by decide +kernel
theorem dX12_tickets_4 : decode prog_14_method_131_code 4 = .ok (.istore_n 3, 1) := by decide +kernel
theorem dX12_tickets_5 : decode prog_14_method_131_code 5 = .ok (.iconst 0, 1) := by decide +kernel
theorem dX12_tickets_6 : decode prog_14_method_131_code 6 = .ok (.istore 4, 2) := by decide +kernel
theorem dX12_tickets_8 : decode prog_14_method_131_code 8 = .ok (.iload 4, 2) := by decide +kernel
theorem dX12_tickets_10 : decode prog_14_method_131_code 10 = .ok (.sipush 10000, 3) := by decide +kernel
theorem dX12_tickets_13 : decode prog_14_method_131_code 13 = .ok (.if_icmp .ge 32, 3) := by decide +kernel
theorem dX12_tickets_16 : decode prog_14_method_131_code 16 = .ok (.aload_n 0, 1) := by decide +kernel
theorem dX12_tickets_17 : decode prog_14_method_131_code 17 = .ok (.iload 4, 2) := by decide +kernel
theorem dX12_tickets_19 : decode prog_14_method_131_code 19 = .ok (.invokevirtual 464, 3) := by decide +kernel
theorem dX12_tickets_22 : decode prog_14_method_131_code 22 = .ok (.ifCond .ne 6, 3) := by decide +kernel
theorem dX12_tickets_25 : decode prog_14_method_131_code 25 = .ok (.goto 14, 3) := by decide +kernel
theorem dX12_tickets_28 : decode prog_14_method_131_code 28 = .ok (.iload_n 2, 1) := by decide +kernel
theorem dX12_tickets_29 : decode prog_14_method_131_code 29 = .ok (.iload_n 1, 1) := by decide +kernel
theorem dX12_tickets_30 : decode prog_14_method_131_code 30 = .ok (.if_icmp .ne 6, 3) := by decide +kernel
theorem dX12_tickets_33 : decode prog_14_method_131_code 33 = .ok (.iload 4, 2) := by decide +kernel
theorem dX12_tickets_35 : decode prog_14_method_131_code 35 = .ok (.istore_n 3, 1) := by decide +kernel
theorem dX12_tickets_36 : decode prog_14_method_131_code 36 = .ok (.iinc 2 1, 3) := by decide +kernel
theorem dX12_tickets_39 : decode prog_14_method_131_code 39 = .ok (.iinc 4 1, 3) := by decide +kernel
theorem dX12_tickets_42 : decode prog_14_method_131_code 42 = .ok (.goto (-34), 3) := by decide +kernel
theorem dX12_tickets_45 : decode prog_14_method_131_code 45 = .ok (.iload_n 1, 1) := by decide +kernel
theorem dX12_tickets_46 : decode prog_14_method_131_code 46 = .ok (.iconst (-1), 1) := by decide +kernel
theorem dX12_tickets_47 : decode prog_14_method_131_code 47 = .ok (.if_icmp .ne 7, 3) := by decide +kernel
theorem dX12_tickets_50 : decode prog_14_method_131_code 50 = .ok (.iload_n 2, 1) := by decide +kernel
theorem dX12_tickets_51 : decode prog_14_method_131_code 51 = .ok (.goto 4, 3) := by decide +kernel
theorem dX12_tickets_54 : decode prog_14_method_131_code 54 = .ok (.iload_n 3, 1) := by decide +kernel
theorem dX12_tickets_55 : decode prog_14_method_131_code 55 = .ok (.ireturn, 1) := by decide +kernel
theorem lp_X12_tickets {w : Int} (cs : CS S R) (hA : I 307 = A) (hd : ∀ i, i < 4 → -1 ≤ A (110 + i) ∧ A (110 + i) ≤ 9) (hw : Rg w) (hn : 2 ≤ n) (hp : Post (some (.int (iI (f_tickets A w)))) S I R) : ∀ (d k : Nat), k ≤ 10000 → 10000 - k = d → WP n 0 0 mX12_tickets Post 8 [(0, .ref (S.2.1 306)), (1, .int (iI w)), (2, .int (iI (tkR A w k).1)), (3, .int (iI (tkR A w k).2)), (4, .int (iI (k : Int)))] [] 0 0 S I R := by
  unfold f_tickets at hp
  intro d
  induction d using Nat.strongRecOn with
  | ind d ih =>
    intro k k1 k2
    have htb := tkR_b (A := A) (w := w) k
    refine x_iload dX12_tickets_8 rfl ?_
    refine x_sipush dX12_tickets_10 (by decide) ?_
    refine x_icmp_ge 45 dX12_tickets_13 (by decide) ⟨(by omega), (by omega)⟩ (fun w13 => ?_) (fun w13 => ?_)
    · refine x_iload_n dX12_tickets_45 rfl ?_
      refine x_iconst dX12_tickets_46 ?_
      refine x_icmp_ne 54 dX12_tickets_47 (by decide) ⟨(by omega), (by omega)⟩ (fun w47 => ?_) (fun w47 => ?_)
      · refine x_iload_n dX12_tickets_54 rfl ?_
        exact x_ireturn dX12_tickets_55 rfl (by omega) (by omega) (by obtain rfl : k = 10000 := (by omega); first | (rw [if_pos (by omega)] at hp; exact hp) | (rw [if_neg (by omega)] at hp; exact hp))
      · refine x_iload_n dX12_tickets_50 rfl ?_
        refine x_goto 55 dX12_tickets_51 (by decide) ?_
        exact x_ireturn dX12_tickets_55 rfl (by omega) (by omega) (by obtain rfl : k = 10000 := (by omega); first | (rw [if_pos (by omega)] at hp; exact hp) | (rw [if_neg (by omega)] at hp; exact hp))
    · refine x_aload_n dX12_tickets_16 rfl ?_
      refine x_iload dX12_tickets_17 rfl ?_
      refine x_callV1 (mc1 := 0) (ms1 := 0) dX12_tickets_19 cv_RX12_464 (ci := 12) (k_ob_306 cs) rfl (Nat.le_of_ble_eq_true rfl) (n1 := n - 1) (by omega) (by omega) (by omega) ?_
      refine sp_X12_isTicket cs hA hd (by omega) (by omega) (fun r19 hr19 => ?_)
      refine x_if_ne 28 dX12_tickets_22 (by decide) (by omega) (fun w22 => ?_) (fun w22 => ?_)
      · refine x_iload_n dX12_tickets_28 rfl ?_
        refine x_iload_n dX12_tickets_29 rfl ?_
        refine x_icmp_ne 36 dX12_tickets_30 (by decide) ⟨(by omega), (by omega)⟩ (fun w30 => ?_) (fun w30 => ?_)
        · refine x_iinc (lv2 := [(2, _), (0, _), (1, _), (3, _), (4, _)]) dX12_tickets_36 rfl (by decide) rfl ?_
          refine x_iinc (lv2 := [(4, _), (2, _), (0, _), (1, _), (3, _)]) dX12_tickets_39 rfl (by decide) rfl ?_
          refine x_goto 8 dX12_tickets_42 (by decide) ?_
          refine x_sub [2, 3, 1, 4, 0] rfl ?_
          have hg := ih _ (by omega) (k + 1) (by omega) rfl
          rcases hr19 with hh | hh
          · first
              | (exfalso; omega)
              | (rw [tkR_y hh.2] at hg; dsimp only at hg; rw [if_pos (by omega)] at hg; exact hg)
              | (rw [tkR_y hh.2] at hg; dsimp only at hg; rw [if_neg (by omega)] at hg; exact hg)
          · first
              | (exfalso; omega)
              | (rw [tkR_n hh.2] at hg; exact hg)
        · refine x_iload dX12_tickets_33 rfl ?_
          refine x_istore_n (lv2 := [(3, _), (0, _), (1, _), (2, _), (4, _)]) dX12_tickets_35 (by decide) rfl ?_
          refine x_iinc (lv2 := [(2, _), (3, _), (0, _), (1, _), (4, _)]) dX12_tickets_36 rfl (by decide) rfl ?_
          refine x_iinc (lv2 := [(4, _), (2, _), (3, _), (0, _), (1, _)]) dX12_tickets_39 rfl (by decide) rfl ?_
          refine x_goto 8 dX12_tickets_42 (by decide) ?_
          refine x_sub [3, 4, 1, 2, 0] rfl ?_
          have hg := ih _ (by omega) (k + 1) (by omega) rfl
          rcases hr19 with hh | hh
          · first
              | (exfalso; omega)
              | (rw [tkR_y hh.2] at hg; dsimp only at hg; rw [if_pos (by omega)] at hg; exact hg)
              | (rw [tkR_y hh.2] at hg; dsimp only at hg; rw [if_neg (by omega)] at hg; exact hg)
          · first
              | (exfalso; omega)
              | (rw [tkR_n hh.2] at hg; exact hg)
      · refine x_goto 39 dX12_tickets_25 (by decide) ?_
        refine x_iinc (lv2 := [(4, _), (0, _), (1, _), (2, _), (3, _)]) dX12_tickets_39 rfl (by decide) rfl ?_
        refine x_goto 8 dX12_tickets_42 (by decide) ?_
        refine x_sub [1, 2, 3, 4, 0] rfl ?_
        have hg := ih _ (by omega) (k + 1) (by omega) rfl
        rcases hr19 with hh | hh
        · first
            | (exfalso; omega)
            | (rw [tkR_y hh.2] at hg; dsimp only at hg; rw [if_pos (by omega)] at hg; exact hg)
            | (rw [tkR_y hh.2] at hg; dsimp only at hg; rw [if_neg (by omega)] at hg; exact hg)
        · first
            | (exfalso; omega)
            | (rw [tkR_n hh.2] at hg; exact hg)
theorem tick_lo {w : Int} (h : w < -1) : f_tick A w = f_tickets A w := by
  have h2 : ∀ k, (tkR A w k).2 = -2 := by
    intro k
    induction k with
    | zero => rfl
    | succ k ih =>
      have hb := tkR_b (A := A) (w := w) k
      by_cases g : tkP A k
      · rw [tkR_y g]; dsimp only; rw [if_neg (by omega)]; exact ih
      · rw [tkR_n g]; exact ih
  unfold f_tick f_tickets
  rw [if_pos h, if_neg (by omega), h2]
theorem sp_X12_tickets {w : Int} (cs : CS S R) (hA : I 307 = A) (hb : BA A) (hw : Rg w) (hn : 2 ≤ n) (hp : Post (some (.int (iI (f_tick A w)))) S I R) : Call n 0 0 mX12_tickets [.ref (S.2.1 306), .int (iI w)] S I R Post := by
  have hd : ∀ i, i < 4 → -1 ≤ A (110 + i) ∧ A (110 + i) ≤ 9 := hb.2.2.2.2.2.2.1
  have hp2 : Post (some (.int (iI (f_tickets A w)))) S I R := by
    by_cases h : w < -1
    · rw [← tick_lo h]; exact hp
    · have e : f_tick A w = f_tickets A w := if_neg h
      rw [← e]; exact hp
  refine Call.of (by decide +kernel) (Nat.le_of_ble_eq_true rfl) ?_
  show WP _ _ _ _ _ 0 [(0, _), (1, _)] [] 0 0 _ _ _
  refine x_iconst dX12_tickets_0 ?_
  refine x_istore_n (lv2 := [(2, _), (0, _), (1, _)]) dX12_tickets_1 (by decide) rfl ?_
  refine x_bipush dX12_tickets_2 (by decide) ?_
  refine x_istore_n (lv2 := [(3, _), (2, _), (0, _), (1, _)]) dX12_tickets_4 (by decide) rfl ?_
  refine x_iconst dX12_tickets_5 ?_
  refine x_istore (lv2 := [(4, _), (3, _), (2, _), (0, _), (1, _)]) dX12_tickets_6 (by decide) rfl ?_
  refine x_sub [3, 4, 2, 1, 0] rfl ?_
  exact lp_X12_tickets cs hA hd hw hn hp2 _ 0 (by omega) rfl
theorem dX12_whose_0 : decode prog_14_method_143_code 0 = .ok (.iconst 0, 1) := by decide +kernel
theorem dX12_whose_1 : decode prog_14_method_143_code 1 = .ok (.istore_n 1, 1) := by decide +kernel
theorem dX12_whose_2 : decode prog_14_method_143_code 2 = .ok (.iconst 0, 1) := by decide +kernel
theorem dX12_whose_3 : decode prog_14_method_143_code 3 = .ok (.istore_n 2, 1) := by decide +kernel
theorem dX12_whose_4 : decode prog_14_method_143_code 4 = .ok (.iload_n 2, 1) := by decide +kernel
theorem dX12_whose_5 : decode prog_14_method_143_code 5 = .ok (.aload_n 0, 1) := by decide +kernel
theorem dX12_whose_6 : decode prog_14_method_143_code 6 = .ok (.getfield 7, 3) := by decide +kernel
theorem dX12_whose_9 : decode prog_14_method_143_code 9 = .ok (.iconst 1, 1) := by decide +kernel
theorem dX12_whose_10 : decode prog_14_method_143_code 10 = .ok (.iaload, 1) := by decide +kernel
theorem dX12_whose_11 : decode prog_14_method_143_code 11 = .ok (.if_icmp .ge 94, 3) := by decide +kernel
theorem dX12_whose_14 : decode prog_14_method_143_code 14 = .ok (.iconst 1, 1) := by decide +kernel
theorem dX12_whose_15 : decode prog_14_method_143_code 15 = .ok (.istore_n 3, 1) := by decide +kernel
theorem dX12_whose_16 : decode prog_14_method_143_code 16 = .ok (.bipush 94, 2) := by decide +kernel
theorem dX12_whose_18 : decode prog_14_method_143_code 18 = .ok (.istore 4, 2) := by decide +kernel
theorem dX12_whose_20 : decode prog_14_method_143_code 20 = .ok (.iload 4, 2) := by decide +kernel
theorem dX12_whose_22 : decode prog_14_method_143_code 22 = .ok (.bipush 94, 2) := by decide +kernel
theorem dX12_whose_24 : decode prog_14_method_143_code 24 = .ok (.iconst 2, 1) := by decide +kernel
theorem dX12_whose_25 : decode prog_14_method_143_code 25 = .ok (.aload_n 0, 1) := by decide +kernel
theorem dX12_whose_26 : decode prog_14_method_143_code 26 = .ok (.getfield 7, 3) := by decide +kernel
theorem dX12_whose_29 : decode prog_14_method_143_code 29 = .ok (.bipush 6, 2) := by decide +kernel
theorem dX12_whose_31 : decode prog_14_method_143_code 31 = .ok (.iaload, 1) := by decide +kernel
theorem dX12_whose_32 : decode prog_14_method_143_code 32 = .ok (.imul, 1) := by decide +kernel
theorem dX12_whose_33 : decode prog_14_method_143_code 33 = .ok (.iadd, 1) := by decide +kernel
theorem dX12_whose_34 : decode prog_14_method_143_code 34 = .ok (.if_icmp .ge 51, 3) := by decide +kernel
theorem dX12_whose_37 : decode prog_14_method_143_code 37 = .ok (.iload_n 3, 1) := by decide +kernel
theorem dX12_whose_38 : decode prog_14_method_143_code 38 = .ok (.ifCond .eq 39, 3) := by decide +kernel
theorem dX12_whose_41 : decode prog_14_method_143_code 41 = .ok (.aload_n 0, 1) := by decide +kernel
theorem dX12_whose_42 : decode prog_14_method_143_code 42 = .ok (.iload_n 2, 1) := by decide +kernel
theorem dX12_whose_43 : decode prog_14_method_143_code 43 = .ok (.aload_n 0, 1) := by decide +kernel
theorem dX12_whose_44 : decode prog_14_method_143_code 44 = .ok (.getfield 7, 3) := by decide +kernel
theorem dX12_whose_47 : decode prog_14_method_143_code 47 = .ok (.iload 4, 2) := by decide +kernel
theorem dX12_whose_49 : decode prog_14_method_143_code 49 = .ok (.iaload, 1) := by decide +kernel
theorem dX12_whose_50 : decode prog_14_method_143_code 50 = .ok (.iconst 0, 1) := by decide +kernel
theorem dX12_whose_51 : decode prog_14_method_143_code 51 = .ok (.aload_n 0, 1) := by decide +kernel
theorem dX12_whose_52 : decode prog_14_method_143_code 52 = .ok (.getfield 7, 3) := by decide +kernel
theorem dX12_whose_55 : decode prog_14_method_143_code 55 = .ok (.bipush 9, 2) := by decide +kernel
theorem dX12_whose_57 : decode prog_14_method_143_code 57 = .ok (.iaload, 1) := by decide +kernel
theorem dX12_whose_58 : decode prog_14_method_143_code 58 = .ok (.invokevirtual 320, 3) := by decide +kernel
theorem dX12_whose_61 : decode prog_14_method_143_code 61 = .ok (.aload_n 0, 1) := by decide +kernel
theorem dX12_whose_62 : decode prog_14_method_143_code 62 = .ok (.getfield 7, 3) := by decide +kernel
theorem dX12_whose_65 : decode prog_14_method_143_code 65 = .ok (.iload 4, 2) := by decide +kernel
theorem dX12_whose_67 : decode prog_14_method_143_code 67 = .ok (.iconst 1, 1) := by decide +kernel
theorem dX12_whose_68 : decode prog_14_method_143_code 68 = .ok (.iadd, 1) := by decide +kernel
theorem dX12_whose_69 : decode prog_14_method_143_code 69 = .ok (.iaload, 1) := by decide +kernel
theorem dX12_whose_70 : decode prog_14_method_143_code 70 = .ok (.if_icmp .ne 7, 3) := by decide +kernel
theorem dX12_whose_73 : decode prog_14_method_143_code 73 = .ok (.iconst 1, 1) := by decide +kernel
theorem dX12_whose_74 : decode prog_14_method_143_code 74 = .ok (.goto 4, 3) := by decide +kernel
theorem dX12_whose_77 : decode prog_14_method_143_code 77 = .ok (.iconst 0, 1) := by decide +kernel
theorem dX12_whose_78 : decode prog_14_method_143_code 78 = .ok (.istore_n 3, 1) := by decide +kernel
theorem dX12_whose_79 : decode prog_14_method_143_code 79 = .ok (.iinc 4 2, 3) := by decide +kernel
theorem dX12_whose_82 : decode prog_14_method_143_code 82 = .ok (.goto (-62), 3) := by decide +kernel
theorem dX12_whose_85 : decode prog_14_method_143_code 85 = .ok (.iload_n 1, 1) := by decide +kernel
theorem dX12_whose_86 : decode prog_14_method_143_code 86 = .ok (.iload_n 3, 1) := by decide +kernel
theorem dX12_whose_87 : decode prog_14_method_143_code 87 = .ok (.ifCond .eq 9, 3) := by decide +kernel
theorem dX12_whose_90 : decode prog_14_method_143_code 90 = .ok (.iconst 1, 1) := by decide +kernel
theorem dX12_whose_91 : decode prog_14_method_143_code 91 = .ok (.iload_n 2, 1) := by decide +kernel
theorem dX12_whose_92 : decode prog_14_method_143_code 92 = .ok (.ishl, 1) := by decide +kernel
theorem dX12_whose_93 : decode prog_14_method_143_code 93 = .ok (.goto 4, 3) := by decide +kernel
theorem dX12_whose_96 : decode prog_14_method_143_code 96 = .ok (.iconst 0, 1) := by decide +kernel
theorem dX12_whose_97 : decode prog_14_method_143_code 97 = .ok (.ior, 1) := by decide +kernel
theorem dX12_whose_98 : decode prog_14_method_143_code 98 = .ok (.istore_n 1, 1) := by decide +kernel
theorem dX12_whose_99 : decode prog_14_method_143_code 99 = .ok (.iinc 2 1, 3) := by decide +kernel
theorem dX12_whose_102 : decode prog_14_method_143_code 102 = .ok (.goto (-98), 3) := by decide +kernel
theorem dX12_whose_105 : decode prog_14_method_143_code 105 = .ok (.iload_n 1, 1) := by decide +kernel
theorem dX12_whose_106 : decode prog_14_method_143_code 106 = .ok (.ireturn, 1) := by decide +kernel
theorem whL_y {t : Nat} (h : agP A tx t (A 6).toNat) : whL A tx (t + 1) = orI (whL A tx t) (shlI 1 t) := @if_pos _ (Classical.propDecidable _) h _ _ _
theorem whL_n {t : Nat} (h : ¬ agP A tx t (A 6).toNat) : whL A tx (t + 1) = whL A tx t := @if_neg _ (Classical.propDecidable _) h _ _ _
theorem lp1_whose {t : Nat} (cs : CS S R) (hA : I 307 = A) (hb : BA A) (hT : RTx (I 309) A tx) (ht : (t : Int) < A 1) (hn : 5 ≤ n) (hK : ∀ J (z : Int), FD I J → (z = 1 ∧ agP A tx t (A 6).toNat ∨ z = 0 ∧ ¬ agP A tx t (A 6).toNat) → WP n 0 0 mX12_whose Post 85 [(0, .ref (S.2.1 306)), (1, .int (iI (whL A tx t))), (2, .int (iI (t : Int))), (3, .int (iI z))] [] 0 0 S J R) : ∀ (d k : Nat) (J : CI) (z : Int), (k : Int) ≤ A 6 → (A 6).toNat - k = d → FD I J → (z = 1 ∧ agP A tx t k ∨ z = 0 ∧ ¬ agP A tx t k) → WP n 0 0 mX12_whose Post 20 [(0, .ref (S.2.1 306)), (1, .int (iI (whL A tx t))), (2, .int (iI (t : Int))), (3, .int (iI z)), (4, .int (iI ((94 + 2 * k : Nat) : Int)))] [] 0 0 S J R := by
  have hN := BA_bn hb
  have b6 := hb.2.1.2.2.2.2.2.1
  have hsd := hb.2.2.2.2.2.1
  obtain ⟨b0, b1, b2, b7, b8, b9, b10, bq⟩ := id hN
  intro d
  induction d using Nat.strongRecOn with
  | ind d ih =>
    intro k J z k1 k2 hF hz
    have aJ : J 307 = A := by rw [hF 307 (by omega) (by omega) (by omega)]; exact hA
    have tJ : RTx (J 309) A tx := by rw [hF 309 (by omega) (by omega) (by omega)]; exact hT
    have hs6 : (k : Int) < A 6 → _ := fun h => hsd k h
    have hdb := duesP_b A tx (t : Int) (A (94 + 2 * k)).toNat 0 (A 9)
    refine x_iload dX12_whose_20 rfl ?_
    refine x_bipush dX12_whose_22 (by decide) ?_
    refine x_iconst dX12_whose_24 ?_
    refine x_aload_n dX12_whose_25 rfl ?_
    refine x_getR (b := 307) dX12_whose_26 gf_RX12_7 (k_ob_306 cs) (fun _ _ => rfl) (k_r_306_0 cs) ?_
    refine x_bipush dX12_whose_29 (by decide) ?_
    refine x_ald7 (kk := 6) (v := A 6) dX12_whose_31 cs (by omega) (by omega) (by rw [aJ]; repeat (first | rfl | rw [upA_s] | rw [upA_o (by omega)])) ?_
    refine x_imul dX12_whose_32 ?_
    refine x_iadd dX12_whose_33 ?_
    refine x_icmp_ge 85 dX12_whose_34 (by decide) ⟨(by omega), (by omega)⟩ (fun w34 => ?_) (fun w34 => ?_)
    · refine x_sub [0, 1, 2, 3] rfl ?_
      obtain rfl : k = (A 6).toNat := by omega
      exact hK J z hF hz
    · refine x_iload_n dX12_whose_37 rfl ?_
      refine x_if_eq 77 dX12_whose_38 (by decide) (by omega) (fun w38 => ?_) (fun w38 => ?_)
      · refine x_iconst dX12_whose_77 ?_
        refine x_istore_n (lv2 := [(3, _), (0, _), (1, _), (2, _), (4, _)]) dX12_whose_78 (by decide) rfl ?_
        refine x_iinc (lv2 := [(4, _), (3, _), (0, _), (1, _), (2, _)]) dX12_whose_79 rfl (by decide) rfl ?_
        refine x_goto 20 dX12_whose_82 (by decide) ?_
        refine x_sub [2, 3, 4, 1, 0] rfl ?_
        rw [show ((94 + 2 * k : Nat) : Int) + 2 = ((94 + 2 * (k + 1) : Nat) : Int) by omega]
        have up : agP A tx t k → duesP A tx t (A (94 + 2 * k)).toNat 0 (A 9) = A (95 + 2 * k) → agP A tx t (k + 1) := fun h1 h2 i hi => by
          by_cases e : i = k
          · rw [e]; exact h2
          · exact h1 i (by omega)
        have dn : agP A tx t (k + 1) → agP A tx t k := fun h1 i hi => h1 i (by omega)
        first
          | (refine ih _ (by omega) (k + 1) J 0 (by omega) rfl hF (Or.inr ⟨rfl, fun h => ?_⟩)
             rcases hz with hh | hh
             · omega
             · exact hh.2 (dn h))
          | (refine ih _ (by omega) (k + 1) J58 0 (by omega) rfl (FD.tr hF f58) (Or.inr ⟨rfl, fun h => ?_⟩)
             have := h k (by omega)
             omega)
          | (refine ih _ (by omega) (k + 1) J58 1 (by omega) rfl (FD.tr hF f58) (Or.inl ⟨rfl, up ?_ (by omega)⟩)
             rcases hz with hh | hh
             · exact hh.2
             · exfalso; omega)
      · have hsk := hs6 (by omega)
        refine x_aload_n dX12_whose_41 rfl ?_
        refine x_iload_n dX12_whose_42 rfl ?_
        refine x_aload_n dX12_whose_43 rfl ?_
        refine x_getR (b := 307) dX12_whose_44 gf_RX12_7 (k_ob_306 cs) (fun _ _ => rfl) (k_r_306_0 cs) ?_
        refine x_iload dX12_whose_47 rfl ?_
        refine x_ald7 (kk := 94 + 2 * k) (v := A (94 + 2 * k)) dX12_whose_49 cs (by omega) (by omega) (by rw [aJ]; repeat (first | rfl | rw [upA_s] | rw [upA_o (by omega)])) ?_
        refine x_iconst dX12_whose_50 ?_
        refine x_aload_n dX12_whose_51 rfl ?_
        refine x_getR (b := 307) dX12_whose_52 gf_RX12_7 (k_ob_306 cs) (fun _ _ => rfl) (k_r_306_0 cs) ?_
        refine x_bipush dX12_whose_55 (by decide) ?_
        refine x_ald7 (kk := 9) (v := A 9) dX12_whose_57 cs (by omega) (by omega) (by rw [aJ]; repeat (first | rfl | rw [upA_s] | rw [upA_o (by omega)])) ?_
        refine x_callV4 (mc1 := 0) (ms1 := 0) dX12_whose_58 cv_RX12_320 (ci := 12) (k_ob_306 cs) rfl (Nat.le_of_ble_eq_true rfl) (n1 := n - 1) (by omega) (by omega) (by omega) ?_
        rw [asN (a := A (94 + 2 * k)) (by omega)]
        refine sp_X12_duesBy (t := (t : Int)) cs aJ hN tJ (by omega) (by omega) (by omega) (by omega) (by omega) (fun J58 f58 => ?_)
        refine x_aload_n dX12_whose_61 rfl ?_
        refine x_getR (b := 307) dX12_whose_62 gf_RX12_7 (k_ob_306 cs) (fun _ _ => rfl) (k_r_306_0 cs) ?_
        refine x_iload dX12_whose_65 rfl ?_
        refine x_iconst dX12_whose_67 ?_
        refine x_iadd dX12_whose_68 ?_
        refine x_ald7 (kk := 95 + 2 * k) (v := A (95 + 2 * k)) dX12_whose_69 cs (by omega) (by omega) (by rw [f58 307 (by omega) (by omega) (by omega), aJ]) ?_
        refine x_icmp_ne 77 dX12_whose_70 (by decide) ⟨(by omega), (by omega)⟩ (fun w70 => ?_) (fun w70 => ?_)
        · refine x_iconst dX12_whose_77 ?_
          refine x_istore_n (lv2 := [(3, _), (0, _), (1, _), (2, _), (4, _)]) dX12_whose_78 (by decide) rfl ?_
          refine x_iinc (lv2 := [(4, _), (3, _), (0, _), (1, _), (2, _)]) dX12_whose_79 rfl (by decide) rfl ?_
          refine x_goto 20 dX12_whose_82 (by decide) ?_
          refine x_sub [2, 3, 4, 1, 0] rfl ?_
          rw [show ((94 + 2 * k : Nat) : Int) + 2 = ((94 + 2 * (k + 1) : Nat) : Int) by omega]
          have up : agP A tx t k → duesP A tx t (A (94 + 2 * k)).toNat 0 (A 9) = A (95 + 2 * k) → agP A tx t (k + 1) := fun h1 h2 i hi => by
            by_cases e : i = k
            · rw [e]; exact h2
            · exact h1 i (by omega)
          have dn : agP A tx t (k + 1) → agP A tx t k := fun h1 i hi => h1 i (by omega)
          first
            | (refine ih _ (by omega) (k + 1) J 0 (by omega) rfl hF (Or.inr ⟨rfl, fun h => ?_⟩)
               rcases hz with hh | hh
               · omega
               · exact hh.2 (dn h))
            | (refine ih _ (by omega) (k + 1) J58 0 (by omega) rfl (FD.tr hF f58) (Or.inr ⟨rfl, fun h => ?_⟩)
               have := h k (by omega)
               omega)
            | (refine ih _ (by omega) (k + 1) J58 1 (by omega) rfl (FD.tr hF f58) (Or.inl ⟨rfl, up ?_ (by omega)⟩)
               rcases hz with hh | hh
               · exact hh.2
               · exfalso; omega)
        · refine x_iconst dX12_whose_73 ?_
          refine x_goto 78 dX12_whose_74 (by decide) ?_
          refine x_istore_n (lv2 := [(3, _), (0, _), (1, _), (2, _), (4, _)]) dX12_whose_78 (by decide) rfl ?_
          refine x_iinc (lv2 := [(4, _), (3, _), (0, _), (1, _), (2, _)]) dX12_whose_79 rfl (by decide) rfl ?_
          refine x_goto 20 dX12_whose_82 (by decide) ?_
          refine x_sub [2, 3, 4, 1, 0] rfl ?_
          rw [show ((94 + 2 * k : Nat) : Int) + 2 = ((94 + 2 * (k + 1) : Nat) : Int) by omega]
          have up : agP A tx t k → duesP A tx t (A (94 + 2 * k)).toNat 0 (A 9) = A (95 + 2 * k) → agP A tx t (k + 1) := fun h1 h2 i hi => by
            by_cases e : i = k
            · rw [e]; exact h2
            · exact h1 i (by omega)
          have dn : agP A tx t (k + 1) → agP A tx t k := fun h1 i hi => h1 i (by omega)
          first
            | (refine ih _ (by omega) (k + 1) J 0 (by omega) rfl hF (Or.inr ⟨rfl, fun h => ?_⟩)
               rcases hz with hh | hh
               · omega
               · exact hh.2 (dn h))
            | (refine ih _ (by omega) (k + 1) J58 0 (by omega) rfl (FD.tr hF f58) (Or.inr ⟨rfl, fun h => ?_⟩)
               have := h k (by omega)
               omega)
            | (refine ih _ (by omega) (k + 1) J58 1 (by omega) rfl (FD.tr hF f58) (Or.inl ⟨rfl, up ?_ (by omega)⟩)
               rcases hz with hh | hh
               · exact hh.2
               · exfalso; omega)
theorem orI_z {x : Int} (h : Rg x) : orI x 0 = x := by
  unfold orI
  rw [show iI 0 = (0 : Int32) from rfl, Int32.or_zero, iI_toInt h.1 h.2]
theorem whL_r : ∀ t : Nat, Rg (whL A tx t) := by
  intro t
  induction t with
  | zero => show Rg 0; unfold Rg; omega
  | succ t ih =>
    by_cases h : agP A tx t (A 6).toNat
    · rw [whL_y h]; unfold orI; exact iI_rg _
    · rw [whL_n h]; exact ih
theorem lp_X12_whose (cs : CS S R) (hA : I 307 = A) (hb : BA A) (hT : RTx (I 309) A tx) (hn : 5 ≤ n) (hp : ∀ I', FD I I' → Post (some (.int (iI (whL A tx (A 1).toNat)))) S I' R) : ∀ (d t : Nat) (J : CI), (t : Int) ≤ A 1 → (A 1).toNat - t = d → FD I J → WP n 0 0 mX12_whose Post 4 [(0, .ref (S.2.1 306)), (1, .int (iI (whL A tx t))), (2, .int (iI (t : Int)))] [] 0 0 S J R := by
  have b1 := hb.2.1.1
  have b6 := hb.2.1.2.2.2.2.2.1
  intro d
  induction d using Nat.strongRecOn with
  | ind d ih =>
    intro t J k1 k2 hF
    have aJ : J 307 = A := by rw [hF 307 (by omega) (by omega) (by omega)]; exact hA
    have tJ : RTx (J 309) A tx := by rw [hF 309 (by omega) (by omega) (by omega)]; exact hT
    refine x_iload_n dX12_whose_4 rfl ?_
    refine x_aload_n dX12_whose_5 rfl ?_
    refine x_getR (b := 307) dX12_whose_6 gf_RX12_7 (k_ob_306 cs) (fun _ _ => rfl) (k_r_306_0 cs) ?_
    refine x_iconst dX12_whose_9 ?_
    refine x_ald7 (kk := 1) (v := A 1) dX12_whose_10 cs (by omega) (by omega) (by rw [aJ]; repeat (first | rfl | rw [upA_s] | rw [upA_o (by omega)])) ?_
    refine x_icmp_ge 105 dX12_whose_11 (by decide) ⟨(by omega), (by omega)⟩ (fun w11 => ?_) (fun w11 => ?_)
    · refine x_iload_n dX12_whose_105 rfl ?_
      exact x_ireturn dX12_whose_106 rfl (by omega) (by omega) (by obtain rfl : t = (A 1).toNat := (by omega); exact hp _ hF)
    · refine x_iconst dX12_whose_14 ?_
      refine x_istore_n (lv2 := [(3, _), (0, _), (1, _), (2, _)]) dX12_whose_15 (by decide) rfl ?_
      refine x_bipush dX12_whose_16 (by decide) ?_
      refine x_istore (lv2 := [(4, _), (3, _), (0, _), (1, _), (2, _)]) dX12_whose_18 (by decide) rfl ?_
      refine x_sub [2, 3, 4, 1, 0] rfl ?_
      refine lp1_whose (I := J) cs aJ hb tJ (by omega) hn (fun J1 z f1 hz => ?_) _ 0 J 1 (by omega) rfl FD.rf (Or.inl ⟨rfl, fun i hi => by omega⟩)
      refine x_iload_n dX12_whose_85 rfl ?_
      refine x_iload_n dX12_whose_86 rfl ?_
      refine x_if_eq 96 dX12_whose_87 (by decide) (by omega) (fun w87 => ?_) (fun w87 => ?_)
      · refine x_iconst dX12_whose_96 ?_
        refine x_ior dX12_whose_97 ?_
        refine x_istore_n (lv2 := [(1, _), (0, _), (2, _), (3, _)]) dX12_whose_98 (by decide) rfl ?_
        refine x_iinc (lv2 := [(2, _), (1, _), (0, _), (3, _)]) dX12_whose_99 rfl (by decide) rfl ?_
        refine x_goto 4 dX12_whose_102 (by decide) ?_
        refine x_sub [2, 1, 0] rfl ?_
        rcases hz with hh | hh
        · first
            | (exfalso; omega)
            | (have hg := ih _ (by omega) (t + 1) J1 (by omega) rfl (FD.tr hF f1)
               rw [whL_y hh.2] at hg; exact hg)
        · first
            | (exfalso; omega)
            | (have hg := ih _ (by omega) (t + 1) J1 (by omega) rfl (FD.tr hF f1)
               rw [whL_n hh.2, ← orI_z (whL_r t)] at hg; exact hg)
      · refine x_iconst dX12_whose_90 ?_
        refine x_iload_n dX12_whose_91 rfl ?_
        refine x_ishl dX12_whose_92 ?_
        refine x_goto 97 dX12_whose_93 (by decide) ?_
        refine x_ior dX12_whose_97 ?_
        refine x_istore_n (lv2 := [(1, _), (0, _), (2, _), (3, _)]) dX12_whose_98 (by decide) rfl ?_
        refine x_iinc (lv2 := [(2, _), (1, _), (0, _), (3, _)]) dX12_whose_99 rfl (by decide) rfl ?_
        refine x_goto 4 dX12_whose_102 (by decide) ?_
        refine x_sub [2, 1, 0] rfl ?_
        rcases hz with hh | hh
        · first
            | (exfalso; omega)
            | (have hg := ih _ (by omega) (t + 1) J1 (by omega) rfl (FD.tr hF f1)
               rw [whL_y hh.2] at hg; exact hg)
        · first
            | (exfalso; omega)
            | (have hg := ih _ (by omega) (t + 1) J1 (by omega) rfl (FD.tr hF f1)
               rw [whL_n hh.2, ← orI_z (whL_r t)] at hg; exact hg)
theorem sp_X12_whose  (cs : CS S R) (hA : I 307 = A) (hb : BA A) (hT : RTx (I 309) A tx) (hn : 5 ≤ n) (hp : ∀ I', FD I I' → Post (some (.int (iI (whL A tx (A 1).toNat)))) S I' R) : Call n 0 0 mX12_whose [.ref (S.2.1 306)] S I R Post := by
  have b1 := hb.2.1.1
  refine Call.of (by decide +kernel) (Nat.le_of_ble_eq_true rfl) ?_
  show WP _ _ _ _ _ 0 [(0, _)] [] 0 0 _ _ _
  refine x_iconst dX12_whose_0 ?_
  refine x_istore_n (lv2 := [(1, _), (0, _)]) dX12_whose_1 (by decide) rfl ?_
  refine x_iconst dX12_whose_2 ?_
  refine x_istore_n (lv2 := [(2, _), (1, _), (0, _)]) dX12_whose_3 (by decide) rfl ?_
  refine x_sub [2, 1, 0] rfl ?_
  exact lp_X12_whose cs hA hb hT hn hp _ 0 I (by omega) rfl FD.rf
end Ref20
