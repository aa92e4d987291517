section Ref21
variable {n mc ms : Nat} {M : Md} {pc : Nat} {lv : List (Nat × Value)} {st : List Value} {k j : Nat} {Post : PT} {S : Sh} {I : CI} {R : CR} {A : Nat → Int} {tx : Nat → Nat → Int}
theorem dX12_lay_0 : decode prog_14_method_138_code 0 = .ok (.iload_n 1, 1) := by decide +kernel
theorem dX12_lay_1 : decode prog_14_method_138_code 1 = .ok (.istore 4, 2) := by decide +kernel
theorem dX12_lay_3 : decode prog_14_method_138_code 3 = .ok (.iload 4, 2) := by decide +kernel
theorem dX12_lay_5 : decode prog_14_method_138_code 5 = .ok (.ifCond .le 46, 3) := by decide +kernel
theorem dX12_lay_8 : decode prog_14_method_138_code 8 = .ok (.iload_n 3, 1) := by decide +kernel
theorem dX12_lay_9 : decode prog_14_method_138_code 9 = .ok (.ifCond .eq 16, 3) := by decide +kernel
theorem dX12_lay_12 : decode prog_14_method_138_code 12 = .ok (.aload_n 0, 1) := by decide +kernel
theorem dX12_lay_13 : decode prog_14_method_138_code 13 = .ok (.iload 4, 2) := by decide +kernel
theorem dX12_lay_15 : decode prog_14_method_138_code 15 = .ok (.iconst 1, 1) := by decide +kernel
theorem dX12_lay_16 : decode prog_14_method_138_code 16 = .ok (.isub, 1) := by decide +kernel
theorem dX12_lay_17 : decode prog_14_method_138_code 17 = .ok (.iaload, 1) := by decide +kernel
theorem dX12_lay_18 : decode prog_14_method_138_code 18 = .ok (.iload_n 2, 1) := by decide +kernel
theorem dX12_lay_19 : decode prog_14_method_138_code 19 = .ok (.if_icmp .ge 32, 3) := by decide +kernel
theorem dX12_lay_22 : decode prog_14_method_138_code 22 = .ok (.goto 13, 3) := by decide +kernel
theorem dX12_lay_25 : decode prog_14_method_138_code 25 = .ok (.aload_n 0, 1) := by decide +kernel
theorem dX12_lay_26 : decode prog_14_method_138_code 26 = .ok (.iload 4, 2) := by decide +kernel
theorem dX12_lay_28 : decode prog_14_method_138_code 28 = .ok (.iconst 1, 1) := by decide +kernel
theorem dX12_lay_29 : decode prog_14_method_138_code 29 = .ok (.isub, 1) := by decide +kernel
theorem dX12_lay_30 : decode prog_14_method_138_code 30 = .ok (.iaload, 1) := by decide +kernel
theorem dX12_lay_31 : decode prog_14_method_138_code 31 = .ok (.iload_n 2, 1) := by decide +kernel
theorem dX12_lay_32 : decode prog_14_method_138_code 32 = .ok (.if_icmp .le 19, 3) := by decide +kernel
theorem dX12_lay_35 : decode prog_14_method_138_code 35 = .ok (.aload_n 0, 1) := by decide +kernel
theorem dX12_lay_36 : decode prog_14_method_138_code 36 = .ok (.iload 4, 2) := by decide +kernel
theorem dX12_lay_38 : decode prog_14_method_138_code 38 = .ok (.aload_n 0, 1) := by decide +kernel
theorem dX12_lay_39 : decode prog_14_method_138_code 39 = .ok (.iload 4, 2) := by decide +kernel
theorem dX12_lay_41 : decode prog_14_method_138_code 41 = .ok (.iconst 1, 1) := by decide +kernel
theorem dX12_lay_42 : decode prog_14_method_138_code 42 = .ok (.isub, 1) := by decide +kernel
theorem dX12_lay_43 : decode prog_14_method_138_code 43 = .ok (.iaload, 1) := by decide +kernel
theorem dX12_lay_44 : decode prog_14_method_138_code 44 = .ok (.iastore, 1) := by decide +kernel
theorem dX12_lay_45 : decode prog_14_method_138_code 45 = .ok (.iinc 4 (-1), 3) := by decide +kernel
theorem dX12_lay_48 : decode prog_14_method_138_code 48 = .ok (.goto (-45), 3) := by decide +kernel
theorem dX12_lay_51 : decode prog_14_method_138_code 51 = .ok (.aload_n 0, 1) := by decide +kernel
theorem dX12_lay_52 : decode prog_14_method_138_code 52 = .ok (.iload 4, 2) := by decide +kernel
theorem dX12_lay_54 : decode prog_14_method_138_code 54 = .ok (.iload_n 2, 1) := by decide +kernel
theorem dX12_lay_55 : decode prog_14_method_138_code 55 = .ok (.iastore, 1) := by decide +kernel
theorem dX12_lay_56 : decode prog_14_method_138_code 56 = .ok (.return_, 1) := by decide +kernel
theorem lp_X12_lay {a m0 : Nat} {v fl : Int} (hA : AR S a 13 10) (hm0 : m0 < 10) (hv : 0 ≤ v ∧ v ≤ 99) (hfl : fl = 0 ∨ fl = 1) (hp : ∀ I', I' a = insF v fl m0 (I a) → (∀ c, c ≠ a → I' c = I c) → Post none S I' R) : ∀ (m : Nat) (J : CI), m ≤ m0 → (∀ k, k < 10 → 0 ≤ J a k ∧ J a k ≤ 99) → insF v fl m (J a) = insF v fl m0 (I a) → (∀ c, c ≠ a → J c = I c) → WP n 0 0 mX12_lay Post 3 [(0, .ref (S.2.1 a)), (1, .int (iI (m0 : Int))), (2, .int (iI v)), (3, .int (iI fl)), (4, .int (iI (m : Int)))] [] 0 0 S J R := by
  intro m
  induction m with
  | zero =>
    intro J hm hJ hi ho
    refine x_iload dX12_lay_3 rfl ?_
    refine x_if_le 51 dX12_lay_5 (by decide) (by omega) (fun w5 => ?_) (fun w5 => ?_)
    · refine x_aload_n dX12_lay_51 rfl ?_
      refine x_iload dX12_lay_52 rfl ?_
      refine x_iload_n dX12_lay_54 rfl ?_
      refine x_iastore dX12_lay_55 hA (by omega) (by omega) ?_
      exact x_return dX12_lay_56 rfl (by omega) (by omega) (hp _ (by
        rw [← hi]
        funext z
        show (if a = a ∧ z = _ then _ else _) = _
        by_cases hz : z = 0
        · rw [if_pos ⟨rfl, by omega⟩] ; subst hz; exact (upA_s _ _ _).symm
        · rw [if_neg (fun q => hz (by omega))] ; exact (upA_o hz).symm) (fun c h => (uI_row h).trans (ho c h)))
    · exfalso; omega
  | succ m ih =>
    intro J hm hJ hi ho
    have g1 := hJ m (by omega)
    refine x_iload dX12_lay_3 rfl ?_
    refine x_if_le 51 dX12_lay_5 (by decide) (by omega) (fun w5 => ?_) (fun w5 => ?_)
    · exfalso; omega
    · refine x_iload_n dX12_lay_8 rfl ?_
      refine x_if_eq 25 dX12_lay_9 (by decide) (by omega) (fun w9 => ?_) (fun w9 => ?_)
      · refine x_aload_n dX12_lay_25 rfl ?_
        refine x_iload dX12_lay_26 rfl ?_
        refine x_iconst dX12_lay_28 ?_
        refine x_isub dX12_lay_29 ?_
        refine x_iaload dX12_lay_30 hA (by omega) (by omega) ?_
        rw [show (((m + 1 : Nat) : Int) - 1).toNat = m by omega]
        refine x_iload_n dX12_lay_31 rfl ?_
        refine x_icmp_le 51 dX12_lay_32 (by decide) ⟨(by omega), (by omega)⟩ (fun w32 => ?_) (fun w32 => ?_)
        · refine x_aload_n dX12_lay_51 rfl ?_
          refine x_iload dX12_lay_52 rfl ?_
          refine x_iload_n dX12_lay_54 rfl ?_
          refine x_iastore dX12_lay_55 hA (by omega) (by omega) ?_
          exact x_return dX12_lay_56 rfl (by omega) (by omega) (hp _ (by
        rw [← hi]
        funext z
        show (if a = a ∧ z = _ then _ else _) = _
        by_cases hz : z = m + 1
        · rw [if_pos ⟨rfl, by omega⟩] ; rw [show insF v fl (m + 1) (J a) = upA (J a) (m + 1) v from if_neg (by omega)]; subst hz; exact (upA_s _ _ _).symm
        · rw [if_neg (fun q => hz (by omega))] ; rw [show insF v fl (m + 1) (J a) = upA (J a) (m + 1) v from if_neg (by omega)]; exact (upA_o hz).symm) (fun c h => (uI_row h).trans (ho c h)))
        · refine x_aload_n dX12_lay_35 rfl ?_
          refine x_iload dX12_lay_36 rfl ?_
          refine x_aload_n dX12_lay_38 rfl ?_
          refine x_iload dX12_lay_39 rfl ?_
          refine x_iconst dX12_lay_41 ?_
          refine x_isub dX12_lay_42 ?_
          refine x_iaload dX12_lay_43 hA (by omega) (by omega) ?_
          rw [show (((m + 1 : Nat) : Int) - 1).toNat = m by omega]
          refine x_iastore dX12_lay_44 hA (by omega) (by omega) ?_
          refine x_iinc (lv2 := [(4, _), (0, _), (1, _), (2, _), (3, _)]) dX12_lay_45 rfl (by decide) rfl ?_
          refine x_goto 3 dX12_lay_48 (by decide) ?_
          refine x_sub [1, 2, 3, 4, 0] rfl ?_
          rw [show ((m + 1 : Nat) : Int) + -1 = (m : Int) by omega, show (((m + 1 : Nat) : Int)).toNat = m + 1 by omega]
          have er : (uI J a (m + 1) (J a m)) a = upA (J a) (m + 1) (J a m) := uI_up
          refine ih _ (by omega) (fun k hk => ?_) ?_ (fun c h => (uI_row h).trans (ho c h))
          · rw [er]
            by_cases e : k = m + 1
            · subst e; rw [upA_s]; exact g1
            · rw [upA_o e]; exact hJ k hk
          · rw [er, ← hi]
            exact (if_pos (by omega)).symm
      · refine x_aload_n dX12_lay_12 rfl ?_
        refine x_iload dX12_lay_13 rfl ?_
        refine x_iconst dX12_lay_15 ?_
        refine x_isub dX12_lay_16 ?_
        refine x_iaload dX12_lay_17 hA (by omega) (by omega) ?_
        rw [show (((m + 1 : Nat) : Int) - 1).toNat = m by omega]
        refine x_iload_n dX12_lay_18 rfl ?_
        refine x_icmp_ge 51 dX12_lay_19 (by decide) ⟨(by omega), (by omega)⟩ (fun w19 => ?_) (fun w19 => ?_)
        · refine x_aload_n dX12_lay_51 rfl ?_
          refine x_iload dX12_lay_52 rfl ?_
          refine x_iload_n dX12_lay_54 rfl ?_
          refine x_iastore dX12_lay_55 hA (by omega) (by omega) ?_
          exact x_return dX12_lay_56 rfl (by omega) (by omega) (hp _ (by
        rw [← hi]
        funext z
        show (if a = a ∧ z = _ then _ else _) = _
        by_cases hz : z = m + 1
        · rw [if_pos ⟨rfl, by omega⟩] ; rw [show insF v fl (m + 1) (J a) = upA (J a) (m + 1) v from if_neg (by omega)]; subst hz; exact (upA_s _ _ _).symm
        · rw [if_neg (fun q => hz (by omega))] ; rw [show insF v fl (m + 1) (J a) = upA (J a) (m + 1) v from if_neg (by omega)]; exact (upA_o hz).symm) (fun c h => (uI_row h).trans (ho c h)))
        · refine x_goto 35 dX12_lay_22 (by decide) ?_
          refine x_aload_n dX12_lay_35 rfl ?_
          refine x_iload dX12_lay_36 rfl ?_
          refine x_aload_n dX12_lay_38 rfl ?_
          refine x_iload dX12_lay_39 rfl ?_
          refine x_iconst dX12_lay_41 ?_
          refine x_isub dX12_lay_42 ?_
          refine x_iaload dX12_lay_43 hA (by omega) (by omega) ?_
          rw [show (((m + 1 : Nat) : Int) - 1).toNat = m by omega]
          refine x_iastore dX12_lay_44 hA (by omega) (by omega) ?_
          refine x_iinc (lv2 := [(4, _), (0, _), (1, _), (2, _), (3, _)]) dX12_lay_45 rfl (by decide) rfl ?_
          refine x_goto 3 dX12_lay_48 (by decide) ?_
          refine x_sub [1, 2, 3, 4, 0] rfl ?_
          rw [show ((m + 1 : Nat) : Int) + -1 = (m : Int) by omega, show (((m + 1 : Nat) : Int)).toNat = m + 1 by omega]
          have er : (uI J a (m + 1) (J a m)) a = upA (J a) (m + 1) (J a m) := uI_up
          refine ih _ (by omega) (fun k hk => ?_) ?_ (fun c h => (uI_row h).trans (ho c h))
          · rw [er]
            by_cases e : k = m + 1
            · subst e; rw [upA_s]; exact g1
            · rw [upA_o e]; exact hJ k hk
          · rw [er, ← hi]
            exact (if_pos (by omega)).symm
theorem sp_X12_lay {a m0 : Nat} {v fl : Int} (hrow : ∀ k, k < 10 → 0 ≤ I a k ∧ I a k ≤ 99) (hA : AR S a 13 10) (hm0 : m0 < 10) (hv : 0 ≤ v ∧ v ≤ 99) (hfl : fl = 0 ∨ fl = 1) (hp : ∀ I', I' a = insF v fl m0 (I a) → (∀ c, c ≠ a → I' c = I c) → Post none S I' R) : Call n 0 0 mX12_lay [.ref (S.2.1 a), .int (iI (m0 : Int)), .int (iI v), .int (iI fl)] S I R Post := by
  refine Call.of (by decide +kernel) (Nat.le_of_ble_eq_true rfl) ?_
  show WP _ _ _ _ _ 0 [(0, _), (1, _), (2, _), (3, _)] [] 0 0 _ _ _
  refine x_iload_n dX12_lay_0 rfl ?_
  refine x_istore (lv2 := [(4, _), (0, _), (1, _), (2, _), (3, _)]) dX12_lay_1 (by decide) rfl ?_
  refine x_sub [1, 2, 3, 4, 0] rfl ?_
  exact lp_X12_lay hA hm0 hv hfl hp m0 I (Nat.le_refl _) hrow rfl (fun _ _ => rfl)
/-- the reference's market cells hold these rows -/
def MKm (I : CI) (p : ((Nat → Int) × (Nat → Int)) × (Int × Int)) : Prop := (I 306 39 = p.2.1 ∧ I 306 40 = p.2.2) ∧ (∀ i : Nat, (i : Int) < p.2.1 → I 323 i = p.1.1 i) ∧ (∀ i : Nat, (i : Int) < p.2.2 → I 324 i = p.1.2 i) ∧ (∀ k, k < 10 → 0 ≤ I 323 k ∧ I 323 k ≤ 99) ∧ (∀ k, k < 10 → 0 ≤ I 324 k ∧ I 324 k ≤ 99)
def Fmk (I I' : CI) : Prop := (∀ c, c ≠ 306 → c ≠ 323 → c ≠ 324 → I' c = I c) ∧ ∀ k, k ≠ 39 → k ≠ 40 → I' 306 k = I 306 k
def DM (I : CI) : Prop := (∀ k, k < 10 → 0 ≤ I 323 k ∧ I 323 k ≤ 99) ∧ (∀ k, k < 10 → 0 ≤ I 324 k ∧ I 324 k ≤ 99)
theorem dX12_layMarket_0 : decode prog_14_method_139_code 0 = .ok (.aload_n 0, 1) := by decide +kernel
theorem dX12_layMarket_1 : decode prog_14_method_139_code 1 = .ok (.iconst 0, 1) := by decide +kernel
theorem dX12_layMarket_2 : decode prog_14_method_139_code 2 = .ok (.putfield 479, 3) := by decide +kernel
theorem dX12_layMarket_5 : decode prog_14_method_139_code 5 = .ok (.aload_n 0, 1) := by decide +kernel
theorem dX12_layMarket_6 : decode prog_14_method_139_code 6 = .ok (.iconst 0, 1) := by decide +kernel
theorem dX12_layMarket_7 : decode prog_14_method_139_code 7 = .ok (.putfield 482, 3) := by decide +kernel
theorem dX12_layMarket_10 : decode prog_14_method_139_code 10 = .ok (.bipush 74, 2) := by decide +kernel
theorem dX12_layMarket_12 : decode prog_14_method_139_code 12 = .ok (.istore_n 1, 1) := by decide +kernel
theorem dX12_layMarket_13 : decode prog_14_method_139_code 13 = .ok (.iload_n 1, 1) := by decide +kernel
theorem dX12_layMarket_14 : decode prog_14_method_139_code 14 = .ok (.bipush 74, 2) := by decide +kernel
theorem dX12_layMarket_16 : decode prog_14_method_139_code 16 = .ok (.iconst 2, 1) := by decide +kernel
theorem dX12_layMarket_17 : decode prog_14_method_139_code 17 = .ok (.aload_n 0, 1) := by decide +kernel
theorem dX12_layMarket_18 : decode prog_14_method_139_code 18 = .ok (.getfield 7, 3) := by decide +kernel
theorem dX12_layMarket_21 : decode prog_14_method_139_code 21 = .ok (.iconst 5, 1) := by decide +kernel
theorem dX12_layMarket_22 : decode prog_14_method_139_code 22 = .ok (.iaload, 1) := by decide +kernel
theorem dX12_layMarket_23 : decode prog_14_method_139_code 23 = .ok (.imul, 1) := by decide +kernel
theorem dX12_layMarket_24 : decode prog_14_method_139_code 24 = .ok (.iadd, 1) := by decide +kernel
theorem dX12_layMarket_25 : decode prog_14_method_139_code 25 = .ok (.if_icmp .ge 80, 3) := by decide +kernel
theorem dX12_layMarket_28 : decode prog_14_method_139_code 28 = .ok (.aload_n 0, 1) := by decide +kernel
theorem dX12_layMarket_29 : decode prog_14_method_139_code 29 = .ok (.getfield 7, 3) := by decide +kernel
theorem dX12_layMarket_32 : decode prog_14_method_139_code 32 = .ok (.iload_n 1, 1) := by decide +kernel
theorem dX12_layMarket_33 : decode prog_14_method_139_code 33 = .ok (.iconst 1, 1) := by decide +kernel
theorem dX12_layMarket_34 : decode prog_14_method_139_code 34 = .ok (.iadd, 1) := by decide +kernel
theorem dX12_layMarket_35 : decode prog_14_method_139_code 35 = .ok (.iaload, 1) := by decide +kernel
theorem dX12_layMarket_36 : decode prog_14_method_139_code 36 = .ok (.iconst 1, 1) := by decide +kernel
theorem dX12_layMarket_37 : decode prog_14_method_139_code 37 = .ok (.if_icmp .ne 34, 3) := by decide +kernel
theorem dX12_layMarket_40 : decode prog_14_method_139_code 40 = .ok (.aload_n 0, 1) := by decide +kernel
theorem dX12_layMarket_41 : decode prog_14_method_139_code 41 = .ok (.getfield 71, 3) := by decide +kernel
theorem dX12_layMarket_44 : decode prog_14_method_139_code 44 = .ok (.aload_n 0, 1) := by decide +kernel
theorem dX12_layMarket_45 : decode prog_14_method_139_code 45 = .ok (.getfield 479, 3) := by decide +kernel
theorem dX12_layMarket_48 : decode prog_14_method_139_code 48 = .ok (.aload_n 0, 1) := by decide +kernel
theorem dX12_layMarket_49 : decode prog_14_method_139_code 49 = .ok (.getfield 7, 3) := by decide +kernel
theorem dX12_layMarket_52 : decode prog_14_method_139_code 52 = .ok (.iload_n 1, 1) := by decide +kernel
theorem dX12_layMarket_53 : decode prog_14_method_139_code 53 = .ok (.iaload, 1) := by decide +kernel
theorem dX12_layMarket_54 : decode prog_14_method_139_code 54 = .ok (.iconst 1, 1) := by decide +kernel
theorem dX12_layMarket_55 : decode prog_14_method_139_code 55 = .ok (.invokestatic 485, 3) := by decide +kernel
theorem dX12_layMarket_58 : decode prog_14_method_139_code 58 = .ok (.aload_n 0, 1) := by decide +kernel
theorem dX12_layMarket_59 : decode prog_14_method_139_code 59 = .ok (.dup, 1) := by decide +kernel
theorem dX12_layMarket_60 : decode prog_14_method_139_code 60 = .ok (.getfield 479, 3) := by decide +kernel
theorem dX12_layMarket_63 : decode prog_14_method_139_code 63 = .ok (.iconst 1, 1) := by decide +kernel
theorem dX12_layMarket_64 : decode prog_14_method_139_code 64 = .ok (.iadd, 1) := by decide +kernel
theorem dX12_layMarket_65 : decode prog_14_method_139_code 65 = .ok (.putfield 479, 3) := by decide +kernel
theorem dX12_layMarket_68 : decode prog_14_method_139_code 68 = .ok (.goto 31, 3) := by decide +kernel
theorem dX12_layMarket_71 : decode prog_14_method_139_code 71 = .ok (.aload_n 0, 1) := by decide +kernel
theorem dX12_layMarket_72 : decode prog_14_method_139_code 72 = .ok (.getfield 74, 3) := by decide +kernel
theorem dX12_layMarket_75 : decode prog_14_method_139_code 75 = .ok (.aload_n 0, 1) := by decide +kernel
theorem dX12_layMarket_76 : decode prog_14_method_139_code 76 = .ok (.getfield 482, 3) := by decide +kernel
theorem dX12_layMarket_79 : decode prog_14_method_139_code 79 = .ok (.aload_n 0, 1) := by decide +kernel
theorem dX12_layMarket_80 : decode prog_14_method_139_code 80 = .ok (.getfield 7, 3) := by decide +kernel
theorem dX12_layMarket_83 : decode prog_14_method_139_code 83 = .ok (.iload_n 1, 1) := by decide +kernel
theorem dX12_layMarket_84 : decode prog_14_method_139_code 84 = .ok (.iaload, 1) := by decide +kernel
theorem dX12_layMarket_85 : decode prog_14_method_139_code 85 = .ok (.iconst 0, 1) := by decide +kernel
theorem dX12_layMarket_86 : decode prog_14_method_139_code 86 = .ok (.invokestatic 485, 3) := by decide +kernel
theorem dX12_layMarket_89 : decode prog_14_method_139_code 89 = .ok (.aload_n 0, 1) := by decide +kernel
theorem dX12_layMarket_90 : decode prog_14_method_139_code 90 = .ok (.dup, 1) := by decide +kernel
theorem dX12_layMarket_91 : decode prog_14_method_139_code 91 = .ok (.getfield 482, 3) := by decide +kernel
theorem dX12_layMarket_94 : decode prog_14_method_139_code 94 = .ok (.iconst 1, 1) := by decide +kernel
theorem dX12_layMarket_95 : decode prog_14_method_139_code 95 = .ok (.iadd, 1) := by decide +kernel
theorem dX12_layMarket_96 : decode prog_14_method_139_code 96 = .ok (.putfield 482, 3) := by decide +kernel
theorem dX12_layMarket_99 : decode prog_14_method_139_code 99 = .ok (.iinc 1 2, 3) := by decide +kernel
theorem dX12_layMarket_102 : decode prog_14_method_139_code 102 = .ok (.goto (-89), 3) := by decide +kernel
theorem dX12_layMarket_105 : decode prog_14_method_139_code 105 = .ok (.iconst 0, 1) := by decide +kernel
theorem dX12_layMarket_106 : decode prog_14_method_139_code 106 = .ok (.istore_n 1, 1) := by decide +kernel
theorem dX12_layMarket_107 : decode prog_14_method_139_code 107 = .ok (.iload_n 1, 1) := by decide +kernel
theorem dX12_layMarket_108 : decode prog_14_method_139_code 108 = .ok (.aload_n 0, 1) := by decide +kernel
theorem dX12_layMarket_109 : decode prog_14_method_139_code 109 = .ok (.getfield 479, 3) := by decide +kernel
theorem dX12_layMarket_112 : decode prog_14_method_139_code 112 = .ok (.if_icmp .ge 32, 3) := by decide +kernel
theorem dX12_layMarket_115 : decode prog_14_method_139_code 115 = .ok (.iload_n 1, 1) := by decide +kernel
theorem dX12_layMarket_116 : decode prog_14_method_139_code 116 = .ok (.aload_n 0, 1) := by decide +kernel
theorem dX12_layMarket_117 : decode prog_14_method_139_code 117 = .ok (.getfield 482, 3) := by decide +kernel
theorem dX12_layMarket_120 : decode prog_14_method_139_code 120 = .ok (.if_icmp .ge 24, 3) := by decide +kernel
theorem dX12_layMarket_123 : decode prog_14_method_139_code 123 = .ok (.aload_n 0, 1) := by decide +kernel
theorem dX12_layMarket_124 : decode prog_14_method_139_code 124 = .ok (.getfield 71, 3) := by decide +kernel
theorem dX12_layMarket_127 : decode prog_14_method_139_code 127 = .ok (.iload_n 1, 1) := by decide +kernel
theorem dX12_layMarket_128 : decode prog_14_method_139_code 128 = .ok (.iaload, 1) := by decide +kernel
theorem dX12_layMarket_129 : decode prog_14_method_139_code 129 = .ok (.aload_n 0, 1) := by decide +kernel
theorem dX12_layMarket_130 : decode prog_14_method_139_code 130 = .ok (.getfield 74, 3) := by decide +kernel
theorem dX12_layMarket_133 : decode prog_14_method_139_code 133 = .ok (.iload_n 1, 1) := by decide +kernel
theorem dX12_layMarket_134 : decode prog_14_method_139_code 134 = .ok (.iaload, 1) := by decide +kernel
theorem dX12_layMarket_135 : decode prog_14_method_139_code 135 = .ok (.if_icmp .lt 9, 3) := by decide +kernel
theorem dX12_layMarket_138 : decode prog_14_method_139_code 138 = .ok (.iinc 1 1, 3) := by decide +kernel
theorem dX12_layMarket_141 : decode prog_14_method_139_code 141 = .ok (.goto (-34), 3) := by decide +kernel
theorem dX12_layMarket_144 : decode prog_14_method_139_code 144 = .ok (.iload_n 1, 1) := by decide +kernel
theorem dX12_layMarket_145 : decode prog_14_method_139_code 145 = .ok (.ireturn, 1) := by decide +kernel
theorem lp2_layMarket (cs : CS S R) (hb5 : 0 ≤ A 5 ∧ A 5 ≤ 10) (hM : MKm I (mkF A (A 5).toNat)) (hp : Post (some (.int (iI (tradesA A : Int)))) S I R) : ∀ (f t : Nat), t + f = 11 → (t : Int) ≤ (mkF A (A 5).toNat).2.1 → (t : Int) ≤ (mkF A (A 5).toNat).2.2 → trd (mkF A (A 5).toNat).1.1 (mkF A (A 5).toNat).1.2 (mkF A (A 5).toNat).2.1 (mkF A (A 5).toNat).2.2 f t = tradesA A → WP n 0 0 mX12_layMarket Post 107 [(0, .ref (S.2.1 306)), (1, .int (iI (t : Int)))] [] 0 0 S I R := by
  have hn5 := mkF_n A (A 5).toNat
  obtain ⟨⟨m1, m2⟩, m3, m4, m5, m6⟩ := hM
  intro f
  induction f with
  | zero => intro t h1 h2 h3 h4; exfalso; omega
  | succ f ih =>
    intro t h1 h2 h3 h4
    simp only [trd] at h4
    refine x_iload_n dX12_layMarket_107 rfl ?_
    refine x_aload_n dX12_layMarket_108 rfl ?_
    refine x_getI dX12_layMarket_109 gf_RX12_479 (k_ob_306 cs) (fun _ _ => rfl) ?_
    refine x_icmp_ge 144 dX12_layMarket_112 (by decide) ⟨(by omega), (by omega)⟩ (fun w112 => ?_) (fun w112 => ?_)
    · refine x_iload_n dX12_layMarket_144 rfl ?_
      exact x_ireturn dX12_layMarket_145 rfl (by omega) (by omega) (by rw [if_neg (by omega)] at h4; rw [h4]; exact hp)
    · refine x_iload_n dX12_layMarket_115 rfl ?_
      refine x_aload_n dX12_layMarket_116 rfl ?_
      refine x_getI dX12_layMarket_117 gf_RX12_482 (k_ob_306 cs) (fun _ _ => rfl) ?_
      refine x_icmp_ge 144 dX12_layMarket_120 (by decide) ⟨(by omega), (by omega)⟩ (fun w120 => ?_) (fun w120 => ?_)
      · refine x_iload_n dX12_layMarket_144 rfl ?_
        exact x_ireturn dX12_layMarket_145 rfl (by omega) (by omega) (by rw [if_neg (by omega)] at h4; rw [h4]; exact hp)
      · refine x_aload_n dX12_layMarket_123 rfl ?_
        refine x_getR (b := 323) dX12_layMarket_124 gf_RX12_71 (k_ob_306 cs) (fun _ _ => rfl) (k_r_306_37 cs) ?_
        refine x_iload_n dX12_layMarket_127 rfl ?_
        refine x_iaload dX12_layMarket_128 (k_ar_323 cs) (by omega) (by omega) ?_
        have g1 := m3 t (by omega)
        have g3 := m5 t (by omega)
        rw [show ((t : Nat) : Int).toNat = t by omega]
        refine x_aload_n dX12_layMarket_129 rfl ?_
        refine x_getR (b := 324) dX12_layMarket_130 gf_RX12_74 (k_ob_306 cs) (fun _ _ => rfl) (k_r_306_38 cs) ?_
        refine x_iload_n dX12_layMarket_133 rfl ?_
        refine x_iaload dX12_layMarket_134 (k_ar_324 cs) (by omega) (by omega) ?_
        have g2 := m4 t (by omega)
        have g4 := m6 t (by omega)
        rw [show ((t : Nat) : Int).toNat = t by omega]
        refine x_icmp_lt 144 dX12_layMarket_135 (by decide) ⟨(by omega), (by omega)⟩ (fun w135 => ?_) (fun w135 => ?_)
        · refine x_iload_n dX12_layMarket_144 rfl ?_
          exact x_ireturn dX12_layMarket_145 rfl (by omega) (by omega) (by rw [if_neg (by omega)] at h4; rw [h4]; exact hp)
        · refine x_iinc (lv2 := [(1, _), (0, _)]) dX12_layMarket_138 rfl (by decide) rfl ?_
          refine x_goto 107 dX12_layMarket_141 (by decide) ?_
          refine x_sub [1, 0] rfl ?_
          rw [if_pos (by omega)] at h4
          exact ih (t + 1) (by omega) (by omega) (by omega) h4
theorem lp_layMarket (cs : CS S R) (hA0 : I 307 = A) (hb : BA A) (hn : 1 ≤ n) (hp : ∀ I', MKm I' (mkF A (A 5).toNat) → Fmk I I' → Post (some (.int (iI (tradesA A : Int)))) S I' R) : ∀ (d k : Nat) (J : CI), (k : Int) ≤ A 5 → (A 5).toNat - k = d → MKm J (mkF A k) → Fmk I J → WP n 0 0 mX12_layMarket Post 13 [(0, .ref (S.2.1 306)), (1, .int (iI ((74 + 2 * k : Nat) : Int)))] [] 0 0 S J R := by
  have b5 := hb.2.1.2.2.2.2.1
  have db := hb.2.2.2.2.1
  intro d
  induction d using Nat.strongRecOn with
  | ind d ih =>
    intro k J k1 k2 hM hF
    have hA : J 307 = A := by rw [hF.1 307 (by omega) (by omega) (by omega)]; exact hA0
    have hkn := mkF_n A k
    obtain ⟨⟨m1, m2⟩, m3, m4, m5, m6⟩ := id hM
    obtain ⟨bn, hbn⟩ : ∃ bn : Nat, (mkF A k).2.1 = (bn : Int) := ⟨(mkF A k).2.1.toNat, by omega⟩
    obtain ⟨sn, hsn⟩ : ∃ sn : Nat, (mkF A k).2.2 = (sn : Int) := ⟨(mkF A k).2.2.toNat, by omega⟩
    have dk : k < 10 → _ := fun h => db k h
    refine x_iload_n dX12_layMarket_13 rfl ?_
    refine x_bipush dX12_layMarket_14 (by decide) ?_
    refine x_iconst dX12_layMarket_16 ?_
    refine x_aload_n dX12_layMarket_17 rfl ?_
    refine x_getR (b := 307) dX12_layMarket_18 gf_RX12_7 (k_ob_306 cs) (fun _ _ => rfl) (k_r_306_0 cs) ?_
    refine x_iconst dX12_layMarket_21 ?_
    refine x_ald7 (kk := 5) (v := A 5) dX12_layMarket_22 cs (by omega) (by omega) (by rw [hA]; repeat (first | rfl | rw [upA_s] | rw [upA_o (by omega)])) ?_
    refine x_imul dX12_layMarket_23 ?_
    refine x_iadd dX12_layMarket_24 ?_
    refine x_icmp_ge 105 dX12_layMarket_25 (by decide) ⟨(by omega), (by omega)⟩ (fun w25 => ?_) (fun w25 => ?_)
    · obtain rfl : k = (A 5).toNat := by omega
      refine x_iconst dX12_layMarket_105 ?_
      refine x_istore_n (lv2 := [(1, _), (0, _)]) dX12_layMarket_106 (by decide) rfl ?_
      refine x_sub [1, 0] rfl ?_
      exact lp2_layMarket cs (by omega) hM (hp _ hM hF) 11 0 rfl (by omega) (by omega) rfl
    · have g2 := dk (by omega)
      refine x_aload_n dX12_layMarket_28 rfl ?_
      refine x_getR (b := 307) dX12_layMarket_29 gf_RX12_7 (k_ob_306 cs) (fun _ _ => rfl) (k_r_306_0 cs) ?_
      refine x_iload_n dX12_layMarket_32 rfl ?_
      refine x_iconst dX12_layMarket_33 ?_
      refine x_iadd dX12_layMarket_34 ?_
      refine x_ald7 (kk := 75 + 2 * k) (v := A (75 + 2 * k)) dX12_layMarket_35 cs (by omega) (by omega) (by rw [hA]; repeat (first | rfl | rw [upA_s] | rw [upA_o (by omega)])) ?_
      refine x_iconst dX12_layMarket_36 ?_
      refine x_icmp_ne 71 dX12_layMarket_37 (by decide) ⟨(by omega), (by omega)⟩ (fun w37 => ?_) (fun w37 => ?_)
      · refine x_aload_n dX12_layMarket_71 rfl ?_
        refine x_getR (b := 324) dX12_layMarket_72 gf_RX12_74 (k_ob_306 cs) (fun _ _ => rfl) (k_r_306_38 cs) ?_
        refine x_aload_n dX12_layMarket_75 rfl ?_
        refine x_getIv (z := (sn : Int)) dX12_layMarket_76 gf_RX12_482 (k_ob_306 cs) (fun _ _ => rfl) (by first | exact m1.trans hbn | exact m2.trans hsn | (rw [ho55 306 (by omega)]; exact m1) | (rw [ho86 306 (by omega)]; exact m2)) ?_
        refine x_aload_n dX12_layMarket_79 rfl ?_
        refine x_getR (b := 307) dX12_layMarket_80 gf_RX12_7 (k_ob_306 cs) (fun _ _ => rfl) (k_r_306_0 cs) ?_
        refine x_iload_n dX12_layMarket_83 rfl ?_
        refine x_ald7 (kk := 74 + 2 * k) (v := A (74 + 2 * k)) dX12_layMarket_84 cs (by omega) (by omega) (by rw [hA]; repeat (first | rfl | rw [upA_s] | rw [upA_o (by omega)])) ?_
        refine x_iconst dX12_layMarket_85 ?_
        refine x_callS4 (mc1 := 0) (ms1 := 0) dX12_layMarket_86 cv_RX12_485 (Nat.le_of_ble_eq_true rfl) (n1 := n - 1) (by omega) (by omega) (by omega) ?_
        refine sp_X12_lay (a := 324) m6 (k_ar_324 cs) (by omega) (by omega) (by omega) (fun I86 hr86 ho86 => ?_)
        refine x_aload_n dX12_layMarket_89 rfl ?_
        refine x_dup dX12_layMarket_90 rfl ?_
        refine x_getIv (z := (mkF A k).2.2) dX12_layMarket_91 gf_RX12_482 (k_ob_306 cs) (fun _ _ => rfl) (by first | exact m1.trans hbn | exact m2.trans hsn | (rw [ho55 306 (by omega)]; exact m1) | (rw [ho86 306 (by omega)]; exact m2)) ?_
        refine x_iconst dX12_layMarket_94 ?_
        refine x_iadd dX12_layMarket_95 ?_
        refine x_putI dX12_layMarket_96 gf_RX12_482 (k_ob_306 cs) rfl ?_
        refine x_iinc (lv2 := [(1, _), (0, _)]) dX12_layMarket_99 rfl (by decide) rfl ?_
        refine x_goto 13 dX12_layMarket_102 (by decide) ?_
        refine x_sub [1, 0] rfl ?_
        rw [show ((74 + 2 * k : Nat) : Int) + 2 = ((74 + 2 * (k + 1) : Nat) : Int) by omega]
        first
          | (have es : mkF A (k + 1) = ((insF (A (74 + 2 * k)) 1 bn (mkF A k).1.1, (mkF A k).1.2), ((mkF A k).2.1 + 1, (mkF A k).2.2)) := (by simp only [mkF]; rw [if_pos (by omega), hbn, show ((bn : Nat) : Int).toNat = bn by omega])
             refine ih _ (by omega) (k + 1) _ (by omega) rfl (by
               rw [es]
               refine ⟨⟨?_, ?_⟩, fun i hi => ?_, fun i hi => ?_, fun i hi => ?_, fun i hi => ?_⟩
               · rw [uI_s]
               · rw [uI_o (by omega), ho55 306 (by omega)]; exact m2
               · rw [uI_o (by omega), hr55]
                 have hi2 : (i : Int) < (mkF A k).2.1 + 1 := hi
                 exact insF_congr _ _ _ _ _ (fun z hz => m3 z (by omega)) i (by omega)
               · rw [uI_o (by omega), ho55 324 (by omega)]; exact m4 i hi
               · rw [uI_o (by omega), hr55]; exact insF_b _ _ (by omega) _ _ (by omega) m5 i hi
               · rw [uI_o (by omega), ho55 324 (by omega)]; exact m6 i hi) ⟨fun c h1 h2 h3 => (uI_row h1).trans ((ho55 c h2).trans (hF.1 c h1 h2 h3)), fun i h1 h2 => (by rw [uI_o (Or.inr h1), ho55 306 (by omega)]; exact hF.2 i h1 h2)⟩)
          | (have es : mkF A (k + 1) = (((mkF A k).1.1, insF (A (74 + 2 * k)) 0 sn (mkF A k).1.2), ((mkF A k).2.1, (mkF A k).2.2 + 1)) := (by simp only [mkF]; rw [if_neg (by omega), hsn, show ((sn : Nat) : Int).toNat = sn by omega])
             refine ih _ (by omega) (k + 1) _ (by omega) rfl (by
               rw [es]
               refine ⟨⟨?_, ?_⟩, fun i hi => ?_, fun i hi => ?_, fun i hi => ?_, fun i hi => ?_⟩
               · rw [uI_o (by omega), ho86 306 (by omega)]; exact m1
               · rw [uI_s]
               · rw [uI_o (by omega), ho86 323 (by omega)]; exact m3 i hi
               · rw [uI_o (by omega), hr86]
                 have hi2 : (i : Int) < (mkF A k).2.2 + 1 := hi
                 exact insF_congr _ _ _ _ _ (fun z hz => m4 z (by omega)) i (by omega)
               · rw [uI_o (by omega), ho86 323 (by omega)]; exact m5 i hi
               · rw [uI_o (by omega), hr86]; exact insF_b _ _ (by omega) _ _ (by omega) m6 i hi) ⟨fun c h1 h2 h3 => (uI_row h1).trans ((ho86 c h3).trans (hF.1 c h1 h2 h3)), fun i h1 h2 => (by rw [uI_o (Or.inr h2), ho86 306 (by omega)]; exact hF.2 i h1 h2)⟩)
      · refine x_aload_n dX12_layMarket_40 rfl ?_
        refine x_getR (b := 323) dX12_layMarket_41 gf_RX12_71 (k_ob_306 cs) (fun _ _ => rfl) (k_r_306_37 cs) ?_
        refine x_aload_n dX12_layMarket_44 rfl ?_
        refine x_getIv (z := (bn : Int)) dX12_layMarket_45 gf_RX12_479 (k_ob_306 cs) (fun _ _ => rfl) (by first | exact m1.trans hbn | exact m2.trans hsn | (rw [ho55 306 (by omega)]; exact m1) | (rw [ho86 306 (by omega)]; exact m2)) ?_
        refine x_aload_n dX12_layMarket_48 rfl ?_
        refine x_getR (b := 307) dX12_layMarket_49 gf_RX12_7 (k_ob_306 cs) (fun _ _ => rfl) (k_r_306_0 cs) ?_
        refine x_iload_n dX12_layMarket_52 rfl ?_
        refine x_ald7 (kk := 74 + 2 * k) (v := A (74 + 2 * k)) dX12_layMarket_53 cs (by omega) (by omega) (by rw [hA]; repeat (first | rfl | rw [upA_s] | rw [upA_o (by omega)])) ?_
        refine x_iconst dX12_layMarket_54 ?_
        refine x_callS4 (mc1 := 0) (ms1 := 0) dX12_layMarket_55 cv_RX12_485 (Nat.le_of_ble_eq_true rfl) (n1 := n - 1) (by omega) (by omega) (by omega) ?_
        refine sp_X12_lay (a := 323) m5 (k_ar_323 cs) (by omega) (by omega) (by omega) (fun I55 hr55 ho55 => ?_)
        refine x_aload_n dX12_layMarket_58 rfl ?_
        refine x_dup dX12_layMarket_59 rfl ?_
        refine x_getIv (z := (mkF A k).2.1) dX12_layMarket_60 gf_RX12_479 (k_ob_306 cs) (fun _ _ => rfl) (by first | exact m1.trans hbn | exact m2.trans hsn | (rw [ho55 306 (by omega)]; exact m1) | (rw [ho86 306 (by omega)]; exact m2)) ?_
        refine x_iconst dX12_layMarket_63 ?_
        refine x_iadd dX12_layMarket_64 ?_
        refine x_putI dX12_layMarket_65 gf_RX12_479 (k_ob_306 cs) rfl ?_
        refine x_goto 99 dX12_layMarket_68 (by decide) ?_
        refine x_iinc (lv2 := [(1, _), (0, _)]) dX12_layMarket_99 rfl (by decide) rfl ?_
        refine x_goto 13 dX12_layMarket_102 (by decide) ?_
        refine x_sub [1, 0] rfl ?_
        rw [show ((74 + 2 * k : Nat) : Int) + 2 = ((74 + 2 * (k + 1) : Nat) : Int) by omega]
        first
          | (have es : mkF A (k + 1) = ((insF (A (74 + 2 * k)) 1 bn (mkF A k).1.1, (mkF A k).1.2), ((mkF A k).2.1 + 1, (mkF A k).2.2)) := (by simp only [mkF]; rw [if_pos (by omega), hbn, show ((bn : Nat) : Int).toNat = bn by omega])
             refine ih _ (by omega) (k + 1) _ (by omega) rfl (by
               rw [es]
               refine ⟨⟨?_, ?_⟩, fun i hi => ?_, fun i hi => ?_, fun i hi => ?_, fun i hi => ?_⟩
               · rw [uI_s]
               · rw [uI_o (by omega), ho55 306 (by omega)]; exact m2
               · rw [uI_o (by omega), hr55]
                 have hi2 : (i : Int) < (mkF A k).2.1 + 1 := hi
                 exact insF_congr _ _ _ _ _ (fun z hz => m3 z (by omega)) i (by omega)
               · rw [uI_o (by omega), ho55 324 (by omega)]; exact m4 i hi
               · rw [uI_o (by omega), hr55]; exact insF_b _ _ (by omega) _ _ (by omega) m5 i hi
               · rw [uI_o (by omega), ho55 324 (by omega)]; exact m6 i hi) ⟨fun c h1 h2 h3 => (uI_row h1).trans ((ho55 c h2).trans (hF.1 c h1 h2 h3)), fun i h1 h2 => (by rw [uI_o (Or.inr h1), ho55 306 (by omega)]; exact hF.2 i h1 h2)⟩)
          | (have es : mkF A (k + 1) = (((mkF A k).1.1, insF (A (74 + 2 * k)) 0 sn (mkF A k).1.2), ((mkF A k).2.1, (mkF A k).2.2 + 1)) := (by simp only [mkF]; rw [if_neg (by omega), hsn, show ((sn : Nat) : Int).toNat = sn by omega])
             refine ih _ (by omega) (k + 1) _ (by omega) rfl (by
               rw [es]
               refine ⟨⟨?_, ?_⟩, fun i hi => ?_, fun i hi => ?_, fun i hi => ?_, fun i hi => ?_⟩
               · rw [uI_o (by omega), ho86 306 (by omega)]; exact m1
               · rw [uI_s]
               · rw [uI_o (by omega), ho86 323 (by omega)]; exact m3 i hi
               · rw [uI_o (by omega), hr86]
                 have hi2 : (i : Int) < (mkF A k).2.2 + 1 := hi
                 exact insF_congr _ _ _ _ _ (fun z hz => m4 z (by omega)) i (by omega)
               · rw [uI_o (by omega), ho86 323 (by omega)]; exact m5 i hi
               · rw [uI_o (by omega), hr86]; exact insF_b _ _ (by omega) _ _ (by omega) m6 i hi) ⟨fun c h1 h2 h3 => (uI_row h1).trans ((ho86 c h3).trans (hF.1 c h1 h2 h3)), fun i h1 h2 => (by rw [uI_o (Or.inr h2), ho86 306 (by omega)]; exact hF.2 i h1 h2)⟩)
theorem sp_X12_layMarket  (cs : CS S R) (hA : I 307 = A) (hb : BA A) (hd : DM I) (hn : 1 ≤ n) (hp : ∀ I', MKm I' (mkF A (A 5).toNat) → Fmk I I' → Post (some (.int (iI (tradesA A : Int)))) S I' R) : Call n 0 0 mX12_layMarket [.ref (S.2.1 306)] S I R Post := by
  have b5 := hb.2.1.2.2.2.2.1
  refine Call.of (by decide +kernel) (Nat.le_of_ble_eq_true rfl) ?_
  show WP _ _ _ _ _ 0 [(0, _)] [] 0 0 _ _ _
  refine x_aload_n dX12_layMarket_0 rfl ?_
  refine x_iconst dX12_layMarket_1 ?_
  refine x_putI dX12_layMarket_2 gf_RX12_479 (k_ob_306 cs) rfl ?_
  refine x_aload_n dX12_layMarket_5 rfl ?_
  refine x_iconst dX12_layMarket_6 ?_
  refine x_putI dX12_layMarket_7 gf_RX12_482 (k_ob_306 cs) rfl ?_
  refine x_bipush dX12_layMarket_10 (by decide) ?_
  refine x_istore_n (lv2 := [(1, _), (0, _)]) dX12_layMarket_12 (by decide) rfl ?_
  refine x_sub [1, 0] rfl ?_
  exact lp_layMarket cs (by rw [uI_row (by omega), uI_row (by omega)]; exact hA) hb hn (fun I2 h1 h2 => hp I2 h1 ⟨fun c q1 q2 q3 => (h2.1 c q1 q2 q3).trans ((uI_row q1).trans (uI_row q1)), fun i q1 q2 => (h2.2 i q1 q2).trans ((uI_o (Or.inr q2)).trans (uI_o (Or.inr q1)))⟩) _ 0 _ (by omega) rfl ⟨⟨by rw [uI_o (by omega), uI_s]; rfl, by rw [uI_s]; rfl⟩, fun i hi => by (have h0 : (i : Int) < 0 := hi); omega, fun i hi => by (have h0 : (i : Int) < 0 := hi); omega, fun i hi => by rw [uI_o (by omega), uI_o (by omega)]; exact hd.1 i hi, fun i hi => by rw [uI_o (by omega), uI_o (by omega)]; exact hd.2 i hi⟩ ⟨fun _ _ _ _ => rfl, fun _ _ _ => rfl⟩
theorem dX12_market_0 : decode prog_14_method_140_code 0 = .ok (.iload_n 1, 1) := by decide +kernel
theorem dX12_market_1 : decode prog_14_method_140_code 1 = .ok (.iconst 0, 1) := by decide +kernel
theorem dX12_market_2 : decode prog_14_method_140_code 2 = .ok (.iconst 2, 1) := by decide +kernel
theorem dX12_market_3 : decode prog_14_method_140_code 3 = .ok (.invokestatic 81, 3) := by decide +kernel
theorem dX12_market_6 : decode prog_14_method_140_code 6 = .ok (.ifCond .ne 5, 3) := by decide +kernel
theorem dX12_market_9 : decode prog_14_method_140_code 9 = .ok (.iconst (-1), 1) := by decide +kernel
theorem dX12_market_10 : decode prog_14_method_140_code 10 = .ok (.ireturn, 1) := by decide +kernel
theorem dX12_market_11 : decode prog_14_method_140_code 11 = .ok (.aload_n 0, 1) := by decide +kernel
theorem dX12_market_12 : decode prog_14_method_140_code 12 = .ok (.invokevirtual 489, 3) := by decide +kernel
theorem dX12_market_15 : decode prog_14_method_140_code 15 = .ok (.istore_n 2, 1) := by decide +kernel
theorem dX12_market_16 : decode prog_14_method_140_code 16 = .ok (.iload_n 1, 1) := by decide +kernel
theorem dX12_market_17 : decode prog_14_method_140_code 17 = .ok (.ifCond .ne 5, 3) := by decide +kernel
theorem dX12_market_20 : decode prog_14_method_140_code 20 = .ok (.iload_n 2, 1) := by decide +kernel
theorem dX12_market_21 : decode prog_14_method_140_code 21 = .ok (.ireturn, 1) := by decide +kernel
theorem dX12_market_22 : decode prog_14_method_140_code 22 = .ok (.iload_n 2, 1) := by decide +kernel
theorem dX12_market_23 : decode prog_14_method_140_code 23 = .ok (.ifCond .ne 5, 3) := by decide +kernel
theorem dX12_market_26 : decode prog_14_method_140_code 26 = .ok (.iconst (-1), 1) := by decide +kernel
theorem dX12_market_27 : decode prog_14_method_140_code 27 = .ok (.ireturn, 1) := by decide +kernel
theorem dX12_market_28 : decode prog_14_method_140_code 28 = .ok (.aload_n 0, 1) := by decide +kernel
theorem dX12_market_29 : decode prog_14_method_140_code 29 = .ok (.getfield 74, 3) := by decide +kernel
theorem dX12_market_32 : decode prog_14_method_140_code 32 = .ok (.iload_n 2, 1) := by decide +kernel
theorem dX12_market_33 : decode prog_14_method_140_code 33 = .ok (.iconst 1, 1) := by decide +kernel
theorem dX12_market_34 : decode prog_14_method_140_code 34 = .ok (.isub, 1) := by decide +kernel
theorem dX12_market_35 : decode prog_14_method_140_code 35 = .ok (.iaload, 1) := by decide +kernel
theorem dX12_market_36 : decode prog_14_method_140_code 36 = .ok (.istore_n 3, 1) := by decide +kernel
theorem dX12_market_37 : decode prog_14_method_140_code 37 = .ok (.aload_n 0, 1) := by decide +kernel
theorem dX12_market_38 : decode prog_14_method_140_code 38 = .ok (.getfield 71, 3) := by decide +kernel
theorem dX12_market_41 : decode prog_14_method_140_code 41 = .ok (.iload_n 2, 1) := by decide +kernel
theorem dX12_market_42 : decode prog_14_method_140_code 42 = .ok (.iconst 1, 1) := by decide +kernel
theorem dX12_market_43 : decode prog_14_method_140_code 43 = .ok (.isub, 1) := by decide +kernel
theorem dX12_market_44 : decode prog_14_method_140_code 44 = .ok (.iaload, 1) := by decide +kernel
theorem dX12_market_45 : decode prog_14_method_140_code 45 = .ok (.istore 4, 2) := by decide +kernel
theorem dX12_market_47 : decode prog_14_method_140_code 47 = .ok (.iload_n 2, 1) := by decide +kernel
theorem dX12_market_48 : decode prog_14_method_140_code 48 = .ok (.aload_n 0, 1) := by decide +kernel
theorem dX12_market_49 : decode prog_14_method_140_code 49 = .ok (.getfield 479, 3) := by decide +kernel
theorem dX12_market_52 : decode prog_14_method_140_code 52 = .ok (.if_icmp .ge 20, 3) := by decide +kernel
theorem dX12_market_55 : decode prog_14_method_140_code 55 = .ok (.aload_n 0, 1) := by decide +kernel
theorem dX12_market_56 : decode prog_14_method_140_code 56 = .ok (.getfield 71, 3) := by decide +kernel
theorem dX12_market_59 : decode prog_14_method_140_code 59 = .ok (.iload_n 2, 1) := by decide +kernel
theorem dX12_market_60 : decode prog_14_method_140_code 60 = .ok (.iaload, 1) := by decide +kernel
theorem dX12_market_61 : decode prog_14_method_140_code 61 = .ok (.iload_n 3, 1) := by decide +kernel
theorem dX12_market_62 : decode prog_14_method_140_code 62 = .ok (.if_icmp .le 10, 3) := by decide +kernel
theorem dX12_market_65 : decode prog_14_method_140_code 65 = .ok (.aload_n 0, 1) := by decide +kernel
theorem dX12_market_66 : decode prog_14_method_140_code 66 = .ok (.getfield 71, 3) := by decide +kernel
theorem dX12_market_69 : decode prog_14_method_140_code 69 = .ok (.iload_n 2, 1) := by decide +kernel
theorem dX12_market_70 : decode prog_14_method_140_code 70 = .ok (.iaload, 1) := by decide +kernel
theorem dX12_market_71 : decode prog_14_method_140_code 71 = .ok (.istore_n 3, 1) := by decide +kernel
theorem dX12_market_72 : decode prog_14_method_140_code 72 = .ok (.iload_n 2, 1) := by decide +kernel
theorem dX12_market_73 : decode prog_14_method_140_code 73 = .ok (.aload_n 0, 1) := by decide +kernel
theorem dX12_market_74 : decode prog_14_method_140_code 74 = .ok (.getfield 482, 3) := by decide +kernel
theorem dX12_market_77 : decode prog_14_method_140_code 77 = .ok (.if_icmp .ge 22, 3) := by decide +kernel
theorem dX12_market_80 : decode prog_14_method_140_code 80 = .ok (.aload_n 0, 1) := by decide +kernel
theorem dX12_market_81 : decode prog_14_method_140_code 81 = .ok (.getfield 74, 3) := by decide +kernel
theorem dX12_market_84 : decode prog_14_method_140_code 84 = .ok (.iload_n 2, 1) := by decide +kernel
theorem dX12_market_85 : decode prog_14_method_140_code 85 = .ok (.iaload, 1) := by decide +kernel
theorem dX12_market_86 : decode prog_14_method_140_code 86 = .ok (.iload 4, 2) := by decide +kernel
theorem dX12_market_88 : decode prog_14_method_140_code 88 = .ok (.if_icmp .ge 11, 3) := by decide +kernel
theorem dX12_market_91 : decode prog_14_method_140_code 91 = .ok (.aload_n 0, 1) := by decide +kernel
theorem dX12_market_92 : decode prog_14_method_140_code 92 = .ok (.getfield 74, 3) := by decide +kernel
theorem dX12_market_95 : decode prog_14_method_140_code 95 = .ok (.iload_n 2, 1) := by decide +kernel
theorem dX12_market_96 : decode prog_14_method_140_code 96 = .ok (.iaload, 1) := by decide +kernel
theorem dX12_market_97 : decode prog_14_method_140_code 97 = .ok (.istore 4, 2) := by decide +kernel
theorem dX12_market_99 : decode prog_14_method_140_code 99 = .ok (.iload_n 1, 1) := by decide +kernel
theorem dX12_market_100 : decode prog_14_method_140_code 100 = .ok (.iconst 1, 1) := by decide +kernel
theorem dX12_market_101 : decode prog_14_method_140_code 101 = .ok (.if_icmp .ne 7, 3) := by decide +kernel
theorem dX12_market_104 : decode prog_14_method_140_code 104 = .ok (.iload_n 3, 1) := by decide +kernel
theorem dX12_market_105 : decode prog_14_method_140_code 105 = .ok (.goto 5, 3) := by decide +kernel
theorem dX12_market_108 : decode prog_14_method_140_code 108 = .ok (.iload 4, 2) := by decide +kernel
theorem dX12_market_110 : decode prog_14_method_140_code 110 = .ok (.ireturn, 1) := by decide +kernel
theorem sp_X12_market {w : Int} (cs : CS S R) (hA : I 307 = A) (hb : BA A) (hd : DM I) (hw : Rg w) (hn : 2 ≤ n) (hp : ∀ I', Fmk I I' → DM I' → Post (some (.int (iI (f_market A w)))) S I' R) : Call n 0 0 mX12_market [.ref (S.2.1 306), .int (iI w)] S I R Post := by
  have b5 := hb.2.1.2.2.2.2.1
  unfold f_market lstP grtP at hp
  have emk0 : mkA A = mkF A (A 5).toNat := rfl
  rw [emk0] at hp
  refine Call.of (by decide +kernel) (Nat.le_of_ble_eq_true rfl) ?_
  show WP _ _ _ _ _ 0 [(0, _), (1, _)] [] 0 0 _ _ _
  refine x_iload_n dX12_market_0 rfl ?_
  refine x_iconst dX12_market_1 ?_
  refine x_iconst dX12_market_2 ?_
  refine x_callS3 (mc1 := 0) (ms1 := 0) dX12_market_3 cv_RX12_81 (Nat.le_of_ble_eq_true rfl) (n1 := n - 1) (by omega) (by omega) (by omega) ?_
  refine sp_X12_isIn (by omega) (by omega) (by omega) (fun r3 hr3 => ?_)
  refine x_if_ne 11 dX12_market_6 (by decide) (by omega) (fun w6 => ?_) (fun w6 => ?_)
  · refine x_aload_n dX12_market_11 rfl ?_
    refine x_callV0 (mc1 := 0) (ms1 := 0) dX12_market_12 cv_RX12_489 (ci := 12) (k_ob_306 cs) rfl (Nat.le_of_ble_eq_true rfl) (n1 := n - 1) (by omega) (by omega) (by omega) ?_
    refine sp_X12_layMarket cs hA hb hd (by omega) (fun J12 hM12 f12 => ?_)
    obtain ⟨⟨m1, m2⟩, m3, m4, m5, m6⟩ := id hM12
    have tb := trades_b (A := A) b5
    have nn := mkF_n A (A 5).toNat
    have hDM : DM J12 := ⟨m5, m6⟩
    have emk : mkA A = mkF A (A 5).toNat := rfl
    rw [emk] at tb
    refine x_istore_n (lv2 := [(2, _), (0, _), (1, _)]) dX12_market_15 (by decide) rfl ?_
    refine x_iload_n dX12_market_16 rfl ?_
    refine x_if_ne 22 dX12_market_17 (by decide) (by omega) (fun w17 => ?_) (fun w17 => ?_)
    · refine x_iload_n dX12_market_22 rfl ?_
      refine x_if_ne 28 dX12_market_23 (by decide) (by omega) (fun w23 => ?_) (fun w23 => ?_)
      · have s1 := m4 (tradesA A - 1) (by omega)
        have s2 := m6 (tradesA A - 1) (by omega)
        have q1 := m3 (tradesA A - 1) (by omega)
        have q2 := m5 (tradesA A - 1) (by omega)
        refine x_aload_n dX12_market_28 rfl ?_
        refine x_getR (b := 324) dX12_market_29 gf_RX12_74 (k_ob_306 cs) (fun _ _ => rfl) (k_r_306_38 cs) ?_
        refine x_iload_n dX12_market_32 rfl ?_
        refine x_iconst dX12_market_33 ?_
        refine x_isub dX12_market_34 ?_
        refine x_iaload dX12_market_35 (k_ar_324 cs) (by omega) (by omega) ?_
        rw [show ((tradesA A : Int) - 1).toNat = tradesA A - 1 by omega, s1]
        refine x_istore_n (lv2 := [(3, _), (2, _), (0, _), (1, _)]) dX12_market_36 (by decide) rfl ?_
        refine x_aload_n dX12_market_37 rfl ?_
        refine x_getR (b := 323) dX12_market_38 gf_RX12_71 (k_ob_306 cs) (fun _ _ => rfl) (k_r_306_37 cs) ?_
        refine x_iload_n dX12_market_41 rfl ?_
        refine x_iconst dX12_market_42 ?_
        refine x_isub dX12_market_43 ?_
        refine x_iaload dX12_market_44 (k_ar_323 cs) (by omega) (by omega) ?_
        rw [show ((tradesA A : Int) - 1).toNat = tradesA A - 1 by omega, q1]
        refine x_istore (lv2 := [(4, _), (3, _), (2, _), (0, _), (1, _)]) dX12_market_45 (by decide) rfl ?_
        refine x_iload_n dX12_market_47 rfl ?_
        refine x_aload_n dX12_market_48 rfl ?_
        refine x_getIv (z := (mkF A (A 5).toNat).2.1) dX12_market_49 gf_RX12_479 (k_ob_306 cs) (fun _ _ => rfl) (by first | exact m1 | exact m2) ?_
        refine x_icmp_ge 72 dX12_market_52 (by decide) ⟨(by omega), (by omega)⟩ (fun w52 => ?_) (fun w52 => ?_)
        · refine x_iload_n dX12_market_72 rfl ?_
          refine x_aload_n dX12_market_73 rfl ?_
          refine x_getIv (z := (mkF A (A 5).toNat).2.2) dX12_market_74 gf_RX12_482 (k_ob_306 cs) (fun _ _ => rfl) (by first | exact m1 | exact m2) ?_
          refine x_icmp_ge 99 dX12_market_77 (by decide) ⟨(by omega), (by omega)⟩ (fun w77 => ?_) (fun w77 => ?_)
          · refine x_iload_n dX12_market_99 rfl ?_
            refine x_iconst dX12_market_100 ?_
            refine x_icmp_ne 108 dX12_market_101 (by decide) ⟨(by omega), (by omega)⟩ (fun w101 => ?_) (fun w101 => ?_)
            · refine x_iload dX12_market_108 rfl ?_
              exact x_ireturn dX12_market_110 rfl (by omega) (by omega) (by
    first
      | (rw [if_neg (show ¬ w = 0 by omega), if_neg (show ¬ w = 1 by omega), if_neg (show ¬ w = 2 by omega)] at hp; exact hp _ ⟨fun _ _ _ _ => rfl, fun _ _ _ => rfl⟩ hd)
      | (rw [if_pos (show w = 0 by omega)] at hp; exact hp _ f12 hDM)
      | (rw [if_neg (show ¬ w = 0 by omega), if_pos (show w = 1 by omega)] at hp
         first
           | (rw [if_pos (show tradesA A = 0 by omega)] at hp; exact hp _ f12 hDM)
           | (rw [if_neg (show ¬ tradesA A = 0 by omega), if_pos (by omega)] at hp; exact hp _ f12 hDM)
           | (rw [if_neg (show ¬ tradesA A = 0 by omega), if_neg (by omega)] at hp; exact hp _ f12 hDM))
      | (rw [if_neg (show ¬ w = 0 by omega), if_neg (show ¬ w = 1 by omega), if_pos (show w = 2 by omega)] at hp
         first
           | (rw [if_pos (show tradesA A = 0 by omega)] at hp; exact hp _ f12 hDM)
           | (rw [if_neg (show ¬ tradesA A = 0 by omega), if_pos (by omega)] at hp; exact hp _ f12 hDM)
           | (rw [if_neg (show ¬ tradesA A = 0 by omega), if_neg (by omega)] at hp; exact hp _ f12 hDM))
      | (rcases (show w = 1 ∨ w = 2 by omega) with hw9 | hw9
         · rw [if_neg (show ¬ w = 0 by omega), if_pos hw9, if_pos (show tradesA A = 0 by omega)] at hp; exact hp _ f12 hDM
         · rw [if_neg (show ¬ w = 0 by omega), if_neg (show ¬ w = 1 by omega), if_pos hw9, if_pos (show tradesA A = 0 by omega)] at hp; exact hp _ f12 hDM))
            · refine x_iload_n dX12_market_104 rfl ?_
              refine x_goto 110 dX12_market_105 (by decide) ?_
              exact x_ireturn dX12_market_110 rfl (by omega) (by omega) (by
    first
      | (rw [if_neg (show ¬ w = 0 by omega), if_neg (show ¬ w = 1 by omega), if_neg (show ¬ w = 2 by omega)] at hp; exact hp _ ⟨fun _ _ _ _ => rfl, fun _ _ _ => rfl⟩ hd)
      | (rw [if_pos (show w = 0 by omega)] at hp; exact hp _ f12 hDM)
      | (rw [if_neg (show ¬ w = 0 by omega), if_pos (show w = 1 by omega)] at hp
         first
           | (rw [if_pos (show tradesA A = 0 by omega)] at hp; exact hp _ f12 hDM)
           | (rw [if_neg (show ¬ tradesA A = 0 by omega), if_pos (by omega)] at hp; exact hp _ f12 hDM)
           | (rw [if_neg (show ¬ tradesA A = 0 by omega), if_neg (by omega)] at hp; exact hp _ f12 hDM))
      | (rw [if_neg (show ¬ w = 0 by omega), if_neg (show ¬ w = 1 by omega), if_pos (show w = 2 by omega)] at hp
         first
           | (rw [if_pos (show tradesA A = 0 by omega)] at hp; exact hp _ f12 hDM)
           | (rw [if_neg (show ¬ tradesA A = 0 by omega), if_pos (by omega)] at hp; exact hp _ f12 hDM)
           | (rw [if_neg (show ¬ tradesA A = 0 by omega), if_neg (by omega)] at hp; exact hp _ f12 hDM))
      | (rcases (show w = 1 ∨ w = 2 by omega) with hw9 | hw9
         · rw [if_neg (show ¬ w = 0 by omega), if_pos hw9, if_pos (show tradesA A = 0 by omega)] at hp; exact hp _ f12 hDM
         · rw [if_neg (show ¬ w = 0 by omega), if_neg (show ¬ w = 1 by omega), if_pos hw9, if_pos (show tradesA A = 0 by omega)] at hp; exact hp _ f12 hDM))
          · have s3 := m4 (tradesA A) (by omega)
            have s4 := m6 (tradesA A) (by omega)
            refine x_aload_n dX12_market_80 rfl ?_
            refine x_getR (b := 324) dX12_market_81 gf_RX12_74 (k_ob_306 cs) (fun _ _ => rfl) (k_r_306_38 cs) ?_
            refine x_iload_n dX12_market_84 rfl ?_
            refine x_iaload dX12_market_85 (k_ar_324 cs) (by omega) (by omega) ?_
            rw [tN, s3]
            refine x_iload dX12_market_86 rfl ?_
            refine x_icmp_ge 99 dX12_market_88 (by decide) ⟨(by omega), (by omega)⟩ (fun w88 => ?_) (fun w88 => ?_)
            · refine x_iload_n dX12_market_99 rfl ?_
              refine x_iconst dX12_market_100 ?_
              refine x_icmp_ne 108 dX12_market_101 (by decide) ⟨(by omega), (by omega)⟩ (fun w101 => ?_) (fun w101 => ?_)
              · refine x_iload dX12_market_108 rfl ?_
                exact x_ireturn dX12_market_110 rfl (by omega) (by omega) (by
    first
      | (rw [if_neg (show ¬ w = 0 by omega), if_neg (show ¬ w = 1 by omega), if_neg (show ¬ w = 2 by omega)] at hp; exact hp _ ⟨fun _ _ _ _ => rfl, fun _ _ _ => rfl⟩ hd)
      | (rw [if_pos (show w = 0 by omega)] at hp; exact hp _ f12 hDM)
      | (rw [if_neg (show ¬ w = 0 by omega), if_pos (show w = 1 by omega)] at hp
         first
           | (rw [if_pos (show tradesA A = 0 by omega)] at hp; exact hp _ f12 hDM)
           | (rw [if_neg (show ¬ tradesA A = 0 by omega), if_pos (by omega)] at hp; exact hp _ f12 hDM)
           | (rw [if_neg (show ¬ tradesA A = 0 by omega), if_neg (by omega)] at hp; exact hp _ f12 hDM))
      | (rw [if_neg (show ¬ w = 0 by omega), if_neg (show ¬ w = 1 by omega), if_pos (show w = 2 by omega)] at hp
         first
           | (rw [if_pos (show tradesA A = 0 by omega)] at hp; exact hp _ f12 hDM)
           | (rw [if_neg (show ¬ tradesA A = 0 by omega), if_pos (by omega)] at hp; exact hp _ f12 hDM)
           | (rw [if_neg (show ¬ tradesA A = 0 by omega), if_neg (by omega)] at hp; exact hp _ f12 hDM))
      | (rcases (show w = 1 ∨ w = 2 by omega) with hw9 | hw9
         · rw [if_neg (show ¬ w = 0 by omega), if_pos hw9, if_pos (show tradesA A = 0 by omega)] at hp; exact hp _ f12 hDM
         · rw [if_neg (show ¬ w = 0 by omega), if_neg (show ¬ w = 1 by omega), if_pos hw9, if_pos (show tradesA A = 0 by omega)] at hp; exact hp _ f12 hDM))
              · refine x_iload_n dX12_market_104 rfl ?_
                refine x_goto 110 dX12_market_105 (by decide) ?_
                exact x_ireturn dX12_market_110 rfl (by omega) (by omega) (by
    first
      | (rw [if_neg (show ¬ w = 0 by omega), if_neg (show ¬ w = 1 by omega), if_neg (show ¬ w = 2 by omega)] at hp; exact hp _ ⟨fun _ _ _ _ => rfl, fun _ _ _ => rfl⟩ hd)
      | (rw [if_pos (show w = 0 by omega)] at hp; exact hp _ f12 hDM)
      | (rw [if_neg (show ¬ w = 0 by omega), if_pos (show w = 1 by omega)] at hp
         first
           | (rw [if_pos (show tradesA A = 0 by omega)] at hp; exact hp _ f12 hDM)
           | (rw [if_neg (show ¬ tradesA A = 0 by omega), if_pos (by omega)] at hp; exact hp _ f12 hDM)
           | (rw [if_neg (show ¬ tradesA A = 0 by omega), if_neg (by omega)] at hp; exact hp _ f12 hDM))
      | (rw [if_neg (show ¬ w = 0 by omega), if_neg (show ¬ w = 1 by omega), if_pos (show w = 2 by omega)] at hp
         first
           | (rw [if_pos (show tradesA A = 0 by omega)] at hp; exact hp _ f12 hDM)
           | (rw [if_neg (show ¬ tradesA A = 0 by omega), if_pos (by omega)] at hp; exact hp _ f12 hDM)
           | (rw [if_neg (show ¬ tradesA A = 0 by omega), if_neg (by omega)] at hp; exact hp _ f12 hDM))
      | (rcases (show w = 1 ∨ w = 2 by omega) with hw9 | hw9
         · rw [if_neg (show ¬ w = 0 by omega), if_pos hw9, if_pos (show tradesA A = 0 by omega)] at hp; exact hp _ f12 hDM
         · rw [if_neg (show ¬ w = 0 by omega), if_neg (show ¬ w = 1 by omega), if_pos hw9, if_pos (show tradesA A = 0 by omega)] at hp; exact hp _ f12 hDM))
            · refine x_aload_n dX12_market_91 rfl ?_
              refine x_getR (b := 324) dX12_market_92 gf_RX12_74 (k_ob_306 cs) (fun _ _ => rfl) (k_r_306_38 cs) ?_
              refine x_iload_n dX12_market_95 rfl ?_
              refine x_iaload dX12_market_96 (k_ar_324 cs) (by omega) (by omega) ?_
              rw [tN, s3]
              refine x_istore (lv2 := [(4, _), (3, _), (2, _), (0, _), (1, _)]) dX12_market_97 (by decide) rfl ?_
              refine x_iload_n dX12_market_99 rfl ?_
              refine x_iconst dX12_market_100 ?_
              refine x_icmp_ne 108 dX12_market_101 (by decide) ⟨(by omega), (by omega)⟩ (fun w101 => ?_) (fun w101 => ?_)
              · refine x_iload dX12_market_108 rfl ?_
                exact x_ireturn dX12_market_110 rfl (by omega) (by omega) (by
    first
      | (rw [if_neg (show ¬ w = 0 by omega), if_neg (show ¬ w = 1 by omega), if_neg (show ¬ w = 2 by omega)] at hp; exact hp _ ⟨fun _ _ _ _ => rfl, fun _ _ _ => rfl⟩ hd)
      | (rw [if_pos (show w = 0 by omega)] at hp; exact hp _ f12 hDM)
      | (rw [if_neg (show ¬ w = 0 by omega), if_pos (show w = 1 by omega)] at hp
         first
           | (rw [if_pos (show tradesA A = 0 by omega)] at hp; exact hp _ f12 hDM)
           | (rw [if_neg (show ¬ tradesA A = 0 by omega), if_pos (by omega)] at hp; exact hp _ f12 hDM)
           | (rw [if_neg (show ¬ tradesA A = 0 by omega), if_neg (by omega)] at hp; exact hp _ f12 hDM))
      | (rw [if_neg (show ¬ w = 0 by omega), if_neg (show ¬ w = 1 by omega), if_pos (show w = 2 by omega)] at hp
         first
           | (rw [if_pos (show tradesA A = 0 by omega)] at hp; exact hp _ f12 hDM)
           | (rw [if_neg (show ¬ tradesA A = 0 by omega), if_pos (by omega)] at hp; exact hp _ f12 hDM)
           | (rw [if_neg (show ¬ tradesA A = 0 by omega), if_neg (by omega)] at hp; exact hp _ f12 hDM))
      | (rcases (show w = 1 ∨ w = 2 by omega) with hw9 | hw9
         · rw [if_neg (show ¬ w = 0 by omega), if_pos hw9, if_pos (show tradesA A = 0 by omega)] at hp; exact hp _ f12 hDM
         · rw [if_neg (show ¬ w = 0 by omega), if_neg (show ¬ w = 1 by omega), if_pos hw9, if_pos (show tradesA A = 0 by omega)] at hp; exact hp _ f12 hDM))
              · refine x_iload_n dX12_market_104 rfl ?_
                refine x_goto 110 dX12_market_105 (by decide) ?_
                exact x_ireturn dX12_market_110 rfl (by omega) (by omega) (by
    first
      | (rw [if_neg (show ¬ w = 0 by omega), if_neg (show ¬ w = 1 by omega), if_neg (show ¬ w = 2 by omega)] at hp; exact hp _ ⟨fun _ _ _ _ => rfl, fun _ _ _ => rfl⟩ hd)
      | (rw [if_pos (show w = 0 by omega)] at hp; exact hp _ f12 hDM)
      | (rw [if_neg (show ¬ w = 0 by omega), if_pos (show w = 1 by omega)] at hp
         first
           | (rw [if_pos (show tradesA A = 0 by omega)] at hp; exact hp _ f12 hDM)
           | (rw [if_neg (show ¬ tradesA A = 0 by omega), if_pos (by omega)] at hp; exact hp _ f12 hDM)
           | (rw [if_neg (show ¬ tradesA A = 0 by omega), if_neg (by omega)] at hp; exact hp _ f12 hDM))
      | (rw [if_neg (show ¬ w = 0 by omega), if_neg (show ¬ w = 1 by omega), if_pos (show w = 2 by omega)] at hp
         first
           | (rw [if_pos (show tradesA A = 0 by omega)] at hp; exact hp _ f12 hDM)
           | (rw [if_neg (show ¬ tradesA A = 0 by omega), if_pos (by omega)] at hp; exact hp _ f12 hDM)
           | (rw [if_neg (show ¬ tradesA A = 0 by omega), if_neg (by omega)] at hp; exact hp _ f12 hDM))
      | (rcases (show w = 1 ∨ w = 2 by omega) with hw9 | hw9
         · rw [if_neg (show ¬ w = 0 by omega), if_pos hw9, if_pos (show tradesA A = 0 by omega)] at hp; exact hp _ f12 hDM
         · rw [if_neg (show ¬ w = 0 by omega), if_neg (show ¬ w = 1 by omega), if_pos hw9, if_pos (show tradesA A = 0 by omega)] at hp; exact hp _ f12 hDM))
        · have q3 := m3 (tradesA A) (by omega)
          have q4 := m5 (tradesA A) (by omega)
          refine x_aload_n dX12_market_55 rfl ?_
          refine x_getR (b := 323) dX12_market_56 gf_RX12_71 (k_ob_306 cs) (fun _ _ => rfl) (k_r_306_37 cs) ?_
          refine x_iload_n dX12_market_59 rfl ?_
          refine x_iaload dX12_market_60 (k_ar_323 cs) (by omega) (by omega) ?_
          rw [tN, q3]
          refine x_iload_n dX12_market_61 rfl ?_
          refine x_icmp_le 72 dX12_market_62 (by decide) ⟨(by omega), (by omega)⟩ (fun w62 => ?_) (fun w62 => ?_)
          · refine x_iload_n dX12_market_72 rfl ?_
            refine x_aload_n dX12_market_73 rfl ?_
            refine x_getIv (z := (mkF A (A 5).toNat).2.2) dX12_market_74 gf_RX12_482 (k_ob_306 cs) (fun _ _ => rfl) (by first | exact m1 | exact m2) ?_
            refine x_icmp_ge 99 dX12_market_77 (by decide) ⟨(by omega), (by omega)⟩ (fun w77 => ?_) (fun w77 => ?_)
            · refine x_iload_n dX12_market_99 rfl ?_
              refine x_iconst dX12_market_100 ?_
              refine x_icmp_ne 108 dX12_market_101 (by decide) ⟨(by omega), (by omega)⟩ (fun w101 => ?_) (fun w101 => ?_)
              · refine x_iload dX12_market_108 rfl ?_
                exact x_ireturn dX12_market_110 rfl (by omega) (by omega) (by
    first
      | (rw [if_neg (show ¬ w = 0 by omega), if_neg (show ¬ w = 1 by omega), if_neg (show ¬ w = 2 by omega)] at hp; exact hp _ ⟨fun _ _ _ _ => rfl, fun _ _ _ => rfl⟩ hd)
      | (rw [if_pos (show w = 0 by omega)] at hp; exact hp _ f12 hDM)
      | (rw [if_neg (show ¬ w = 0 by omega), if_pos (show w = 1 by omega)] at hp
         first
           | (rw [if_pos (show tradesA A = 0 by omega)] at hp; exact hp _ f12 hDM)
           | (rw [if_neg (show ¬ tradesA A = 0 by omega), if_pos (by omega)] at hp; exact hp _ f12 hDM)
           | (rw [if_neg (show ¬ tradesA A = 0 by omega), if_neg (by omega)] at hp; exact hp _ f12 hDM))
      | (rw [if_neg (show ¬ w = 0 by omega), if_neg (show ¬ w = 1 by omega), if_pos (show w = 2 by omega)] at hp
         first
           | (rw [if_pos (show tradesA A = 0 by omega)] at hp; exact hp _ f12 hDM)
           | (rw [if_neg (show ¬ tradesA A = 0 by omega), if_pos (by omega)] at hp; exact hp _ f12 hDM)
           | (rw [if_neg (show ¬ tradesA A = 0 by omega), if_neg (by omega)] at hp; exact hp _ f12 hDM))
      | (rcases (show w = 1 ∨ w = 2 by omega) with hw9 | hw9
         · rw [if_neg (show ¬ w = 0 by omega), if_pos hw9, if_pos (show tradesA A = 0 by omega)] at hp; exact hp _ f12 hDM
         · rw [if_neg (show ¬ w = 0 by omega), if_neg (show ¬ w = 1 by omega), if_pos hw9, if_pos (show tradesA A = 0 by omega)] at hp; exact hp _ f12 hDM))
              · refine x_iload_n dX12_market_104 rfl ?_
                refine x_goto 110 dX12_market_105 (by decide) ?_
                exact x_ireturn dX12_market_110 rfl (by omega) (by omega) (by
    first
      | (rw [if_neg (show ¬ w = 0 by omega), if_neg (show ¬ w = 1 by omega), if_neg (show ¬ w = 2 by omega)] at hp; exact hp _ ⟨fun _ _ _ _ => rfl, fun _ _ _ => rfl⟩ hd)
      | (rw [if_pos (show w = 0 by omega)] at hp; exact hp _ f12 hDM)
      | (rw [if_neg (show ¬ w = 0 by omega), if_pos (show w = 1 by omega)] at hp
         first
           | (rw [if_pos (show tradesA A = 0 by omega)] at hp; exact hp _ f12 hDM)
           | (rw [if_neg (show ¬ tradesA A = 0 by omega), if_pos (by omega)] at hp; exact hp _ f12 hDM)
           | (rw [if_neg (show ¬ tradesA A = 0 by omega), if_neg (by omega)] at hp; exact hp _ f12 hDM))
      | (rw [if_neg (show ¬ w = 0 by omega), if_neg (show ¬ w = 1 by omega), if_pos (show w = 2 by omega)] at hp
         first
           | (rw [if_pos (show tradesA A = 0 by omega)] at hp; exact hp _ f12 hDM)
           | (rw [if_neg (show ¬ tradesA A = 0 by omega), if_pos (by omega)] at hp; exact hp _ f12 hDM)
           | (rw [if_neg (show ¬ tradesA A = 0 by omega), if_neg (by omega)] at hp; exact hp _ f12 hDM))
      | (rcases (show w = 1 ∨ w = 2 by omega) with hw9 | hw9
         · rw [if_neg (show ¬ w = 0 by omega), if_pos hw9, if_pos (show tradesA A = 0 by omega)] at hp; exact hp _ f12 hDM
         · rw [if_neg (show ¬ w = 0 by omega), if_neg (show ¬ w = 1 by omega), if_pos hw9, if_pos (show tradesA A = 0 by omega)] at hp; exact hp _ f12 hDM))
            · have s3 := m4 (tradesA A) (by omega)
              have s4 := m6 (tradesA A) (by omega)
              refine x_aload_n dX12_market_80 rfl ?_
              refine x_getR (b := 324) dX12_market_81 gf_RX12_74 (k_ob_306 cs) (fun _ _ => rfl) (k_r_306_38 cs) ?_
              refine x_iload_n dX12_market_84 rfl ?_
              refine x_iaload dX12_market_85 (k_ar_324 cs) (by omega) (by omega) ?_
              rw [tN, s3]
              refine x_iload dX12_market_86 rfl ?_
              refine x_icmp_ge 99 dX12_market_88 (by decide) ⟨(by omega), (by omega)⟩ (fun w88 => ?_) (fun w88 => ?_)
              · refine x_iload_n dX12_market_99 rfl ?_
                refine x_iconst dX12_market_100 ?_
                refine x_icmp_ne 108 dX12_market_101 (by decide) ⟨(by omega), (by omega)⟩ (fun w101 => ?_) (fun w101 => ?_)
                · refine x_iload dX12_market_108 rfl ?_
                  exact x_ireturn dX12_market_110 rfl (by omega) (by omega) (by
    first
      | (rw [if_neg (show ¬ w = 0 by omega), if_neg (show ¬ w = 1 by omega), if_neg (show ¬ w = 2 by omega)] at hp; exact hp _ ⟨fun _ _ _ _ => rfl, fun _ _ _ => rfl⟩ hd)
      | (rw [if_pos (show w = 0 by omega)] at hp; exact hp _ f12 hDM)
      | (rw [if_neg (show ¬ w = 0 by omega), if_pos (show w = 1 by omega)] at hp
         first
           | (rw [if_pos (show tradesA A = 0 by omega)] at hp; exact hp _ f12 hDM)
           | (rw [if_neg (show ¬ tradesA A = 0 by omega), if_pos (by omega)] at hp; exact hp _ f12 hDM)
           | (rw [if_neg (show ¬ tradesA A = 0 by omega), if_neg (by omega)] at hp; exact hp _ f12 hDM))
      | (rw [if_neg (show ¬ w = 0 by omega), if_neg (show ¬ w = 1 by omega), if_pos (show w = 2 by omega)] at hp
         first
           | (rw [if_pos (show tradesA A = 0 by omega)] at hp; exact hp _ f12 hDM)
           | (rw [if_neg (show ¬ tradesA A = 0 by omega), if_pos (by omega)] at hp; exact hp _ f12 hDM)
           | (rw [if_neg (show ¬ tradesA A = 0 by omega), if_neg (by omega)] at hp; exact hp _ f12 hDM))
      | (rcases (show w = 1 ∨ w = 2 by omega) with hw9 | hw9
         · rw [if_neg (show ¬ w = 0 by omega), if_pos hw9, if_pos (show tradesA A = 0 by omega)] at hp; exact hp _ f12 hDM
         · rw [if_neg (show ¬ w = 0 by omega), if_neg (show ¬ w = 1 by omega), if_pos hw9, if_pos (show tradesA A = 0 by omega)] at hp; exact hp _ f12 hDM))
                · refine x_iload_n dX12_market_104 rfl ?_
                  refine x_goto 110 dX12_market_105 (by decide) ?_
                  exact x_ireturn dX12_market_110 rfl (by omega) (by omega) (by
    first
      | (rw [if_neg (show ¬ w = 0 by omega), if_neg (show ¬ w = 1 by omega), if_neg (show ¬ w = 2 by omega)] at hp; exact hp _ ⟨fun _ _ _ _ => rfl, fun _ _ _ => rfl⟩ hd)
      | (rw [if_pos (show w = 0 by omega)] at hp; exact hp _ f12 hDM)
      | (rw [if_neg (show ¬ w = 0 by omega), if_pos (show w = 1 by omega)] at hp
         first
           | (rw [if_pos (show tradesA A = 0 by omega)] at hp; exact hp _ f12 hDM)
           | (rw [if_neg (show ¬ tradesA A = 0 by omega), if_pos (by omega)] at hp; exact hp _ f12 hDM)
           | (rw [if_neg (show ¬ tradesA A = 0 by omega), if_neg (by omega)] at hp; exact hp _ f12 hDM))
      | (rw [if_neg (show ¬ w = 0 by omega), if_neg (show ¬ w = 1 by omega), if_pos (show w = 2 by omega)] at hp
         first
           | (rw [if_pos (show tradesA A = 0 by omega)] at hp; exact hp _ f12 hDM)
           | (rw [if_neg (show ¬ tradesA A = 0 by omega), if_pos (by omega)] at hp; exact hp _ f12 hDM)
           | (rw [if_neg (show ¬ tradesA A = 0 by omega), if_neg (by omega)] at hp; exact hp _ f12 hDM))
      | (rcases (show w = 1 ∨ w = 2 by omega) with hw9 | hw9
         · rw [if_neg (show ¬ w = 0 by omega), if_pos hw9, if_pos (show tradesA A = 0 by omega)] at hp; exact hp _ f12 hDM
         · rw [if_neg (show ¬ w = 0 by omega), if_neg (show ¬ w = 1 by omega), if_pos hw9, if_pos (show tradesA A = 0 by omega)] at hp; exact hp _ f12 hDM))
              · refine x_aload_n dX12_market_91 rfl ?_
                refine x_getR (b := 324) dX12_market_92 gf_RX12_74 (k_ob_306 cs) (fun _ _ => rfl) (k_r_306_38 cs) ?_
                refine x_iload_n dX12_market_95 rfl ?_
                refine x_iaload dX12_market_96 (k_ar_324 cs) (by omega) (by omega) ?_
                rw [tN, s3]
                refine x_istore (lv2 := [(4, _), (3, _), (2, _), (0, _), (1, _)]) dX12_market_97 (by decide) rfl ?_
                refine x_iload_n dX12_market_99 rfl ?_
                refine x_iconst dX12_market_100 ?_
                refine x_icmp_ne 108 dX12_market_101 (by decide) ⟨(by omega), (by omega)⟩ (fun w101 => ?_) (fun w101 => ?_)
                · refine x_iload dX12_market_108 rfl ?_
                  exact x_ireturn dX12_market_110 rfl (by omega) (by omega) (by
    first
      | (rw [if_neg (show ¬ w = 0 by omega), if_neg (show ¬ w = 1 by omega), if_neg (show ¬ w = 2 by omega)] at hp; exact hp _ ⟨fun _ _ _ _ => rfl, fun _ _ _ => rfl⟩ hd)
      | (rw [if_pos (show w = 0 by omega)] at hp; exact hp _ f12 hDM)
      | (rw [if_neg (show ¬ w = 0 by omega), if_pos (show w = 1 by omega)] at hp
         first
           | (rw [if_pos (show tradesA A = 0 by omega)] at hp; exact hp _ f12 hDM)
           | (rw [if_neg (show ¬ tradesA A = 0 by omega), if_pos (by omega)] at hp; exact hp _ f12 hDM)
           | (rw [if_neg (show ¬ tradesA A = 0 by omega), if_neg (by omega)] at hp; exact hp _ f12 hDM))
      | (rw [if_neg (show ¬ w = 0 by omega), if_neg (show ¬ w = 1 by omega), if_pos (show w = 2 by omega)] at hp
         first
           | (rw [if_pos (show tradesA A = 0 by omega)] at hp; exact hp _ f12 hDM)
           | (rw [if_neg (show ¬ tradesA A = 0 by omega), if_pos (by omega)] at hp; exact hp _ f12 hDM)
           | (rw [if_neg (show ¬ tradesA A = 0 by omega), if_neg (by omega)] at hp; exact hp _ f12 hDM))
      | (rcases (show w = 1 ∨ w = 2 by omega) with hw9 | hw9
         · rw [if_neg (show ¬ w = 0 by omega), if_pos hw9, if_pos (show tradesA A = 0 by omega)] at hp; exact hp _ f12 hDM
         · rw [if_neg (show ¬ w = 0 by omega), if_neg (show ¬ w = 1 by omega), if_pos hw9, if_pos (show tradesA A = 0 by omega)] at hp; exact hp _ f12 hDM))
                · refine x_iload_n dX12_market_104 rfl ?_
                  refine x_goto 110 dX12_market_105 (by decide) ?_
                  exact x_ireturn dX12_market_110 rfl (by omega) (by omega) (by
    first
      | (rw [if_neg (show ¬ w = 0 by omega), if_neg (show ¬ w = 1 by omega), if_neg (show ¬ w = 2 by omega)] at hp; exact hp _ ⟨fun _ _ _ _ => rfl, fun _ _ _ => rfl⟩ hd)
      | (rw [if_pos (show w = 0 by omega)] at hp; exact hp _ f12 hDM)
      | (rw [if_neg (show ¬ w = 0 by omega), if_pos (show w = 1 by omega)] at hp
         first
           | (rw [if_pos (show tradesA A = 0 by omega)] at hp; exact hp _ f12 hDM)
           | (rw [if_neg (show ¬ tradesA A = 0 by omega), if_pos (by omega)] at hp; exact hp _ f12 hDM)
           | (rw [if_neg (show ¬ tradesA A = 0 by omega), if_neg (by omega)] at hp; exact hp _ f12 hDM))
      | (rw [if_neg (show ¬ w = 0 by omega), if_neg (show ¬ w = 1 by omega), if_pos (show w = 2 by omega)] at hp
         first
           | (rw [if_pos (show tradesA A = 0 by omega)] at hp; exact hp _ f12 hDM)
           | (rw [if_neg (show ¬ tradesA A = 0 by omega), if_pos (by omega)] at hp; exact hp _ f12 hDM)
           | (rw [if_neg (show ¬ tradesA A = 0 by omega), if_neg (by omega)] at hp; exact hp _ f12 hDM))
      | (rcases (show w = 1 ∨ w = 2 by omega) with hw9 | hw9
         · rw [if_neg (show ¬ w = 0 by omega), if_pos hw9, if_pos (show tradesA A = 0 by omega)] at hp; exact hp _ f12 hDM
         · rw [if_neg (show ¬ w = 0 by omega), if_neg (show ¬ w = 1 by omega), if_pos hw9, if_pos (show tradesA A = 0 by omega)] at hp; exact hp _ f12 hDM))
          · refine x_aload_n dX12_market_65 rfl ?_
            refine x_getR (b := 323) dX12_market_66 gf_RX12_71 (k_ob_306 cs) (fun _ _ => rfl) (k_r_306_37 cs) ?_
            refine x_iload_n dX12_market_69 rfl ?_
            refine x_iaload dX12_market_70 (k_ar_323 cs) (by omega) (by omega) ?_
            rw [tN, q3]
            refine x_istore_n (lv2 := [(3, _), (4, _), (2, _), (0, _), (1, _)]) dX12_market_71 (by decide) rfl ?_
            refine x_iload_n dX12_market_72 rfl ?_
            refine x_aload_n dX12_market_73 rfl ?_
            refine x_getIv (z := (mkF A (A 5).toNat).2.2) dX12_market_74 gf_RX12_482 (k_ob_306 cs) (fun _ _ => rfl) (by first | exact m1 | exact m2) ?_
            refine x_icmp_ge 99 dX12_market_77 (by decide) ⟨(by omega), (by omega)⟩ (fun w77 => ?_) (fun w77 => ?_)
            · refine x_iload_n dX12_market_99 rfl ?_
              refine x_iconst dX12_market_100 ?_
              refine x_icmp_ne 108 dX12_market_101 (by decide) ⟨(by omega), (by omega)⟩ (fun w101 => ?_) (fun w101 => ?_)
              · refine x_iload dX12_market_108 rfl ?_
                exact x_ireturn dX12_market_110 rfl (by omega) (by omega) (by
    first
      | (rw [if_neg (show ¬ w = 0 by omega), if_neg (show ¬ w = 1 by omega), if_neg (show ¬ w = 2 by omega)] at hp; exact hp _ ⟨fun _ _ _ _ => rfl, fun _ _ _ => rfl⟩ hd)
      | (rw [if_pos (show w = 0 by omega)] at hp; exact hp _ f12 hDM)
      | (rw [if_neg (show ¬ w = 0 by omega), if_pos (show w = 1 by omega)] at hp
         first
           | (rw [if_pos (show tradesA A = 0 by omega)] at hp; exact hp _ f12 hDM)
           | (rw [if_neg (show ¬ tradesA A = 0 by omega), if_pos (by omega)] at hp; exact hp _ f12 hDM)
           | (rw [if_neg (show ¬ tradesA A = 0 by omega), if_neg (by omega)] at hp; exact hp _ f12 hDM))
      | (rw [if_neg (show ¬ w = 0 by omega), if_neg (show ¬ w = 1 by omega), if_pos (show w = 2 by omega)] at hp
         first
           | (rw [if_pos (show tradesA A = 0 by omega)] at hp; exact hp _ f12 hDM)
           | (rw [if_neg (show ¬ tradesA A = 0 by omega), if_pos (by omega)] at hp; exact hp _ f12 hDM)
           | (rw [if_neg (show ¬ tradesA A = 0 by omega), if_neg (by omega)] at hp; exact hp _ f12 hDM))
      | (rcases (show w = 1 ∨ w = 2 by omega) with hw9 | hw9
         · rw [if_neg (show ¬ w = 0 by omega), if_pos hw9, if_pos (show tradesA A = 0 by omega)] at hp; exact hp _ f12 hDM
         · rw [if_neg (show ¬ w = 0 by omega), if_neg (show ¬ w = 1 by omega), if_pos hw9, if_pos (show tradesA A = 0 by omega)] at hp; exact hp _ f12 hDM))
              · refine x_iload_n dX12_market_104 rfl ?_
                refine x_goto 110 dX12_market_105 (by decide) ?_
                exact x_ireturn dX12_market_110 rfl (by omega) (by omega) (by
    first
      | (rw [if_neg (show ¬ w = 0 by omega), if_neg (show ¬ w = 1 by omega), if_neg (show ¬ w = 2 by omega)] at hp; exact hp _ ⟨fun _ _ _ _ => rfl, fun _ _ _ => rfl⟩ hd)
      | (rw [if_pos (show w = 0 by omega)] at hp; exact hp _ f12 hDM)
      | (rw [if_neg (show ¬ w = 0 by omega), if_pos (show w = 1 by omega)] at hp
         first
           | (rw [if_pos (show tradesA A = 0 by omega)] at hp; exact hp _ f12 hDM)
           | (rw [if_neg (show ¬ tradesA A = 0 by omega), if_pos (by omega)] at hp; exact hp _ f12 hDM)
           | (rw [if_neg (show ¬ tradesA A = 0 by omega), if_neg (by omega)] at hp; exact hp _ f12 hDM))
      | (rw [if_neg (show ¬ w = 0 by omega), if_neg (show ¬ w = 1 by omega), if_pos (show w = 2 by omega)] at hp
         first
           | (rw [if_pos (show tradesA A = 0 by omega)] at hp; exact hp _ f12 hDM)
           | (rw [if_neg (show ¬ tradesA A = 0 by omega), if_pos (by omega)] at hp; exact hp _ f12 hDM)
           | (rw [if_neg (show ¬ tradesA A = 0 by omega), if_neg (by omega)] at hp; exact hp _ f12 hDM))
      | (rcases (show w = 1 ∨ w = 2 by omega) with hw9 | hw9
         · rw [if_neg (show ¬ w = 0 by omega), if_pos hw9, if_pos (show tradesA A = 0 by omega)] at hp; exact hp _ f12 hDM
         · rw [if_neg (show ¬ w = 0 by omega), if_neg (show ¬ w = 1 by omega), if_pos hw9, if_pos (show tradesA A = 0 by omega)] at hp; exact hp _ f12 hDM))
            · have s3 := m4 (tradesA A) (by omega)
              have s4 := m6 (tradesA A) (by omega)
              refine x_aload_n dX12_market_80 rfl ?_
              refine x_getR (b := 324) dX12_market_81 gf_RX12_74 (k_ob_306 cs) (fun _ _ => rfl) (k_r_306_38 cs) ?_
              refine x_iload_n dX12_market_84 rfl ?_
              refine x_iaload dX12_market_85 (k_ar_324 cs) (by omega) (by omega) ?_
              rw [tN, s3]
              refine x_iload dX12_market_86 rfl ?_
              refine x_icmp_ge 99 dX12_market_88 (by decide) ⟨(by omega), (by omega)⟩ (fun w88 => ?_) (fun w88 => ?_)
              · refine x_iload_n dX12_market_99 rfl ?_
                refine x_iconst dX12_market_100 ?_
                refine x_icmp_ne 108 dX12_market_101 (by decide) ⟨(by omega), (by omega)⟩ (fun w101 => ?_) (fun w101 => ?_)
                · refine x_iload dX12_market_108 rfl ?_
                  exact x_ireturn dX12_market_110 rfl (by omega) (by omega) (by
    first
      | (rw [if_neg (show ¬ w = 0 by omega), if_neg (show ¬ w = 1 by omega), if_neg (show ¬ w = 2 by omega)] at hp; exact hp _ ⟨fun _ _ _ _ => rfl, fun _ _ _ => rfl⟩ hd)
      | (rw [if_pos (show w = 0 by omega)] at hp; exact hp _ f12 hDM)
      | (rw [if_neg (show ¬ w = 0 by omega), if_pos (show w = 1 by omega)] at hp
         first
           | (rw [if_pos (show tradesA A = 0 by omega)] at hp; exact hp _ f12 hDM)
           | (rw [if_neg (show ¬ tradesA A = 0 by omega), if_pos (by omega)] at hp; exact hp _ f12 hDM)
           | (rw [if_neg (show ¬ tradesA A = 0 by omega), if_neg (by omega)] at hp; exact hp _ f12 hDM))
      | (rw [if_neg (show ¬ w = 0 by omega), if_neg (show ¬ w = 1 by omega), if_pos (show w = 2 by omega)] at hp
         first
           | (rw [if_pos (show tradesA A = 0 by omega)] at hp; exact hp _ f12 hDM)
           | (rw [if_neg (show ¬ tradesA A = 0 by omega), if_pos (by omega)] at hp; exact hp _ f12 hDM)
           | (rw [if_neg (show ¬ tradesA A = 0 by omega), if_neg (by omega)] at hp; exact hp _ f12 hDM))
      | (rcases (show w = 1 ∨ w = 2 by omega) with hw9 | hw9
         · rw [if_neg (show ¬ w = 0 by omega), if_pos hw9, if_pos (show tradesA A = 0 by omega)] at hp; exact hp _ f12 hDM
         · rw [if_neg (show ¬ w = 0 by omega), if_neg (show ¬ w = 1 by omega), if_pos hw9, if_pos (show tradesA A = 0 by omega)] at hp; exact hp _ f12 hDM))
                · refine x_iload_n dX12_market_104 rfl ?_
                  refine x_goto 110 dX12_market_105 (by decide) ?_
                  exact x_ireturn dX12_market_110 rfl (by omega) (by omega) (by
    first
      | (rw [if_neg (show ¬ w = 0 by omega), if_neg (show ¬ w = 1 by omega), if_neg (show ¬ w = 2 by omega)] at hp; exact hp _ ⟨fun _ _ _ _ => rfl, fun _ _ _ => rfl⟩ hd)
      | (rw [if_pos (show w = 0 by omega)] at hp; exact hp _ f12 hDM)
      | (rw [if_neg (show ¬ w = 0 by omega), if_pos (show w = 1 by omega)] at hp
         first
           | (rw [if_pos (show tradesA A = 0 by omega)] at hp; exact hp _ f12 hDM)
           | (rw [if_neg (show ¬ tradesA A = 0 by omega), if_pos (by omega)] at hp; exact hp _ f12 hDM)
           | (rw [if_neg (show ¬ tradesA A = 0 by omega), if_neg (by omega)] at hp; exact hp _ f12 hDM))
      | (rw [if_neg (show ¬ w = 0 by omega), if_neg (show ¬ w = 1 by omega), if_pos (show w = 2 by omega)] at hp
         first
           | (rw [if_pos (show tradesA A = 0 by omega)] at hp; exact hp _ f12 hDM)
           | (rw [if_neg (show ¬ tradesA A = 0 by omega), if_pos (by omega)] at hp; exact hp _ f12 hDM)
           | (rw [if_neg (show ¬ tradesA A = 0 by omega), if_neg (by omega)] at hp; exact hp _ f12 hDM))
      | (rcases (show w = 1 ∨ w = 2 by omega) with hw9 | hw9
         · rw [if_neg (show ¬ w = 0 by omega), if_pos hw9, if_pos (show tradesA A = 0 by omega)] at hp; exact hp _ f12 hDM
         · rw [if_neg (show ¬ w = 0 by omega), if_neg (show ¬ w = 1 by omega), if_pos hw9, if_pos (show tradesA A = 0 by omega)] at hp; exact hp _ f12 hDM))
              · refine x_aload_n dX12_market_91 rfl ?_
                refine x_getR (b := 324) dX12_market_92 gf_RX12_74 (k_ob_306 cs) (fun _ _ => rfl) (k_r_306_38 cs) ?_
                refine x_iload_n dX12_market_95 rfl ?_
                refine x_iaload dX12_market_96 (k_ar_324 cs) (by omega) (by omega) ?_
                rw [tN, s3]
                refine x_istore (lv2 := [(4, _), (3, _), (2, _), (0, _), (1, _)]) dX12_market_97 (by decide) rfl ?_
                refine x_iload_n dX12_market_99 rfl ?_
                refine x_iconst dX12_market_100 ?_
                refine x_icmp_ne 108 dX12_market_101 (by decide) ⟨(by omega), (by omega)⟩ (fun w101 => ?_) (fun w101 => ?_)
                · refine x_iload dX12_market_108 rfl ?_
                  exact x_ireturn dX12_market_110 rfl (by omega) (by omega) (by
    first
      | (rw [if_neg (show ¬ w = 0 by omega), if_neg (show ¬ w = 1 by omega), if_neg (show ¬ w = 2 by omega)] at hp; exact hp _ ⟨fun _ _ _ _ => rfl, fun _ _ _ => rfl⟩ hd)
      | (rw [if_pos (show w = 0 by omega)] at hp; exact hp _ f12 hDM)
      | (rw [if_neg (show ¬ w = 0 by omega), if_pos (show w = 1 by omega)] at hp
         first
           | (rw [if_pos (show tradesA A = 0 by omega)] at hp; exact hp _ f12 hDM)
           | (rw [if_neg (show ¬ tradesA A = 0 by omega), if_pos (by omega)] at hp; exact hp _ f12 hDM)
           | (rw [if_neg (show ¬ tradesA A = 0 by omega), if_neg (by omega)] at hp; exact hp _ f12 hDM))
      | (rw [if_neg (show ¬ w = 0 by omega), if_neg (show ¬ w = 1 by omega), if_pos (show w = 2 by omega)] at hp
         first
           | (rw [if_pos (show tradesA A = 0 by omega)] at hp; exact hp _ f12 hDM)
           | (rw [if_neg (show ¬ tradesA A = 0 by omega), if_pos (by omega)] at hp; exact hp _ f12 hDM)
           | (rw [if_neg (show ¬ tradesA A = 0 by omega), if_neg (by omega)] at hp; exact hp _ f12 hDM))
      | (rcases (show w = 1 ∨ w = 2 by omega) with hw9 | hw9
         · rw [if_neg (show ¬ w = 0 by omega), if_pos hw9, if_pos (show tradesA A = 0 by omega)] at hp; exact hp _ f12 hDM
         · rw [if_neg (show ¬ w = 0 by omega), if_neg (show ¬ w = 1 by omega), if_pos hw9, if_pos (show tradesA A = 0 by omega)] at hp; exact hp _ f12 hDM))
                · refine x_iload_n dX12_market_104 rfl ?_
                  refine x_goto 110 dX12_market_105 (by decide) ?_
                  exact x_ireturn dX12_market_110 rfl (by omega) (by omega) (by
    first
      | (rw [if_neg (show ¬ w = 0 by omega), if_neg (show ¬ w = 1 by omega), if_neg (show ¬ w = 2 by omega)] at hp; exact hp _ ⟨fun _ _ _ _ => rfl, fun _ _ _ => rfl⟩ hd)
      | (rw [if_pos (show w = 0 by omega)] at hp; exact hp _ f12 hDM)
      | (rw [if_neg (show ¬ w = 0 by omega), if_pos (show w = 1 by omega)] at hp
         first
           | (rw [if_pos (show tradesA A = 0 by omega)] at hp; exact hp _ f12 hDM)
           | (rw [if_neg (show ¬ tradesA A = 0 by omega), if_pos (by omega)] at hp; exact hp _ f12 hDM)
           | (rw [if_neg (show ¬ tradesA A = 0 by omega), if_neg (by omega)] at hp; exact hp _ f12 hDM))
      | (rw [if_neg (show ¬ w = 0 by omega), if_neg (show ¬ w = 1 by omega), if_pos (show w = 2 by omega)] at hp
         first
           | (rw [if_pos (show tradesA A = 0 by omega)] at hp; exact hp _ f12 hDM)
           | (rw [if_neg (show ¬ tradesA A = 0 by omega), if_pos (by omega)] at hp; exact hp _ f12 hDM)
           | (rw [if_neg (show ¬ tradesA A = 0 by omega), if_neg (by omega)] at hp; exact hp _ f12 hDM))
      | (rcases (show w = 1 ∨ w = 2 by omega) with hw9 | hw9
         · rw [if_neg (show ¬ w = 0 by omega), if_pos hw9, if_pos (show tradesA A = 0 by omega)] at hp; exact hp _ f12 hDM
         · rw [if_neg (show ¬ w = 0 by omega), if_neg (show ¬ w = 1 by omega), if_pos hw9, if_pos (show tradesA A = 0 by omega)] at hp; exact hp _ f12 hDM))
      · refine x_iconst dX12_market_26 ?_
        exact x_ireturn dX12_market_27 rfl (by omega) (by omega) (by
    first
      | (rw [if_neg (show ¬ w = 0 by omega), if_neg (show ¬ w = 1 by omega), if_neg (show ¬ w = 2 by omega)] at hp; exact hp _ ⟨fun _ _ _ _ => rfl, fun _ _ _ => rfl⟩ hd)
      | (rw [if_pos (show w = 0 by omega)] at hp; exact hp _ f12 hDM)
      | (rw [if_neg (show ¬ w = 0 by omega), if_pos (show w = 1 by omega)] at hp
         first
           | (rw [if_pos (show tradesA A = 0 by omega)] at hp; exact hp _ f12 hDM)
           | (rw [if_neg (show ¬ tradesA A = 0 by omega), if_pos (by omega)] at hp; exact hp _ f12 hDM)
           | (rw [if_neg (show ¬ tradesA A = 0 by omega), if_neg (by omega)] at hp; exact hp _ f12 hDM))
      | (rw [if_neg (show ¬ w = 0 by omega), if_neg (show ¬ w = 1 by omega), if_pos (show w = 2 by omega)] at hp
         first
           | (rw [if_pos (show tradesA A = 0 by omega)] at hp; exact hp _ f12 hDM)
           | (rw [if_neg (show ¬ tradesA A = 0 by omega), if_pos (by omega)] at hp; exact hp _ f12 hDM)
           | (rw [if_neg (show ¬ tradesA A = 0 by omega), if_neg (by omega)] at hp; exact hp _ f12 hDM))
      | (rcases (show w = 1 ∨ w = 2 by omega) with hw9 | hw9
         · rw [if_neg (show ¬ w = 0 by omega), if_pos hw9, if_pos (show tradesA A = 0 by omega)] at hp; exact hp _ f12 hDM
         · rw [if_neg (show ¬ w = 0 by omega), if_neg (show ¬ w = 1 by omega), if_pos hw9, if_pos (show tradesA A = 0 by omega)] at hp; exact hp _ f12 hDM))
    · refine x_iload_n dX12_market_20 rfl ?_
      exact x_ireturn dX12_market_21 rfl (by omega) (by omega) (by
    first
      | (rw [if_neg (show ¬ w = 0 by omega), if_neg (show ¬ w = 1 by omega), if_neg (show ¬ w = 2 by omega)] at hp; exact hp _ ⟨fun _ _ _ _ => rfl, fun _ _ _ => rfl⟩ hd)
      | (rw [if_pos (show w = 0 by omega)] at hp; exact hp _ f12 hDM)
      | (rw [if_neg (show ¬ w = 0 by omega), if_pos (show w = 1 by omega)] at hp
         first
           | (rw [if_pos (show tradesA A = 0 by omega)] at hp; exact hp _ f12 hDM)
           | (rw [if_neg (show ¬ tradesA A = 0 by omega), if_pos (by omega)] at hp; exact hp _ f12 hDM)
           | (rw [if_neg (show ¬ tradesA A = 0 by omega), if_neg (by omega)] at hp; exact hp _ f12 hDM))
      | (rw [if_neg (show ¬ w = 0 by omega), if_neg (show ¬ w = 1 by omega), if_pos (show w = 2 by omega)] at hp
         first
           | (rw [if_pos (show tradesA A = 0 by omega)] at hp; exact hp _ f12 hDM)
           | (rw [if_neg (show ¬ tradesA A = 0 by omega), if_pos (by omega)] at hp; exact hp _ f12 hDM)
           | (rw [if_neg (show ¬ tradesA A = 0 by omega), if_neg (by omega)] at hp; exact hp _ f12 hDM))
      | (rcases (show w = 1 ∨ w = 2 by omega) with hw9 | hw9
         · rw [if_neg (show ¬ w = 0 by omega), if_pos hw9, if_pos (show tradesA A = 0 by omega)] at hp; exact hp _ f12 hDM
         · rw [if_neg (show ¬ w = 0 by omega), if_neg (show ¬ w = 1 by omega), if_pos hw9, if_pos (show tradesA A = 0 by omega)] at hp; exact hp _ f12 hDM))
  · refine x_iconst dX12_market_9 ?_
    exact x_ireturn dX12_market_10 rfl (by omega) (by omega) (by
    first
      | (rw [if_neg (show ¬ w = 0 by omega), if_neg (show ¬ w = 1 by omega), if_neg (show ¬ w = 2 by omega)] at hp; exact hp _ ⟨fun _ _ _ _ => rfl, fun _ _ _ => rfl⟩ hd)
      | (rw [if_pos (show w = 0 by omega)] at hp; exact hp _ f12 hDM)
      | (rw [if_neg (show ¬ w = 0 by omega), if_pos (show w = 1 by omega)] at hp
         first
           | (rw [if_pos (show tradesA A = 0 by omega)] at hp; exact hp _ f12 hDM)
           | (rw [if_neg (show ¬ tradesA A = 0 by omega), if_pos (by omega)] at hp; exact hp _ f12 hDM)
           | (rw [if_neg (show ¬ tradesA A = 0 by omega), if_neg (by omega)] at hp; exact hp _ f12 hDM))
      | (rw [if_neg (show ¬ w = 0 by omega), if_neg (show ¬ w = 1 by omega), if_pos (show w = 2 by omega)] at hp
         first
           | (rw [if_pos (show tradesA A = 0 by omega)] at hp; exact hp _ f12 hDM)
           | (rw [if_neg (show ¬ tradesA A = 0 by omega), if_pos (by omega)] at hp; exact hp _ f12 hDM)
           | (rw [if_neg (show ¬ tradesA A = 0 by omega), if_neg (by omega)] at hp; exact hp _ f12 hDM))
      | (rcases (show w = 1 ∨ w = 2 by omega) with hw9 | hw9
         · rw [if_neg (show ¬ w = 0 by omega), if_pos hw9, if_pos (show tradesA A = 0 by omega)] at hp; exact hp _ f12 hDM
         · rw [if_neg (show ¬ w = 0 by omega), if_neg (show ¬ w = 1 by omega), if_pos hw9, if_pos (show tradesA A = 0 by omega)] at hp; exact hp _ f12 hDM))
theorem dX12_gain_0 : decode prog_14_method_141_code 0 = .ok (.aload_n 0, 1) := by decide +kernel
theorem dX12_gain_1 : decode prog_14_method_141_code 1 = .ok (.invokevirtual 489, 3) := by decide +kernel
theorem dX12_gain_4 : decode prog_14_method_141_code 4 = .ok (.istore_n 1, 1) := by decide +kernel
theorem dX12_gain_5 : decode prog_14_method_141_code 5 = .ok (.iconst 0, 1) := by decide +kernel
theorem dX12_gain_6 : decode prog_14_method_141_code 6 = .ok (.istore_n 2, 1) := by decide +kernel
theorem dX12_gain_7 : decode prog_14_method_141_code 7 = .ok (.iconst 0, 1) := by decide +kernel
theorem dX12_gain_8 : decode prog_14_method_141_code 8 = .ok (.istore_n 3, 1) := by decide +kernel
theorem dX12_gain_9 : decode prog_14_method_141_code 9 = .ok (.iload_n 3, 1) := by decide +kernel
theorem dX12_gain_10 : decode prog_14_method_141_code 10 = .ok (.iload_n 1, 1) := by decide +kernel
theorem dX12_gain_11 : decode prog_14_method_141_code 11 = .ok (.if_icmp .ge 25, 3) := by decide +kernel
theorem dX12_gain_14 : decode prog_14_method_141_code 14 = .ok (.iload_n 2, 1) := by decide +kernel
theorem dX12_gain_15 : decode prog_14_method_141_code 15 = .ok (.aload_n 0, 1) := by decide +kernel
theorem dX12_gain_16 : decode prog_14_method_141_code 16 = .ok (.getfield 71, 3) := by decide +kernel
theorem dX12_gain_19 : decode prog_14_method_141_code 19 = .ok (.iload_n 3, 1) := by decide +kernel
theorem dX12_gain_20 : decode prog_14_method_141_code 20 = .ok (.iaload, 1) := by decide +kernel
theorem dX12_gain_21 : decode prog_14_method_141_code 21 = .ok (.aload_n 0, 1) := by decide +kernel
theorem dX12_gain_22 : decode prog_14_method_141_code 22 = .ok (.getfield 74, 3) := by decide +kernel
theorem dX12_gain_25 : decode prog_14_method_141_code 25 = .ok (.iload_n 3, 1) := by decide +kernel
theorem dX12_gain_26 : decode prog_14_method_141_code 26 = .ok (.iaload, 1) := by decide +kernel
theorem dX12_gain_27 : decode prog_14_method_141_code 27 = .ok (.isub, 1) := by decide +kernel
theorem dX12_gain_28 : decode prog_14_method_141_code 28 = .ok (.iadd, 1) := by decide +kernel
theorem dX12_gain_29 : decode prog_14_method_141_code 29 = .ok (.istore_n 2, 1) := by decide +kernel
theorem dX12_gain_30 : decode prog_14_method_141_code 30 = .ok (.iinc 3 1, 3) := by decide +kernel
theorem dX12_gain_33 : decode prog_14_method_141_code 33 = .ok (.goto (-24), 3) := by decide +kernel
theorem dX12_gain_36 : decode prog_14_method_141_code 36 = .ok (.iload_n 2, 1) := by decide +kernel
theorem dX12_gain_37 : decode prog_14_method_141_code 37 = .ok (.ireturn, 1) := by decide +kernel
theorem gn_b {br sr : Nat → Int} : ∀ k : Nat, (∀ i, i < k → (0 ≤ br i ∧ br i ≤ 99) ∧ (0 ≤ sr i ∧ sr i ≤ 99)) → -99 * (k : Int) ≤ gnL br sr k ∧ gnL br sr k ≤ 99 * (k : Int) := by
  intro k
  induction k with
  | zero => intro _; simp [gnL]
  | succ k ih =>
    intro h
    have h1 := ih (fun i hi => h i (by omega))
    have h2 := h k (by omega)
    simp only [gnL]
    omega
theorem lp_X12_gain {J : CI} (cs : CS S R) (hM : MKm J (mkF A (A 5).toNat)) (hb5 : 0 ≤ A 5 ∧ A 5 ≤ 10) (hp : Post (some (.int (iI (f_gain A)))) S J R) : ∀ (d k : Nat), k ≤ tradesA A → tradesA A - k = d → WP n 0 0 mX12_gain Post 9 [(0, .ref (S.2.1 306)), (1, .int (iI (tradesA A : Int))), (2, .int (iI (gnL (mkA A).1.1 (mkA A).1.2 k))), (3, .int (iI (k : Int)))] [] 0 0 S J R := by
  obtain ⟨⟨m1, m2⟩, m3, m4, m5, m6⟩ := hM
  have tb := trades_b (A := A) hb5
  have nn := mkF_n A (A 5).toNat
  have emk : mkA A = mkF A (A 5).toNat := rfl
  intro d
  induction d using Nat.strongRecOn with
  | ind d ih =>
    intro k k1 k2
    refine x_iload_n dX12_gain_9 rfl ?_
    refine x_iload_n dX12_gain_10 rfl ?_
    refine x_icmp_ge 36 dX12_gain_11 (by decide) ⟨(by omega), (by omega)⟩ (fun w11 => ?_) (fun w11 => ?_)
    · refine x_iload_n dX12_gain_36 rfl ?_
      exact x_ireturn dX12_gain_37 rfl (by omega) (by omega) (by obtain rfl : k = tradesA A := (by omega); exact hp)
    · have g1 := m3 k (by rw [emk] at tb; omega)
      have g2 := m4 k (by rw [emk] at tb; omega)
      refine x_iload_n dX12_gain_14 rfl ?_
      refine x_aload_n dX12_gain_15 rfl ?_
      refine x_getR (b := 323) dX12_gain_16 gf_RX12_71 (k_ob_306 cs) (fun _ _ => rfl) (k_r_306_37 cs) ?_
      refine x_iload_n dX12_gain_19 rfl ?_
      refine x_iaload dX12_gain_20 (k_ar_323 cs) (by omega) (by omega) ?_
      rw [tN, g1]
      refine x_aload_n dX12_gain_21 rfl ?_
      refine x_getR (b := 324) dX12_gain_22 gf_RX12_74 (k_ob_306 cs) (fun _ _ => rfl) (k_r_306_38 cs) ?_
      refine x_iload_n dX12_gain_25 rfl ?_
      refine x_iaload dX12_gain_26 (k_ar_324 cs) (by omega) (by omega) ?_
      rw [tN, g2]
      refine x_isub dX12_gain_27 ?_
      refine x_iadd dX12_gain_28 ?_
      refine x_istore_n (lv2 := [(2, _), (0, _), (1, _), (3, _)]) dX12_gain_29 (by decide) rfl ?_
      refine x_iinc (lv2 := [(3, _), (2, _), (0, _), (1, _)]) dX12_gain_30 rfl (by decide) rfl ?_
      refine x_goto 9 dX12_gain_33 (by decide) ?_
      refine x_sub [2, 3, 1, 0] rfl ?_
      exact ih _ (by omega) (k + 1) (by omega) rfl
theorem sp_X12_gain  (cs : CS S R) (hA : I 307 = A) (hb : BA A) (hd : DM I) (hn : 2 ≤ n) (hp : ∀ I', Fmk I I' → DM I' → Post (some (.int (iI (f_gain A)))) S I' R) : Call n 0 0 mX12_gain [.ref (S.2.1 306)] S I R Post := by
  have b5 := hb.2.1.2.2.2.2.1
  refine Call.of (by decide +kernel) (Nat.le_of_ble_eq_true rfl) ?_
  show WP _ _ _ _ _ 0 [(0, _)] [] 0 0 _ _ _
  refine x_aload_n dX12_gain_0 rfl ?_
  refine x_callV0 (mc1 := 0) (ms1 := 0) dX12_gain_1 cv_RX12_489 (ci := 12) (k_ob_306 cs) rfl (Nat.le_of_ble_eq_true rfl) (n1 := n - 1) (by omega) (by omega) (by omega) ?_
  refine sp_X12_layMarket cs hA hb hd (by omega) (fun J1 hM1 f1 => ?_)
  obtain ⟨⟨m1, m2⟩, m3, m4, m5, m6⟩ := id hM1
  have tb := trades_b (A := A) b5
  have nn := mkF_n A (A 5).toNat
  have hDM : DM J1 := ⟨m5, m6⟩
  have emk : mkA A = mkF A (A 5).toNat := rfl
  rw [emk] at tb
  refine x_istore_n (lv2 := [(1, _), (0, _)]) dX12_gain_4 (by decide) rfl ?_
  refine x_iconst dX12_gain_5 ?_
  refine x_istore_n (lv2 := [(2, _), (1, _), (0, _)]) dX12_gain_6 (by decide) rfl ?_
  refine x_iconst dX12_gain_7 ?_
  refine x_istore_n (lv2 := [(3, _), (2, _), (1, _), (0, _)]) dX12_gain_8 (by decide) rfl ?_
  refine x_sub [3, 2, 1, 0] rfl ?_
  exact lp_X12_gain cs hM1 b5 (hp _ f1 hDM) _ 0 (by omega) rfl
end Ref21
