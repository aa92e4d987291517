section Deal
variable {n : Nat} {Post : PT} {S : Sh} {I : CI} {R : CR} {A : Nat → Int}
/-- a price is put into a row of so many: falling (1) or rising (0) -/
def insF (v fl : Int) : Nat → (Nat → Int) → (Nat → Int)
  | 0, r => upA r 0 v
  | m + 1, r => if (fl = 1 ∧ r m < v) ∨ (fl = 0 ∧ v < r m) then insF v fl m (upA r (m + 1) (r m)) else upA r (m + 1) v
theorem insF_hi (v fl : Int) : ∀ (m : Nat) (r : Nat → Int) (k : Nat), m < k → insF v fl m r k = r k := by
  intro m
  induction m with
  | zero => intro r k hk; exact upA_o (by omega)
  | succ m ih =>
    intro r k hk
    simp only [insF]
    split
    · rw [ih _ k (by omega), upA_o (by omega)]
    · exact upA_o (by omega)
theorem insF_congr (v fl : Int) : ∀ (m : Nat) (r r' : Nat → Int), (∀ k, k < m → r k = r' k) → ∀ k, k ≤ m → insF v fl m r k = insF v fl m r' k := by
  intro m
  induction m with
  | zero =>
    intro r r' _ k hk
    obtain rfl : k = 0 := by omega
    simp only [insF, upA_s]
  | succ m ih =>
    intro r r' h k hk
    simp only [insF]
    rw [h m (by omega)]
    split
    · by_cases e : k = m + 1
      · subst e
        rw [insF_hi _ _ _ _ _ (by omega), insF_hi _ _ _ _ _ (by omega), upA_s, upA_s]
      · exact ih _ _ (fun z hz => by rw [upA_o (by omega), upA_o (by omega)]; exact h z (by omega)) k (by omega)
    · by_cases e : k = m + 1
      · subst e; rw [upA_s, upA_s]
      · rw [upA_o e, upA_o e]; exact h k (by omega)
theorem insF_b (v fl : Int) (hv : 0 ≤ v ∧ v ≤ 99) : ∀ (m : Nat) (r : Nat → Int), m < 10 → (∀ k, k < 10 → 0 ≤ r k ∧ r k ≤ 99) → ∀ k, k < 10 → 0 ≤ insF v fl m r k ∧ insF v fl m r k ≤ 99 := by
  intro m
  induction m with
  | zero => intro r _ h k hk; simp only [insF]; by_cases e : k = 0
            · subst e; rw [upA_s]; exact hv
            · rw [upA_o e]; exact h k hk
  | succ m ih =>
    intro r hm h k hk
    simp only [insF]
    split
    · refine ih _ (by omega) (fun z hz => ?_) k hk
      by_cases e : z = m + 1
      · subst e; rw [upA_s]; exact h m (by omega)
      · rw [upA_o e]; exact h z hz
    · by_cases e : k = m + 1
      · subst e; rw [upA_s]; exact hv
      · rw [upA_o e]; exact h k hk
theorem dX1_putIn_0 : decode prog_3_method_3_code 0 = .ok (.iload_n 1, 1) := by decide +kernel
theorem dX1_putIn_1 : decode prog_3_method_3_code 1 = .ok (.istore 4, 2) := by decide +kernel
theorem dX1_putIn_3 : decode prog_3_method_3_code 3 = .ok (.iload 4, 2) := by decide +kernel
theorem dX1_putIn_5 : decode prog_3_method_3_code 5 = .ok (.ifCond .le 46, 3) := by decide +kernel
theorem dX1_putIn_8 : decode prog_3_method_3_code 8 = .ok (.iload_n 3, 1) := by decide +kernel
theorem dX1_putIn_9 : decode prog_3_method_3_code 9 = .ok (.ifCond .eq 16, 3) := by decide +kernel
theorem dX1_putIn_12 : decode prog_3_method_3_code 12 = .ok (.aload_n 0, 1) := by decide +kernel
theorem dX1_putIn_13 : decode prog_3_method_3_code 13 = .ok (.iload 4, 2) := by decide +kernel
theorem dX1_putIn_15 : decode prog_3_method_3_code 15 = .ok (.iconst 1, 1) := by decide +kernel
theorem dX1_putIn_16 : decode prog_3_method_3_code 16 = .ok (.isub, 1) := by decide +kernel
theorem dX1_putIn_17 : decode prog_3_method_3_code 17 = .ok (.iaload, 1) := by decide +kernel
theorem dX1_putIn_18 : decode prog_3_method_3_code 18 = .ok (.iload_n 2, 1) := by decide +kernel
theorem dX1_putIn_19 : decode prog_3_method_3_code 19 = .ok (.if_icmp .ge 32, 3) := by decide +kernel
theorem dX1_putIn_22 : decode prog_3_method_3_code 22 = .ok (.goto 13, 3) := by decide +kernel
theorem dX1_putIn_25 : decode prog_3_method_3_code 25 = .ok (.aload_n 0, 1) := by decide +kernel
theorem dX1_putIn_26 : decode prog_3_method_3_code 26 = .ok (.iload 4, 2) := by decide +kernel
theorem dX1_putIn_28 : decode prog_3_method_3_code 28 = .ok (.iconst 1, 1) := by decide +kernel
theorem dX1_putIn_29 : decode prog_3_method_3_code 29 = .ok (.isub, 1) := by decide +kernel
theorem dX1_putIn_30 : decode prog_3_method_3_code 30 = .ok (.iaload, 1) := by decide +kernel
theorem dX1_putIn_31 : decode prog_3_method_3_code 31 = .ok (.iload_n 2, 1) := by decide +kernel
theorem dX1_putIn_32 : decode prog_3_method_3_code 32 = .ok (.if_icmp .le 19, 3) := by decide +kernel
theorem dX1_putIn_35 : decode prog_3_method_3_code 35 = .ok (.aload_n 0, 1) := by decide +kernel
theorem dX1_putIn_36 : decode prog_3_method_3_code 36 = .ok (.iload 4, 2) := by decide +kernel
theorem dX1_putIn_38 : decode prog_3_method_3_code 38 = .ok (.aload_n 0, 1) := by decide +kernel
theorem dX1_putIn_39 : decode prog_3_method_3_code 39 = .ok (.iload 4, 2) := by decide +kernel
theorem dX1_putIn_41 : decode prog_3_method_3_code 41 = .ok (.iconst 1, 1) := by decide +kernel
theorem dX1_putIn_42 : decode prog_3_method_3_code 42 = .ok (.isub, 1) := by decide +kernel
theorem dX1_putIn_43 : decode prog_3_method_3_code 43 = .ok (.iaload, 1) := by decide +kernel
theorem dX1_putIn_44 : decode prog_3_method_3_code 44 = .ok (.iastore, 1) := by decide +kernel
theorem dX1_putIn_45 : decode prog_3_method_3_code 45 = .ok (.iinc 4 (-1), 3) := by decide +kernel
theorem dX1_putIn_48 : decode prog_3_method_3_code 48 = .ok (.goto (-45), 3) := by decide +kernel
theorem dX1_putIn_51 : decode prog_3_method_3_code 51 = .ok (.aload_n 0, 1) := by decide +kernel
theorem dX1_putIn_52 : decode prog_3_method_3_code 52 = .ok (.iload 4, 2) := by decide +kernel
theorem dX1_putIn_54 : decode prog_3_method_3_code 54 = .ok (.iload_n 2, 1) := by decide +kernel
theorem dX1_putIn_55 : decode prog_3_method_3_code 55 = .ok (.iastore, 1) := by decide +kernel
theorem dX1_putIn_56 : decode prog_3_method_3_code 56 = .ok (.return_, 1) := by decide +kernel
theorem lp_X1_putIn {a m0 : Nat} {v fl : Int} (hA : AR S a 13 10) (hm0 : m0 < 10) (hv : 0 ≤ v ∧ v ≤ 99) (hfl : fl = 0 ∨ fl = 1) (hp : ∀ I', I' a = insF v fl m0 (I a) → (∀ c, c ≠ a → I' c = I c) → Post none S I' R) : ∀ (m : Nat) (J : CI), m ≤ m0 → (∀ k, k < 10 → 0 ≤ J a k ∧ J a k ≤ 99) → insF v fl m (J a) = insF v fl m0 (I a) → (∀ c, c ≠ a → J c = I c) → WP n 0 0 mX1_putIn Post 3 [(0, .ref (S.2.1 a)), (1, .int (iI (m0 : Int))), (2, .int (iI v)), (3, .int (iI fl)), (4, .int (iI (m : Int)))] [] 0 0 S J R := by
  intro m
  induction m with
  | zero =>
    intro J hm hJ hi ho
    refine x_iload dX1_putIn_3 rfl ?_
    refine x_if_le 51 dX1_putIn_5 (by decide) (by omega) (fun w5 => ?_) (fun w5 => ?_)
    · refine x_aload_n dX1_putIn_51 rfl ?_
      refine x_iload dX1_putIn_52 rfl ?_
      refine x_iload_n dX1_putIn_54 rfl ?_
      refine x_iastore dX1_putIn_55 hA (by omega) (by omega) ?_
      exact x_return dX1_putIn_56 rfl (by omega) (by omega) (hp _ (by
        rw [← hi]
        funext z
        show (if a = a ∧ z = _ then _ else _) = _
        by_cases hz : z = 0
        · rw [if_pos ⟨rfl, by omega⟩] ; subst hz; exact (upA_s _ _ _).symm
        · rw [if_neg (fun q => hz (by omega))] ; exact (upA_o hz).symm) (fun c h => (uI_row h).trans (ho c h)))
    · exfalso; omega
  | succ m ih =>
    intro J hm hJ hi ho
    have g1 := hJ m (by omega)
    refine x_iload dX1_putIn_3 rfl ?_
    refine x_if_le 51 dX1_putIn_5 (by decide) (by omega) (fun w5 => ?_) (fun w5 => ?_)
    · exfalso; omega
    · refine x_iload_n dX1_putIn_8 rfl ?_
      refine x_if_eq 25 dX1_putIn_9 (by decide) (by omega) (fun w9 => ?_) (fun w9 => ?_)
      · refine x_aload_n dX1_putIn_25 rfl ?_
        refine x_iload dX1_putIn_26 rfl ?_
        refine x_iconst dX1_putIn_28 ?_
        refine x_isub dX1_putIn_29 ?_
        refine x_iaload dX1_putIn_30 hA (by omega) (by omega) ?_
        rw [show (((m + 1 : Nat) : Int) - 1).toNat = m by omega]
        refine x_iload_n dX1_putIn_31 rfl ?_
        refine x_icmp_le 51 dX1_putIn_32 (by decide) ⟨(by omega), (by omega)⟩ (fun w32 => ?_) (fun w32 => ?_)
        · refine x_aload_n dX1_putIn_51 rfl ?_
          refine x_iload dX1_putIn_52 rfl ?_
          refine x_iload_n dX1_putIn_54 rfl ?_
          refine x_iastore dX1_putIn_55 hA (by omega) (by omega) ?_
          exact x_return dX1_putIn_56 rfl (by omega) (by omega) (hp _ (by
        rw [← hi]
        funext z
        show (if a = a ∧ z = _ then _ else _) = _
        by_cases hz : z = m + 1
        · rw [if_pos ⟨rfl, by omega⟩] ; rw [show insF v fl (m + 1) (J a) = upA (J a) (m + 1) v from if_neg (by omega)]; subst hz; exact (upA_s _ _ _).symm
        · rw [if_neg (fun q => hz (by omega))] ; rw [show insF v fl (m + 1) (J a) = upA (J a) (m + 1) v from if_neg (by omega)]; exact (upA_o hz).symm) (fun c h => (uI_row h).trans (ho c h)))
        · refine x_aload_n dX1_putIn_35 rfl ?_
          refine x_iload dX1_putIn_36 rfl ?_
          refine x_aload_n dX1_putIn_38 rfl ?_
          refine x_iload dX1_putIn_39 rfl ?_
          refine x_iconst dX1_putIn_41 ?_
          refine x_isub dX1_putIn_42 ?_
          refine x_iaload dX1_putIn_43 hA (by omega) (by omega) ?_
          rw [show (((m + 1 : Nat) : Int) - 1).toNat = m by omega]
          refine x_iastore dX1_putIn_44 hA (by omega) (by omega) ?_
          refine x_iinc (lv2 := [(4, _), (0, _), (1, _), (2, _), (3, _)]) dX1_putIn_45 rfl (by decide) rfl ?_
          refine x_goto 3 dX1_putIn_48 (by decide) ?_
          refine x_sub [1, 2, 3, 4, 0] rfl ?_
          rw [show ((m + 1 : Nat) : Int) + -1 = (m : Int) by omega, show (((m + 1 : Nat) : Int)).toNat = m + 1 by omega]
          have er : (uI J a (m + 1) (J a m)) a = upA (J a) (m + 1) (J a m) := by funext z; show (if a = a ∧ z = m + 1 then _ else _) = (if z = m + 1 then _ else _); by_cases hz : z = m + 1 <;> simp [hz]
          refine ih _ (by omega) (fun k hk => ?_) ?_ (fun c h => (uI_row h).trans (ho c h))
          · rw [er]
            by_cases e : k = m + 1
            · subst e; rw [upA_s]; exact g1
            · rw [upA_o e]; exact hJ k hk
          · rw [er, ← hi]
            exact (if_pos (by omega)).symm
      · refine x_aload_n dX1_putIn_12 rfl ?_
        refine x_iload dX1_putIn_13 rfl ?_
        refine x_iconst dX1_putIn_15 ?_
        refine x_isub dX1_putIn_16 ?_
        refine x_iaload dX1_putIn_17 hA (by omega) (by omega) ?_
        rw [show (((m + 1 : Nat) : Int) - 1).toNat = m by omega]
        refine x_iload_n dX1_putIn_18 rfl ?_
        refine x_icmp_ge 51 dX1_putIn_19 (by decide) ⟨(by omega), (by omega)⟩ (fun w19 => ?_) (fun w19 => ?_)
        · refine x_aload_n dX1_putIn_51 rfl ?_
          refine x_iload dX1_putIn_52 rfl ?_
          refine x_iload_n dX1_putIn_54 rfl ?_
          refine x_iastore dX1_putIn_55 hA (by omega) (by omega) ?_
          exact x_return dX1_putIn_56 rfl (by omega) (by omega) (hp _ (by
        rw [← hi]
        funext z
        show (if a = a ∧ z = _ then _ else _) = _
        by_cases hz : z = m + 1
        · rw [if_pos ⟨rfl, by omega⟩] ; rw [show insF v fl (m + 1) (J a) = upA (J a) (m + 1) v from if_neg (by omega)]; subst hz; exact (upA_s _ _ _).symm
        · rw [if_neg (fun q => hz (by omega))] ; rw [show insF v fl (m + 1) (J a) = upA (J a) (m + 1) v from if_neg (by omega)]; exact (upA_o hz).symm) (fun c h => (uI_row h).trans (ho c h)))
        · refine x_goto 35 dX1_putIn_22 (by decide) ?_
          refine x_aload_n dX1_putIn_35 rfl ?_
          refine x_iload dX1_putIn_36 rfl ?_
          refine x_aload_n dX1_putIn_38 rfl ?_
          refine x_iload dX1_putIn_39 rfl ?_
          refine x_iconst dX1_putIn_41 ?_
          refine x_isub dX1_putIn_42 ?_
          refine x_iaload dX1_putIn_43 hA (by omega) (by omega) ?_
          rw [show (((m + 1 : Nat) : Int) - 1).toNat = m by omega]
          refine x_iastore dX1_putIn_44 hA (by omega) (by omega) ?_
          refine x_iinc (lv2 := [(4, _), (0, _), (1, _), (2, _), (3, _)]) dX1_putIn_45 rfl (by decide) rfl ?_
          refine x_goto 3 dX1_putIn_48 (by decide) ?_
          refine x_sub [1, 2, 3, 4, 0] rfl ?_
          rw [show ((m + 1 : Nat) : Int) + -1 = (m : Int) by omega, show (((m + 1 : Nat) : Int)).toNat = m + 1 by omega]
          have er : (uI J a (m + 1) (J a m)) a = upA (J a) (m + 1) (J a m) := by funext z; show (if a = a ∧ z = m + 1 then _ else _) = (if z = m + 1 then _ else _); by_cases hz : z = m + 1 <;> simp [hz]
          refine ih _ (by omega) (fun k hk => ?_) ?_ (fun c h => (uI_row h).trans (ho c h))
          · rw [er]
            by_cases e : k = m + 1
            · subst e; rw [upA_s]; exact g1
            · rw [upA_o e]; exact hJ k hk
          · rw [er, ← hi]
            exact (if_pos (by omega)).symm
theorem sp_X1_putIn {a m0 : Nat} {v fl : Int} (hrow : ∀ k, k < 10 → 0 ≤ I a k ∧ I a k ≤ 99) (hA : AR S a 13 10) (hm0 : m0 < 10) (hv : 0 ≤ v ∧ v ≤ 99) (hfl : fl = 0 ∨ fl = 1) (hp : ∀ I', I' a = insF v fl m0 (I a) → (∀ c, c ≠ a → I' c = I c) → Post none S I' R) : Call n 0 0 mX1_putIn [.ref (S.2.1 a), .int (iI (m0 : Int)), .int (iI v), .int (iI fl)] S I R Post := by
  refine Call.of (by decide +kernel) (Nat.le_of_ble_eq_true rfl) ?_
  show WP _ _ _ _ _ 0 [(0, _), (1, _), (2, _), (3, _)] [] 0 0 _ _ _
  refine x_iload_n dX1_putIn_0 rfl ?_
  refine x_istore (lv2 := [(4, _), (0, _), (1, _), (2, _), (3, _)]) dX1_putIn_1 (by decide) rfl ?_
  refine x_sub [1, 2, 3, 4, 0] rfl ?_
  exact lp_X1_putIn hA hm0 hv hfl hp m0 I (Nat.le_refl _) hrow rfl (fun _ _ => rfl)
end Deal
