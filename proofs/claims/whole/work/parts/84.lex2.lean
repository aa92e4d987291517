section Lex2
variable {n mc ms : Nat} {M : Md} {pc : Nat} {lv : List (Nat × Value)} {st : List Value} {k j : Nat} {Post : PT} {S : Sh} {I : CI} {R : CR} {A : Nat → Int} {tx : Nat → Nat → Int}
/-- the walk along the words: what is left, the word's kind, how much is alike -/
def kwG (t : Nat → Int) (s z : Nat) : List Int → Int → Int → Int
  | [], _, _ => 1
  | c :: r, k, a => if c = 32 then (if a = z then k else kwG t s z r (k + 1) 0) else kwG t s z r k (if 0 ≤ a ∧ a < z ∧ t (s + a.toNat) = c then a + 1 else -1)
theorem kwG_m {t : Nat → Int} {s z : Nat} {r : List Int} : ∀ (y : List Int) (k : Int), (∀ c ∈ y, c ≠ 32) → kwG t s z (y ++ 32 :: r) k (-1) = kwG t s z r (k + 1) 0 := by
  intro y
  induction y with
  | nil => intro k _; show (if (32 : Int) = 32 then _ else _) = _; rw [if_pos rfl, if_neg (by omega)]
  | cons c y ih =>
    intro k h
    show (if c = 32 then _ else _) = _
    rw [if_neg (h c (List.mem_cons_self ..)), if_neg (by omega)]
    exact ih k (fun q hq => h q (List.mem_cons_of_mem _ hq))
theorem kwG_y {t : Nat → Int} {s z : Nat} {r : List Int} : ∀ (y : List Int) (k : Int) (a : Nat), a ≤ z → (∀ c ∈ y, c ≠ 32) → kwG t s z (y ++ 32 :: r) k a = if (wdL t s z).drop a = y then k else kwG t s z r (k + 1) 0 := by
  intro y
  induction y with
  | nil =>
    intro k a ha _
    show (if (32 : Int) = 32 then _ else _) = _
    rw [if_pos rfl]
    have e : ((a : Int) = (z : Int)) ↔ (wdL t s z).drop a = [] := by rw [List.drop_eq_nil_iff, wdL_len]; omega
    by_cases h : (a : Int) = z
    · rw [if_pos h, if_pos (e.mp h)]
    · rw [if_neg h, if_neg (fun q => h (e.mpr q))]
  | cons c y ih =>
    intro k a ha h
    have h1 := h c (List.mem_cons_self ..)
    have h2 : ∀ q ∈ y, q ≠ 32 := fun q hq => h q (List.mem_cons_of_mem _ hq)
    rw [List.cons_append]
    show (if c = 32 then _ else kwG t s z (y ++ 32 :: r) k _) = _
    rw [if_neg h1]
    by_cases g : (0 : Int) ≤ (a : Int) ∧ (a : Int) < z ∧ t (s + (a : Int).toNat) = c
    · rw [if_pos g, show ((a : Int) + 1) = ((a + 1 : Nat) : Int) by omega, ih k (a + 1) (by omega) h2]
      have ga : a < (wdL t s z).length := by rw [wdL_len]; omega
      have gv : (wdL t s z)[a] = c := by
        have := wdL_get (t := t) (s := s) (n := z) (i := a) (by omega)
        rw [List.getElem?_eq_getElem ga] at this
        rw [Option.some.inj this, ← g.2.2, Int.toNat_natCast]
      have e : ((wdL t s z).drop (a + 1) = y) ↔ ((wdL t s z).drop a = c :: y) := by
        rw [List.drop_eq_getElem_cons ga, gv]
        constructor
        · intro q; rw [q]
        · intro q; exact (List.cons.inj q).2
      by_cases q : (wdL t s z).drop (a + 1) = y
      · rw [if_pos q, if_pos (e.mp q)]
      · rw [if_neg q, if_neg (fun q2 => q (e.mpr q2))]
    · rw [if_neg g, kwG_m y k h2, if_neg]
      intro q
      apply g
      have ga : a < (wdL t s z).length := by
        by_cases g2 : a < (wdL t s z).length
        · exact g2
        · rw [List.drop_eq_nil_of_le (by omega)] at q; cases q
      rw [List.drop_eq_getElem_cons ga] at q
      have gv := (List.cons.inj q).1
      have := wdL_get (t := t) (s := s) (n := z) (i := a) (by rw [wdL_len] at ga; exact ga)
      rw [List.getElem?_eq_getElem ga, gv] at this
      refine ⟨by omega, by rw [wdL_len] at ga; omega, ?_⟩
      rw [Int.toNat_natCast]
      exact (Option.some.inj this).symm
def flW : List (List Int) → List Int
  | [] => []
  | x :: r => x ++ 32 :: flW r
theorem kwG_fl {t : Nat → Int} {s z : Nat} : ∀ (ws : List (List Int)) (k : Int), (∀ x ∈ ws, ∀ c ∈ x, c ≠ 32) → kwG t s z (flW ws) k 0 = kWL ws k (wdL t s z) := by
  intro ws
  induction ws with
  | nil => intro k _; rfl
  | cons x r ih =>
    intro k h
    show kwG t s z (x ++ 32 :: flW r) k ((0 : Nat) : Int) = if wdL t s z = x then k else kWL r (k + 1) (wdL t s z)
    rw [kwG_y x k 0 (Nat.zero_le _) (h x (List.mem_cons_self ..)), ih (k + 1) (fun q hq => h q (List.mem_cons_of_mem _ hq)), List.drop_zero]
def cK : List Int := (List.range 121).map (byK 0)
theorem cK_fl : cK = flW wds := by decide +kernel
theorem kw_wds : ∀ x ∈ wds, ∀ c ∈ x, c ≠ 32 := by decide
theorem kwG_kW {t : Nat → Int} {s z : Nat} : kwG t s z cK 128 0 = kW (wdL t s z) := by rw [cK_fl]; exact kwG_fl wds 128 kw_wds
theorem cK_drop {i : Nat} (h : i < 121) : cK.drop i = byK 0 i :: cK.drop (i + 1) := by
  have hl : i < cK.length := by unfold cK; simpa using h
  have e : cK[i] = byK 0 i := by
    have g : cK[i]? = some (byK 0 i) := by unfold cK; rw [List.getElem?_map, List.getElem?_range h]; rfl
    rw [List.getElem?_eq_getElem hl] at g
    exact Option.some.inj g
  rw [List.drop_eq_getElem_cons hl, e]
theorem cK_end : cK.drop 121 = [] := by unfold cK; simp
theorem dX5_isLetter_0 : decode prog_7_method_8_code 0 = .ok (.iload_n 0, 1) := by decide +kernel
theorem dX5_isLetter_1 : decode prog_7_method_8_code 1 = .ok (.bipush 97, 2) := by decide +kernel
theorem dX5_isLetter_3 : decode prog_7_method_8_code 3 = .ok (.if_icmp .lt 9, 3) := by decide +kernel
theorem dX5_isLetter_6 : decode prog_7_method_8_code 6 = .ok (.iload_n 0, 1) := by decide +kernel
theorem dX5_isLetter_7 : decode prog_7_method_8_code 7 = .ok (.bipush 122, 2) := by decide +kernel
theorem dX5_isLetter_9 : decode prog_7_method_8_code 9 = .ok (.if_icmp .le 15, 3) := by decide +kernel
theorem dX5_isLetter_12 : decode prog_7_method_8_code 12 = .ok (.iload_n 0, 1) := by decide +kernel
theorem dX5_isLetter_13 : decode prog_7_method_8_code 13 = .ok (.bipush 65, 2) := by decide +kernel
theorem dX5_isLetter_15 : decode prog_7_method_8_code 15 = .ok (.if_icmp .lt 13, 3) := by decide +kernel
theorem dX5_isLetter_18 : decode prog_7_method_8_code 18 = .ok (.iload_n 0, 1) := by decide +kernel
theorem dX5_isLetter_19 : decode prog_7_method_8_code 19 = .ok (.bipush 90, 2) := by decide +kernel
theorem dX5_isLetter_21 : decode prog_7_method_8_code 21 = .ok (.if_icmp .gt 7, 3) := by decide +kernel
theorem dX5_isLetter_24 : decode prog_7_method_8_code 24 = .ok (.iconst 1, 1) := by decide +kernel
theorem dX5_isLetter_25 : decode prog_7_method_8_code 25 = .ok (.goto 4, 3) := by decide +kernel
theorem dX5_isLetter_28 : decode prog_7_method_8_code 28 = .ok (.iconst 0, 1) := by decide +kernel
theorem dX5_isLetter_29 : decode prog_7_method_8_code 29 = .ok (.ireturn, 1) := by decide +kernel
theorem sp_X5_isLetter {x : Int} (hx : Rg x) (hp : ∀ r : Int, (r = 1 ∧ ltP x ∨ r = 0 ∧ ¬ ltP x) → Post (some (.int (iI r))) S I R) : Call n 0 0 mX5_isLetter [.int (iI x)] S I R Post := by
  refine Call.of (by decide +kernel) (Nat.le_of_ble_eq_true rfl) ?_
  show WP _ _ _ _ _ 0 [(0, _)] [] 0 0 _ _ _
  refine x_iload_n dX5_isLetter_0 rfl ?_
  refine x_bipush dX5_isLetter_1 (by decide) ?_
  refine x_icmp_lt 12 dX5_isLetter_3 (by decide) ⟨(by omega), (by omega)⟩ (fun w3 => ?_) (fun w3 => ?_)
  · refine x_iload_n dX5_isLetter_12 rfl ?_
    refine x_bipush dX5_isLetter_13 (by decide) ?_
    refine x_icmp_lt 28 dX5_isLetter_15 (by decide) ⟨(by omega), (by omega)⟩ (fun w15 => ?_) (fun w15 => ?_)
    · refine x_iconst dX5_isLetter_28 ?_
      exact x_zreturn (by omega) dX5_isLetter_29 rfl (by omega) (by omega) (hp _ (by omega))
    · refine x_iload_n dX5_isLetter_18 rfl ?_
      refine x_bipush dX5_isLetter_19 (by decide) ?_
      refine x_icmp_gt 28 dX5_isLetter_21 (by decide) ⟨(by omega), (by omega)⟩ (fun w21 => ?_) (fun w21 => ?_)
      · refine x_iconst dX5_isLetter_28 ?_
        exact x_zreturn (by omega) dX5_isLetter_29 rfl (by omega) (by omega) (hp _ (by omega))
      · refine x_iconst dX5_isLetter_24 ?_
        refine x_goto 29 dX5_isLetter_25 (by decide) ?_
        exact x_zreturn (by omega) dX5_isLetter_29 rfl (by omega) (by omega) (hp _ (by omega))
  · refine x_iload_n dX5_isLetter_6 rfl ?_
    refine x_bipush dX5_isLetter_7 (by decide) ?_
    refine x_icmp_le 24 dX5_isLetter_9 (by decide) ⟨(by omega), (by omega)⟩ (fun w9 => ?_) (fun w9 => ?_)
    · refine x_iconst dX5_isLetter_24 ?_
      refine x_goto 29 dX5_isLetter_25 (by decide) ?_
      exact x_zreturn (by omega) dX5_isLetter_29 rfl (by omega) (by omega) (hp _ (by omega))
    · refine x_iload_n dX5_isLetter_12 rfl ?_
      refine x_bipush dX5_isLetter_13 (by decide) ?_
      refine x_icmp_lt 28 dX5_isLetter_15 (by decide) ⟨(by omega), (by omega)⟩ (fun w15 => ?_) (fun w15 => ?_)
      · refine x_iconst dX5_isLetter_28 ?_
        exact x_zreturn (by omega) dX5_isLetter_29 rfl (by omega) (by omega) (hp _ (by omega))
      · refine x_iload_n dX5_isLetter_18 rfl ?_
        refine x_bipush dX5_isLetter_19 (by decide) ?_
        refine x_icmp_gt 28 dX5_isLetter_21 (by decide) ⟨(by omega), (by omega)⟩ (fun w21 => ?_) (fun w21 => ?_)
        · refine x_iconst dX5_isLetter_28 ?_
          exact x_zreturn (by omega) dX5_isLetter_29 rfl (by omega) (by omega) (hp _ (by omega))
        · refine x_iconst dX5_isLetter_24 ?_
          refine x_goto 29 dX5_isLetter_25 (by decide) ?_
          exact x_zreturn (by omega) dX5_isLetter_29 rfl (by omega) (by omega) (hp _ (by omega))
theorem dX5_isDigit_0 : decode prog_7_method_9_code 0 = .ok (.iload_n 0, 1) := by decide +kernel
theorem dX5_isDigit_1 : decode prog_7_method_9_code 1 = .ok (.bipush 48, 2) := by decide +kernel
theorem dX5_isDigit_3 : decode prog_7_method_9_code 3 = .ok (.if_icmp .lt 13, 3) := by decide +kernel
theorem dX5_isDigit_6 : decode prog_7_method_9_code 6 = .ok (.iload_n 0, 1) := by decide +kernel
theorem dX5_isDigit_7 : decode prog_7_method_9_code 7 = .ok (.bipush 57, 2) := by decide +kernel
theorem dX5_isDigit_9 : decode prog_7_method_9_code 9 = .ok (.if_icmp .gt 7, 3) := by decide +kernel
theorem dX5_isDigit_12 : decode prog_7_method_9_code 12 = .ok (.iconst 1, 1) := by decide +kernel
theorem dX5_isDigit_13 : decode prog_7_method_9_code 13 = .ok (.goto 4, 3) := by decide +kernel
theorem dX5_isDigit_16 : decode prog_7_method_9_code 16 = .ok (.iconst 0, 1) := by decide +kernel
theorem dX5_isDigit_17 : decode prog_7_method_9_code 17 = .ok (.ireturn, 1) := by decide +kernel
theorem sp_X5_isDigit {x : Int} (hx : Rg x) (hp : ∀ r : Int, (r = 1 ∧ dgP x ∨ r = 0 ∧ ¬ dgP x) → Post (some (.int (iI r))) S I R) : Call n 0 0 mX5_isDigit [.int (iI x)] S I R Post := by
  refine Call.of (by decide +kernel) (Nat.le_of_ble_eq_true rfl) ?_
  show WP _ _ _ _ _ 0 [(0, _)] [] 0 0 _ _ _
  refine x_iload_n dX5_isDigit_0 rfl ?_
  refine x_bipush dX5_isDigit_1 (by decide) ?_
  refine x_icmp_lt 16 dX5_isDigit_3 (by decide) ⟨(by omega), (by omega)⟩ (fun w3 => ?_) (fun w3 => ?_)
  · refine x_iconst dX5_isDigit_16 ?_
    exact x_zreturn (by omega) dX5_isDigit_17 rfl (by omega) (by omega) (hp _ (by omega))
  · refine x_iload_n dX5_isDigit_6 rfl ?_
    refine x_bipush dX5_isDigit_7 (by decide) ?_
    refine x_icmp_gt 16 dX5_isDigit_9 (by decide) ⟨(by omega), (by omega)⟩ (fun w9 => ?_) (fun w9 => ?_)
    · refine x_iconst dX5_isDigit_16 ?_
      exact x_zreturn (by omega) dX5_isDigit_17 rfl (by omega) (by omega) (hp _ (by omega))
    · refine x_iconst dX5_isDigit_12 ?_
      refine x_goto 17 dX5_isDigit_13 (by decide) ?_
      exact x_zreturn (by omega) dX5_isDigit_17 rfl (by omega) (by omega) (hp _ (by omega))
theorem dX5_kindOfWord_0 : decode prog_7_method_10_code 0 = .ok (.sipush 128, 3) := by decide +kernel
theorem dX5_kindOfWord_3 : decode prog_7_method_10_code 3 = .ok (.istore_n 2, 1) := by decide +kernel
theorem dX5_kindOfWord_4 : decode prog_7_method_10_code 4 = .ok (.iconst 0, 1) := by decide +kernel
theorem dX5_kindOfWord_5 : decode prog_7_method_10_code 5 = .ok (.istore_n 3, 1) := by decide +kernel
theorem dX5_kindOfWord_6 : decode prog_7_method_10_code 6 = .ok (.iconst 0, 1) := by decide +kernel
theorem dX5_kindOfWord_7 : decode prog_7_method_10_code 7 = .ok (.istore 4, 2) := by decide +kernel
theorem dX5_kindOfWord_9 : decode prog_7_method_10_code 9 = .ok (.iload 4, 2) := by decide +kernel
theorem dX5_kindOfWord_11 : decode prog_7_method_10_code 11 = .ok (.ldc 94, 2) := by decide +kernel
theorem dX5_kindOfWord_13 : decode prog_7_method_10_code 13 = .ok (.invokevirtual 96, 3) := by decide +kernel
theorem dX5_kindOfWord_16 : decode prog_7_method_10_code 16 = .ok (.if_icmp .ge 73, 3) := by decide +kernel
theorem dX5_kindOfWord_19 : decode prog_7_method_10_code 19 = .ok (.ldc 94, 2) := by decide +kernel
theorem dX5_kindOfWord_21 : decode prog_7_method_10_code 21 = .ok (.iload 4, 2) := by decide +kernel
theorem dX5_kindOfWord_23 : decode prog_7_method_10_code 23 = .ok (.invokevirtual 101, 3) := by decide +kernel
theorem dX5_kindOfWord_26 : decode prog_7_method_10_code 26 = .ok (.istore 5, 2) := by decide +kernel
theorem dX5_kindOfWord_28 : decode prog_7_method_10_code 28 = .ok (.iload 5, 2) := by decide +kernel
theorem dX5_kindOfWord_30 : decode prog_7_method_10_code 30 = .ok (.bipush 32, 2) := by decide +kernel
theorem dX5_kindOfWord_32 : decode prog_7_method_10_code 32 = .ok (.if_icmp .eq 39, 3) := by decide +kernel
theorem dX5_kindOfWord_35 : decode prog_7_method_10_code 35 = .ok (.iload_n 3, 1) := by decide +kernel
theorem dX5_kindOfWord_36 : decode prog_7_method_10_code 36 = .ok (.ifCond .lt 30, 3) := by decide +kernel
theorem dX5_kindOfWord_39 : decode prog_7_method_10_code 39 = .ok (.iload_n 3, 1) := by decide +kernel
theorem dX5_kindOfWord_40 : decode prog_7_method_10_code 40 = .ok (.iload_n 1, 1) := by decide +kernel
theorem dX5_kindOfWord_41 : decode prog_7_method_10_code 41 = .ok (.if_icmp .ge 25, 3) := by decide +kernel
theorem dX5_kindOfWord_44 : decode prog_7_method_10_code 44 = .ok (.aload_n 0, 1) := by decide +kernel
theorem dX5_kindOfWord_45 : decode prog_7_method_10_code 45 = .ok (.getfield 9, 3) := by decide +kernel
theorem dX5_kindOfWord_48 : decode prog_7_method_10_code 48 = .ok (.aload_n 0, 1) := by decide +kernel
theorem dX5_kindOfWord_49 : decode prog_7_method_10_code 49 = .ok (.getfield 74, 3) := by decide +kernel
theorem dX5_kindOfWord_52 : decode prog_7_method_10_code 52 = .ok (.iload_n 3, 1) := by decide +kernel
theorem dX5_kindOfWord_53 : decode prog_7_method_10_code 53 = .ok (.iadd, 1) := by decide +kernel
theorem dX5_kindOfWord_54 : decode prog_7_method_10_code 54 = .ok (.iaload, 1) := by decide +kernel
theorem dX5_kindOfWord_55 : decode prog_7_method_10_code 55 = .ok (.iload 5, 2) := by decide +kernel
theorem dX5_kindOfWord_57 : decode prog_7_method_10_code 57 = .ok (.if_icmp .ne 9, 3) := by decide +kernel
theorem dX5_kindOfWord_60 : decode prog_7_method_10_code 60 = .ok (.iload_n 3, 1) := by decide +kernel
theorem dX5_kindOfWord_61 : decode prog_7_method_10_code 61 = .ok (.iconst 1, 1) := by decide +kernel
theorem dX5_kindOfWord_62 : decode prog_7_method_10_code 62 = .ok (.iadd, 1) := by decide +kernel
theorem dX5_kindOfWord_63 : decode prog_7_method_10_code 63 = .ok (.goto 4, 3) := by decide +kernel
theorem dX5_kindOfWord_66 : decode prog_7_method_10_code 66 = .ok (.iconst (-1), 1) := by decide +kernel
theorem dX5_kindOfWord_67 : decode prog_7_method_10_code 67 = .ok (.istore_n 3, 1) := by decide +kernel
theorem dX5_kindOfWord_68 : decode prog_7_method_10_code 68 = .ok (.goto 15, 3) := by decide +kernel
theorem dX5_kindOfWord_71 : decode prog_7_method_10_code 71 = .ok (.iload_n 3, 1) := by decide +kernel
theorem dX5_kindOfWord_72 : decode prog_7_method_10_code 72 = .ok (.iload_n 1, 1) := by decide +kernel
theorem dX5_kindOfWord_73 : decode prog_7_method_10_code 73 = .ok (.if_icmp .ne 5, 3) := by decide +kernel
theorem dX5_kindOfWord_76 : decode prog_7_method_10_code 76 = .ok (.iload_n 2, 1) := by decide +kernel
theorem dX5_kindOfWord_77 : decode prog_7_method_10_code 77 = .ok (.ireturn, 1) := by decide +kernel
theorem dX5_kindOfWord_78 : decode prog_7_method_10_code 78 = .ok (.iconst 0, 1) := by decide +kernel
theorem dX5_kindOfWord_79 : decode prog_7_method_10_code 79 = .ok (.istore_n 3, 1) := by decide +kernel
theorem dX5_kindOfWord_80 : decode prog_7_method_10_code 80 = .ok (.iinc 2 1, 3) := by decide +kernel
theorem dX5_kindOfWord_83 : decode prog_7_method_10_code 83 = .ok (.iinc 4 1, 3) := by decide +kernel
theorem dX5_kindOfWord_86 : decode prog_7_method_10_code 86 = .ok (.goto (-77), 3) := by decide +kernel
theorem dX5_kindOfWord_89 : decode prog_7_method_10_code 89 = .ok (.iconst 1, 1) := by decide +kernel
theorem dX5_kindOfWord_90 : decode prog_7_method_10_code 90 = .ok (.ireturn, 1) := by decide +kernel
theorem lp_kow {t : Nat → Int} {s z : Nat} {V : Int} (cs : CS S R) (hn : 4 ≤ n) (ht : I 288 = t) (hs : I 287 14 = (s : Int)) (hz : s + z ≤ 300) (hb : ∀ i, i < 300 → 0 ≤ t i ∧ t i < 256) (hp : Post (some (.int (iI V))) S I R) : ∀ (d i : Nat) (k a : Int), i ≤ 121 → 121 - i = d → -1 ≤ a → a ≤ 300 → (128 ≤ k ∧ k ≤ 128 + i) → kwG t s z (cK.drop i) k a = V → WP n 0 0 mX5_kindOfWord Post 9 [(0, .ref (S.2.1 287)), (1, .int (iI (z : Int))), (2, .int (iI k)), (3, .int (iI a)), (4, .int (iI (i : Int)))] [] 0 0 S I R := by
  have hl0 : lnK 0 = 121 := rfl
  intro d
  induction d using Nat.strongRecOn with
  | ind d ih =>
    intro i k a i1 i2 a1 a2 hk hV
    refine x_iload dX5_kindOfWord_9 rfl ?_
    refine x_ldcS0 rfl dX5_kindOfWord_11 ?_
    refine x_callT (t := 0) (mc1 := 0) (ms1 := 0) (n1 := n - 1) [] [_] dX5_kindOfWord_13 cv_RX5_96 (by omega) rfl rfl (Nat.le_of_ble_eq_true rfl) (by omega) (Nat.le_refl _) (Nat.le_refl _) ?_
    refine sp_length (t := 0) (by omega) (by omega) ?_
    refine x_icmp_ge 89 dX5_kindOfWord_16 (by decide) ⟨(by omega), (by omega)⟩ (fun w16 => ?_) (fun w16 => ?_)
    · obtain rfl : i = 121 := by omega
      rw [cK_end] at hV
      subst hV
      refine x_iconst dX5_kindOfWord_89 ?_
      exact x_ireturn dX5_kindOfWord_90 rfl (by omega) (by omega) hp
    · refine x_ldcS0 rfl dX5_kindOfWord_19 ?_
      refine x_iload dX5_kindOfWord_21 rfl ?_
      refine x_callT (t := 0) (mc1 := 0) (ms1 := 0) (n1 := n - 1) [.int (iI (i : Int))] [] dX5_kindOfWord_23 cv_RX5_101 (by omega) rfl rfl (Nat.le_of_ble_eq_true rfl) (by omega) (Nat.le_refl _) (Nat.le_refl _) ?_
      refine sp_charAt (t := 0) (by omega) (by omega) (by omega) ?_
      have hb2 := byK_b (t := 0) (i := i) (by omega) (by omega)
      rw [tN]
      rw [cK_drop (by omega)] at hV
      refine x_istore (lv2 := [(5, _), (0, _), (1, _), (2, _), (3, _), (4, _)]) dX5_kindOfWord_26 (by decide) rfl ?_
      refine x_iload dX5_kindOfWord_28 rfl ?_
      refine x_bipush dX5_kindOfWord_30 (by decide) ?_
      refine x_icmp_eq 71 dX5_kindOfWord_32 (by decide) ⟨(by omega), (by omega)⟩ (fun w32 => ?_) (fun w32 => ?_)
      · refine x_iload_n dX5_kindOfWord_71 rfl ?_
        refine x_iload_n dX5_kindOfWord_72 rfl ?_
        refine x_icmp_ne 78 dX5_kindOfWord_73 (by decide) ⟨(by omega), (by omega)⟩ (fun w73 => ?_) (fun w73 => ?_)
        · refine x_iconst dX5_kindOfWord_78 ?_
          refine x_istore_n (lv2 := [(3, _), (5, _), (0, _), (1, _), (2, _), (4, _)]) dX5_kindOfWord_79 (by decide) rfl ?_
          refine x_iinc (lv2 := [(2, _), (3, _), (5, _), (0, _), (1, _), (4, _)]) dX5_kindOfWord_80 rfl (by decide) rfl ?_
          refine x_iinc (lv2 := [(4, _), (2, _), (3, _), (5, _), (0, _), (1, _)]) dX5_kindOfWord_83 rfl (by decide) rfl ?_
          refine x_goto 9 dX5_kindOfWord_86 (by decide) ?_
          refine x_sub [4, 5, 1, 2, 0] rfl ?_
          refine ih _ (by omega) (i + 1) _ _ (by omega) rfl (by omega) (by omega) (by omega) ?_
          first
          | (rw [show kwG t s z (byK 0 i :: cK.drop (i + 1)) k a = kwG t s z (cK.drop (i + 1)) (k + 1) 0 from (if_pos (by omega)).trans (if_neg (by omega))] at hV; exact hV)
          | (rw [show kwG t s z (byK 0 i :: cK.drop (i + 1)) k a = kwG t s z (cK.drop (i + 1)) k (a + 1) from (if_neg (by omega)).trans (by rw [if_pos ⟨by omega, by omega, by rw [← es]; omega⟩])] at hV; exact hV)
          | (rw [show kwG t s z (byK 0 i :: cK.drop (i + 1)) k a = kwG t s z (cK.drop (i + 1)) k (-1) from (if_neg (by omega)).trans (by rw [if_neg (by omega)])] at hV; exact hV)
          | (rw [show kwG t s z (byK 0 i :: cK.drop (i + 1)) k a = kwG t s z (cK.drop (i + 1)) k (-1) from (if_neg (by omega)).trans (by rw [if_neg (by rw [← es]; omega)])] at hV; exact hV)
        · refine x_iload_n dX5_kindOfWord_76 rfl ?_
          rw [show kwG t s z (byK 0 i :: cK.drop (i + 1)) k a = k from (if_pos (by omega)).trans (if_pos (by omega))] at hV
          subst hV
          exact x_ireturn dX5_kindOfWord_77 rfl (by omega) (by omega) hp
      · refine x_iload_n dX5_kindOfWord_35 rfl ?_
        refine x_if_lt 66 dX5_kindOfWord_36 (by decide) (by omega) (fun w36 => ?_) (fun w36 => ?_)
        · refine x_iconst dX5_kindOfWord_66 ?_
          refine x_istore_n (lv2 := [(3, _), (5, _), (0, _), (1, _), (2, _), (4, _)]) dX5_kindOfWord_67 (by decide) rfl ?_
          refine x_goto 83 dX5_kindOfWord_68 (by decide) ?_
          refine x_iinc (lv2 := [(4, _), (3, _), (5, _), (0, _), (1, _), (2, _)]) dX5_kindOfWord_83 rfl (by decide) rfl ?_
          refine x_goto 9 dX5_kindOfWord_86 (by decide) ?_
          refine x_sub [3, 4, 5, 1, 0] rfl ?_
          refine ih _ (by omega) (i + 1) _ _ (by omega) rfl (by omega) (by omega) (by omega) ?_
          first
          | (rw [show kwG t s z (byK 0 i :: cK.drop (i + 1)) k a = kwG t s z (cK.drop (i + 1)) (k + 1) 0 from (if_pos (by omega)).trans (if_neg (by omega))] at hV; exact hV)
          | (rw [show kwG t s z (byK 0 i :: cK.drop (i + 1)) k a = kwG t s z (cK.drop (i + 1)) k (a + 1) from (if_neg (by omega)).trans (by rw [if_pos ⟨by omega, by omega, by rw [← es]; omega⟩])] at hV; exact hV)
          | (rw [show kwG t s z (byK 0 i :: cK.drop (i + 1)) k a = kwG t s z (cK.drop (i + 1)) k (-1) from (if_neg (by omega)).trans (by rw [if_neg (by omega)])] at hV; exact hV)
          | (rw [show kwG t s z (byK 0 i :: cK.drop (i + 1)) k a = kwG t s z (cK.drop (i + 1)) k (-1) from (if_neg (by omega)).trans (by rw [if_neg (by rw [← es]; omega)])] at hV; exact hV)
        · refine x_iload_n dX5_kindOfWord_39 rfl ?_
          refine x_iload_n dX5_kindOfWord_40 rfl ?_
          refine x_icmp_ge 66 dX5_kindOfWord_41 (by decide) ⟨(by omega), (by omega)⟩ (fun w41 => ?_) (fun w41 => ?_)
          · refine x_iconst dX5_kindOfWord_66 ?_
            refine x_istore_n (lv2 := [(3, _), (5, _), (0, _), (1, _), (2, _), (4, _)]) dX5_kindOfWord_67 (by decide) rfl ?_
            refine x_goto 83 dX5_kindOfWord_68 (by decide) ?_
            refine x_iinc (lv2 := [(4, _), (3, _), (5, _), (0, _), (1, _), (2, _)]) dX5_kindOfWord_83 rfl (by decide) rfl ?_
            refine x_goto 9 dX5_kindOfWord_86 (by decide) ?_
            refine x_sub [3, 4, 5, 1, 0] rfl ?_
            refine ih _ (by omega) (i + 1) _ _ (by omega) rfl (by omega) (by omega) (by omega) ?_
            first
            | (rw [show kwG t s z (byK 0 i :: cK.drop (i + 1)) k a = kwG t s z (cK.drop (i + 1)) (k + 1) 0 from (if_pos (by omega)).trans (if_neg (by omega))] at hV; exact hV)
            | (rw [show kwG t s z (byK 0 i :: cK.drop (i + 1)) k a = kwG t s z (cK.drop (i + 1)) k (a + 1) from (if_neg (by omega)).trans (by rw [if_pos ⟨by omega, by omega, by rw [← es]; omega⟩])] at hV; exact hV)
            | (rw [show kwG t s z (byK 0 i :: cK.drop (i + 1)) k a = kwG t s z (cK.drop (i + 1)) k (-1) from (if_neg (by omega)).trans (by rw [if_neg (by omega)])] at hV; exact hV)
            | (rw [show kwG t s z (byK 0 i :: cK.drop (i + 1)) k a = kwG t s z (cK.drop (i + 1)) k (-1) from (if_neg (by omega)).trans (by rw [if_neg (by rw [← es]; omega)])] at hV; exact hV)
          · refine x_aload_n dX5_kindOfWord_44 rfl ?_
            refine x_getR (b := 288) dX5_kindOfWord_45 gf_RX5_9 (k_ob_287 cs) (fun _ _ => rfl) (k_r_287_0 cs) ?_
            refine x_aload_n dX5_kindOfWord_48 rfl ?_
            refine x_getIv (z := (s : Int)) dX5_kindOfWord_49 gf_RX5_74 (k_ob_287 cs) (fun _ _ => rfl) (by exact hs) ?_
            refine x_iload_n dX5_kindOfWord_52 rfl ?_
            refine x_iadd dX5_kindOfWord_53 ?_
            refine x_iaload dX5_kindOfWord_54 (k_ar_288 cs) (by omega) (by omega) ?_
            rw [ht]
            have hb3 := hb ((s : Int) + a).toNat (by omega)
            have es : ((s : Int) + a).toNat = s + a.toNat := by omega
            refine x_iload dX5_kindOfWord_55 rfl ?_
            refine x_icmp_ne 66 dX5_kindOfWord_57 (by decide) ⟨(by omega), (by omega)⟩ (fun w57 => ?_) (fun w57 => ?_)
            · refine x_iconst dX5_kindOfWord_66 ?_
              refine x_istore_n (lv2 := [(3, _), (5, _), (0, _), (1, _), (2, _), (4, _)]) dX5_kindOfWord_67 (by decide) rfl ?_
              refine x_goto 83 dX5_kindOfWord_68 (by decide) ?_
              refine x_iinc (lv2 := [(4, _), (3, _), (5, _), (0, _), (1, _), (2, _)]) dX5_kindOfWord_83 rfl (by decide) rfl ?_
              refine x_goto 9 dX5_kindOfWord_86 (by decide) ?_
              refine x_sub [3, 4, 5, 1, 0] rfl ?_
              refine ih _ (by omega) (i + 1) _ _ (by omega) rfl (by omega) (by omega) (by omega) ?_
              first
              | (rw [show kwG t s z (byK 0 i :: cK.drop (i + 1)) k a = kwG t s z (cK.drop (i + 1)) (k + 1) 0 from (if_pos (by omega)).trans (if_neg (by omega))] at hV; exact hV)
              | (rw [show kwG t s z (byK 0 i :: cK.drop (i + 1)) k a = kwG t s z (cK.drop (i + 1)) k (a + 1) from (if_neg (by omega)).trans (by rw [if_pos ⟨by omega, by omega, by rw [← es]; omega⟩])] at hV; exact hV)
              | (rw [show kwG t s z (byK 0 i :: cK.drop (i + 1)) k a = kwG t s z (cK.drop (i + 1)) k (-1) from (if_neg (by omega)).trans (by rw [if_neg (by omega)])] at hV; exact hV)
              | (rw [show kwG t s z (byK 0 i :: cK.drop (i + 1)) k a = kwG t s z (cK.drop (i + 1)) k (-1) from (if_neg (by omega)).trans (by rw [if_neg (by rw [← es]; omega)])] at hV; exact hV)
            · refine x_iload_n dX5_kindOfWord_60 rfl ?_
              refine x_iconst dX5_kindOfWord_61 ?_
              refine x_iadd dX5_kindOfWord_62 ?_
              refine x_goto 67 dX5_kindOfWord_63 (by decide) ?_
              refine x_istore_n (lv2 := [(3, _), (5, _), (0, _), (1, _), (2, _), (4, _)]) dX5_kindOfWord_67 (by decide) rfl ?_
              refine x_goto 83 dX5_kindOfWord_68 (by decide) ?_
              refine x_iinc (lv2 := [(4, _), (3, _), (5, _), (0, _), (1, _), (2, _)]) dX5_kindOfWord_83 rfl (by decide) rfl ?_
              refine x_goto 9 dX5_kindOfWord_86 (by decide) ?_
              refine x_sub [3, 4, 5, 1, 0] rfl ?_
              refine ih _ (by omega) (i + 1) _ _ (by omega) rfl (by omega) (by omega) (by omega) ?_
              first
              | (rw [show kwG t s z (byK 0 i :: cK.drop (i + 1)) k a = kwG t s z (cK.drop (i + 1)) (k + 1) 0 from (if_pos (by omega)).trans (if_neg (by omega))] at hV; exact hV)
              | (rw [show kwG t s z (byK 0 i :: cK.drop (i + 1)) k a = kwG t s z (cK.drop (i + 1)) k (a + 1) from (if_neg (by omega)).trans (by rw [if_pos ⟨by omega, by omega, by rw [← es]; omega⟩])] at hV; exact hV)
              | (rw [show kwG t s z (byK 0 i :: cK.drop (i + 1)) k a = kwG t s z (cK.drop (i + 1)) k (-1) from (if_neg (by omega)).trans (by rw [if_neg (by omega)])] at hV; exact hV)
              | (rw [show kwG t s z (byK 0 i :: cK.drop (i + 1)) k a = kwG t s z (cK.drop (i + 1)) k (-1) from (if_neg (by omega)).trans (by rw [if_neg (by rw [← es]; omega)])] at hV; exact hV)
theorem sp_X5_kindOfWord {t : Nat → Int} {s z : Nat} (cs : CS S R) (hn : 4 ≤ n) (ht : I 288 = t) (hs : I 287 14 = (s : Int)) (hz : s + z ≤ 300) (hb : ∀ i, i < 300 → 0 ≤ t i ∧ t i < 256) (hp : Post (some (.int (iI (kW (wdL t s z))))) S I R) : Call n 0 0 mX5_kindOfWord [.ref (S.2.1 287), .int (iI (z : Int))] S I R Post := by
  refine Call.of (by decide +kernel) (Nat.le_of_ble_eq_true rfl) ?_
  show WP _ _ _ _ _ 0 [(0, _), (1, _)] [] 0 0 _ _ _
  refine x_sipush dX5_kindOfWord_0 (by decide) ?_
  refine x_istore_n (lv2 := [(2, _), (0, _), (1, _)]) dX5_kindOfWord_3 (by decide) rfl ?_
  refine x_iconst dX5_kindOfWord_4 ?_
  refine x_istore_n (lv2 := [(3, _), (2, _), (0, _), (1, _)]) dX5_kindOfWord_5 (by decide) rfl ?_
  refine x_iconst dX5_kindOfWord_6 ?_
  refine x_istore (lv2 := [(4, _), (3, _), (2, _), (0, _), (1, _)]) dX5_kindOfWord_7 (by decide) rfl ?_
  refine x_sub [3, 4, 2, 1, 0] rfl ?_
  exact lp_kow cs hn ht hs hz hb hp _ 0 128 0 (by omega) rfl (by omega) (by omega) (by omega) (by rw [List.drop_zero]; exact kwG_kW)
end Lex2
