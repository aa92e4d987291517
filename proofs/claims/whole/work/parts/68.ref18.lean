section Ref18
variable {n mc ms : Nat} {M : Md} {pc : Nat} {lv : List (Nat × Value)} {st : List Value} {k j : Nat} {Post : PT} {S : Sh} {I : CI} {R : CR} {A : Nat → Int} {tx : Nat → Nat → Int}
theorem sp_sym (hb : BA A) {p q : Nat} (hp : p < 6) (hq : q < 6) (h : (spA A p).testBit q = true) : (spA A q).testBit p = true := by
  have b0 := hb.1.1
  have h1 := (sp_tb (BA_bn hb) (BA_dif hb) hp hq (A 0).toNat (by omega)).mp h
  refine (sp_tb (BA_bn hb) (BA_dif hb) hq hp (A 0).toNat (by omega)).mpr ⟨fun e => h1.1 e.symm, fun k hk hh => ?_⟩
  exact h1.2 k hk ⟨hh.1, by rcases hh.2 with g | g; exact Or.inr ⟨g.1, g.2⟩; exact Or.inl ⟨g.1, g.2⟩⟩
theorem sp_irr (hb : BA A) {p : Nat} (hp : p < 6) : (spA A p).testBit p = false := by
  have b0 := hb.1.1
  cases h : (spA A p).testBit p
  · rfl
  · exact absurd rfl ((sp_tb (BA_bn hb) (BA_dif hb) hp hp (A 0).toNat (by omega)).mp h).1
theorem gP_lt {p : Nat} (hp : p < 6) : rch (spA A) 63 p < 64 := (grp_all hp).1
theorem gP_sub {p q : Nat} (hp : p < 6) (hq : q < 6) (h : (rch (spA A) 63 p).testBit q = true) : Sub (rch (spA A) 63 q) (rch (spA A) 63 p) := (grp_all hq).2.2.2 _ (gP_lt hp) h (grp_all hp).2.2.1
theorem gP_sym (hb : BA A) {p q : Nat} (hp : p < 6) (hq : q < 6) (h : (rch (spA A) 63 p).testBit q = true) : (rch (spA A) 63 q).testBit p = true := by
  cases hc : (rch (spA A) 63 q).testBit p
  · exfalso
    have h63 : ∀ x : Fin 6, (63 : Nat).testBit x.val = true := by decide
    have hbit : ∀ i, i < 6 → (sdN 63 (rch (spA A) 63 q)).testBit i = !(rch (spA A) 63 q).testBit i := fun i hi => by rw [sdN_tb (by decide), h63 ⟨i, hi⟩]; rfl
    have hcl : ClE (eSp A (-1)) (sdN 63 (rch (spA A) 63 q)) := by
      intro i j hi hj h1 h2
      rw [hbit i hi] at h1
      rw [hbit j hj]
      cases h3 : (rch (spA A) 63 q).testBit j
      · rfl
      · have h4 := (grp_all hq).2.2.1 j i hj hi h3 ⟨sp_sym hb hi hj h2.1, by omega⟩
        rw [show (rch (spA A) 63 q).testBit i = true from h4] at h1
        exact absurd h1 (by decide)
    have h5 := (grp_all hp).2.2.2 _ (by have := sdN_le 63 (rch (spA A) 63 q); omega) (by rw [hbit p hp, hc]; rfl) hcl q h
    rw [hbit q hq, show (rch (spA A) 63 q).testBit q = true from rch_p] at h5
    exact absurd h5 (by decide)
  · rfl
theorem gP_eq (hb : BA A) {p q : Nat} (hp : p < 6) (hq : q < 6) (h : (rch (spA A) 63 p).testBit q = true) : rch (spA A) 63 q = rch (spA A) 63 p := sub_eq (gP_sub hp hq h) (gP_sub hq hp (gP_sym hb hp hq h))
theorem cg_inv (hb : BA A) : ∀ p : Nat, p ≤ 6 → (∀ b, b < 6 → ((cgL (spA A) p).1.testBit b = true ↔ ∀ q, q < p → (rch (spA A) 63 q).testBit b = false)) ∧ (∀ q, q < p → (bcN (rch (spA A) 63 q) : Int) ≤ (cgL (spA A) p).2.2) ∧ (cgL (spA A) p).1 < 64 := by
  have h63 : ∀ x : Fin 6, (63 : Nat).testBit x.val = true := by decide
  intro p
  induction p with
  | zero =>
    intro _
    refine ⟨fun b hbb => ?_, fun q hq => by omega, (show (63 : Nat) < 64 by decide)⟩
    exact ⟨fun _ q hq => by omega, fun _ => h63 ⟨b, hbb⟩⟩
  | succ p ih =>
    intro hp
    obtain ⟨i1, i2, i3⟩ := ih (by omega)
    simp only [cgL]
    by_cases hl : (cgL (spA A) p).1.testBit p = true
    · rw [if_pos hl]
      refine ⟨fun b hbb => ?_, fun q hq => ?_, by have := sdN_le (cgL (spA A) p).1 (rch (spA A) 63 p); dsimp only; omega⟩
      · dsimp only
        rw [sdN_tb (by omega)]
        constructor
        · intro h q hq
          have h2 : (cgL (spA A) p).1.testBit b = true ∧ (rch (spA A) 63 p).testBit b = false := by simpa using h
          by_cases e : q = p
          · rw [e]; exact h2.2
          · exact (i1 b hbb).mp h2.1 q (by omega)
        · intro h
          rw [(i1 b hbb).mpr (fun q hq => h q (by omega)), show (rch (spA A) 63 p).testBit b = false from h p (by omega)]
          rfl
      · dsimp only
        by_cases e : q = p
        · subst e
          split <;> omega
        · have := i2 q (by omega)
          split <;> omega
    · rw [if_neg hl]
      have hex : ∃ q, q < p ∧ (rch (spA A) 63 q).testBit p = true := by
        by_cases hh : ∃ q, q < p ∧ (rch (spA A) 63 q).testBit p = true
        · exact hh
        · exfalso
          apply hl
          refine (i1 p (by omega)).mpr (fun q hq => ?_)
          cases hc : (rch (spA A) 63 q).testBit p
          · rfl
          · exact absurd ⟨q, hq, hc⟩ hh
      obtain ⟨q0, hq0, hq1⟩ := hex
      have e0 := gP_eq hb (p := q0) (q := p) (by omega) (by omega) hq1
      refine ⟨fun b hbb => ?_, fun q hq => ?_, i3⟩
      · rw [i1 b hbb]
        constructor
        · intro h q hq
          by_cases e : q = p
          · rw [e, e0]; exact h q0 hq0
          · exact h q (by omega)
        · intro h q hq
          exact h q (by omega)
      · by_cases e : q = p
        · rw [e, e0]; exact i2 q0 hq0
        · exact i2 q (by omega)
theorem low_z {x p : Nat} : x &&& (2 ^ p - 1) = 0 ↔ ∀ b, b < p → x.testBit b = false := by
  rw [Nat.and_two_pow_sub_one_eq_mod]
  constructor
  · intro h b hb
    have h2 : (x % 2 ^ p).testBit b = false := by rw [h]; simp
    rw [Nat.testBit_mod_two_pow] at h2
    simpa [hb] using h2
  · intro h
    apply Nat.eq_of_testBit_eq
    intro i
    rw [Nat.testBit_mod_two_pow]
    by_cases hi : i < p
    · rw [h i hi]; simp
    · simp [hi]
theorem cg_rep (hb : BA A) {p : Nat} (hp : p < 6) : ((cgL (spA A) p).1.testBit p = true ↔ rch (spA A) 63 p &&& (2 ^ p - 1) = 0) := by
  rw [(cg_inv hb p (by omega)).1 p hp, low_z]
  constructor
  · intro h b hbb
    cases hc : (rch (spA A) 63 p).testBit b
    · rfl
    · have := gP_sym hb hp (q := b) (by omega) hc
      rw [h b hbb] at this
      exact absurd this (by decide)
  · intro h q hq
    cases hc : (rch (spA A) 63 q).testBit p
    · rfl
    · have := gP_sym hb (p := q) (q := p) (by omega) hp hc
      rw [h q hq] at this
      exact absurd this (by decide)
theorem dX12_groups_0 : decode prog_14_method_110_code 0 = .ok (.iconst 0, 1) := by decide +kernel
theorem dX12_groups_1 : decode prog_14_method_110_code 1 = .ok (.istore_n 2, 1) := by decide +kernel
theorem dX12_groups_2 : decode prog_14_method_110_code 2 = .ok (.iconst 0, 1) := by decide +kernel
theorem dX12_groups_3 : decode prog_14_method_110_code 3 = .ok (.istore_n 3, 1) := by decide +kernel
theorem dX12_groups_4 : decode prog_14_method_110_code 4 = .ok (.iconst 0, 1) := by decide +kernel
theorem dX12_groups_5 : decode prog_14_method_110_code 5 = .ok (.istore 4, 2) := by decide +kernel
theorem dX12_groups_7 : decode prog_14_method_110_code 7 = .ok (.iload 4, 2) := by decide +kernel
theorem dX12_groups_9 : decode prog_14_method_110_code 9 = .ok (.bipush 6, 2) := by decide +kernel
theorem dX12_groups_11 : decode prog_14_method_110_code 11 = .ok (.if_icmp .ge 57, 3) := by decide +kernel
theorem dX12_groups_14 : decode prog_14_method_110_code 14 = .ok (.aload_n 0, 1) := by decide +kernel
theorem dX12_groups_15 : decode prog_14_method_110_code 15 = .ok (.iload 4, 2) := by decide +kernel
theorem dX12_groups_17 : decode prog_14_method_110_code 17 = .ok (.iconst (-1), 1) := by decide +kernel
theorem dX12_groups_18 : decode prog_14_method_110_code 18 = .ok (.invokevirtual 417, 3) := by decide +kernel
theorem dX12_groups_21 : decode prog_14_method_110_code 21 = .ok (.istore 5, 2) := by decide +kernel
theorem dX12_groups_23 : decode prog_14_method_110_code 23 = .ok (.iload_n 2, 1) := by decide +kernel
theorem dX12_groups_24 : decode prog_14_method_110_code 24 = .ok (.iload 5, 2) := by decide +kernel
theorem dX12_groups_26 : decode prog_14_method_110_code 26 = .ok (.iconst 1, 1) := by decide +kernel
theorem dX12_groups_27 : decode prog_14_method_110_code 27 = .ok (.iload 4, 2) := by decide +kernel
theorem dX12_groups_29 : decode prog_14_method_110_code 29 = .ok (.ishl, 1) := by decide +kernel
theorem dX12_groups_30 : decode prog_14_method_110_code 30 = .ok (.iconst 1, 1) := by decide +kernel
theorem dX12_groups_31 : decode prog_14_method_110_code 31 = .ok (.isub, 1) := by decide +kernel
theorem dX12_groups_32 : decode prog_14_method_110_code 32 = .ok (.iand, 1) := by decide +kernel
theorem dX12_groups_33 : decode prog_14_method_110_code 33 = .ok (.ifCond .ne 7, 3) := by decide +kernel
theorem dX12_groups_36 : decode prog_14_method_110_code 36 = .ok (.iconst 1, 1) := by decide +kernel
theorem dX12_groups_37 : decode prog_14_method_110_code 37 = .ok (.goto 4, 3) := by decide +kernel
theorem dX12_groups_40 : decode prog_14_method_110_code 40 = .ok (.iconst 0, 1) := by decide +kernel
theorem dX12_groups_41 : decode prog_14_method_110_code 41 = .ok (.iadd, 1) := by decide +kernel
theorem dX12_groups_42 : decode prog_14_method_110_code 42 = .ok (.istore_n 2, 1) := by decide +kernel
theorem dX12_groups_43 : decode prog_14_method_110_code 43 = .ok (.iload 5, 2) := by decide +kernel
theorem dX12_groups_45 : decode prog_14_method_110_code 45 = .ok (.invokestatic 327, 3) := by decide +kernel
theorem dX12_groups_48 : decode prog_14_method_110_code 48 = .ok (.iload_n 3, 1) := by decide +kernel
theorem dX12_groups_49 : decode prog_14_method_110_code 49 = .ok (.if_icmp .le 11, 3) := by decide +kernel
theorem dX12_groups_52 : decode prog_14_method_110_code 52 = .ok (.iload 5, 2) := by decide +kernel
theorem dX12_groups_54 : decode prog_14_method_110_code 54 = .ok (.invokestatic 327, 3) := by decide +kernel
theorem dX12_groups_57 : decode prog_14_method_110_code 57 = .ok (.goto 4, 3) := by decide +kernel
theorem dX12_groups_60 : decode prog_14_method_110_code 60 = .ok (.iload_n 3, 1) := by decide +kernel
theorem dX12_groups_61 : decode prog_14_method_110_code 61 = .ok (.istore_n 3, 1) := by decide +kernel
theorem dX12_groups_62 : decode prog_14_method_110_code 62 = .ok (.iinc 4 1, 3) := by decide +kernel
theorem dX12_groups_65 : decode prog_14_method_110_code 65 = .ok (.goto (-58), 3) := by decide +kernel
theorem dX12_groups_68 : decode prog_14_method_110_code 68 = .ok (.iload_n 1, 1) := by decide +kernel
theorem dX12_groups_69 : decode prog_14_method_110_code 69 = .ok (.ifCond .eq 7, 3) := by decide +kernel
theorem dX12_groups_72 : decode prog_14_method_110_code 72 = .ok (.iload_n 3, 1) := by decide +kernel
theorem dX12_groups_73 : decode prog_14_method_110_code 73 = .ok (.goto 4, 3) := by decide +kernel
theorem dX12_groups_76 : decode prog_14_method_110_code 76 = .ok (.iload_n 2, 1) := by decide +kernel
theorem dX12_groups_77 : decode prog_14_method_110_code 77 = .ok (.ireturn, 1) := by decide +kernel
theorem lp_X12_groups {w : Int} (cs : CS S R) (hA : I 307 = A) (hb : BA A) (hw : w = 0 ∨ w = 1) (hn : 4 ≤ n) (hp : Post (some (.int (iI (f_groups A w)))) S I R) : ∀ (d p : Nat), p ≤ 6 → 6 - p = d → WP n 0 0 mX12_groups Post 7 [(0, .ref (S.2.1 306)), (1, .int (iI w)), (2, .int (iI (cgL (spA A) p).2.1)), (3, .int (iI (cgL (spA A) p).2.2)), (4, .int (iI (p : Int)))] [] 0 0 S I R := by
  unfold f_groups at hp
  intro d
  induction d using Nat.strongRecOn with
  | ind d ih =>
    intro p p1 p2
    have hcg := cgL_b (sp := spA A) p
    have hin := cg_inv hb p p1
    refine x_iload dX12_groups_7 rfl ?_
    refine x_bipush dX12_groups_9 (by decide) ?_
    refine x_icmp_ge 68 dX12_groups_11 (by decide) ⟨(by omega), (by omega)⟩ (fun w11 => ?_) (fun w11 => ?_)
    · refine x_iload_n dX12_groups_68 rfl ?_
      refine x_if_eq 76 dX12_groups_69 (by decide) (by omega) (fun w69 => ?_) (fun w69 => ?_)
      · refine x_iload_n dX12_groups_76 rfl ?_
        exact x_ireturn dX12_groups_77 rfl (by omega) (by omega) (by obtain rfl : p = 6 := (by omega); first | (rw [if_pos (by omega)] at hp; exact hp) | (rw [if_neg (by omega)] at hp; exact hp))
      · refine x_iload_n dX12_groups_72 rfl ?_
        refine x_goto 77 dX12_groups_73 (by decide) ?_
        exact x_ireturn dX12_groups_77 rfl (by omega) (by omega) (by obtain rfl : p = 6 := (by omega); first | (rw [if_pos (by omega)] at hp; exact hp) | (rw [if_neg (by omega)] at hp; exact hp))
    · refine x_aload_n dX12_groups_14 rfl ?_
      refine x_iload dX12_groups_15 rfl ?_
      refine x_iconst dX12_groups_17 ?_
      refine x_callV2 (mc1 := 0) (ms1 := 0) dX12_groups_18 cv_RX12_417 (ci := 12) (k_ob_306 cs) rfl (Nat.le_of_ble_eq_true rfl) (n1 := n - 1) (by omega) (by omega) (by omega) ?_
      refine sp_X12_groupOf cs hA (BA_bn hb) (BA_dif hb) (by omega) (by omega) (by omega) (grp_all (by omega)) ?_
      have hgl := gP_lt (A := A) (p := p) (by omega)
      have hbc := bc_64 hgl
      have hpw := pw6 (p := p) (by omega)
      have hp0 : 0 < 2 ^ p := Nat.pow_pos (by decide)
      refine x_istore (lv2 := [(5, _), (0, _), (1, _), (2, _), (3, _), (4, _)]) dX12_groups_21 (by decide) rfl ?_
      refine x_iload_n dX12_groups_23 rfl ?_
      refine x_iload dX12_groups_24 rfl ?_
      refine x_iconst dX12_groups_26 ?_
      refine x_iload dX12_groups_27 rfl ?_
      refine x_ishl dX12_groups_29 ?_
      rw [shl1_n (by omega)]
      refine x_iconst dX12_groups_30 ?_
      refine x_isub dX12_groups_31 ?_
      refine x_iand dX12_groups_32 ?_
      rw [show ((2 ^ p : Nat) : Int) - 1 = ((2 ^ p - 1 : Nat) : Int) by omega, andI_n (by omega)]
      have hand : rch (spA A) 63 p &&& (2 ^ p - 1) ≤ rch (spA A) 63 p := Nat.and_le_left
      refine x_if_ne 40 dX12_groups_33 (by decide) (by omega) (fun w33 => ?_) (fun w33 => ?_)
      · refine x_iconst dX12_groups_40 ?_
        refine x_iadd dX12_groups_41 ?_
        refine x_istore_n (lv2 := [(2, _), (5, _), (0, _), (1, _), (3, _), (4, _)]) dX12_groups_42 (by decide) rfl ?_
        refine x_iload dX12_groups_43 rfl ?_
        refine x_callS1 (mc1 := 0) (ms1 := 0) dX12_groups_45 cv_RX12_327 (Nat.le_of_ble_eq_true rfl) (n1 := n - 1) (by omega) (by omega) (by omega) ?_
        refine sp_X12_bits (by omega) ?_
        refine x_iload_n dX12_groups_48 rfl ?_
        refine x_icmp_le 60 dX12_groups_49 (by decide) ⟨(by omega), (by omega)⟩ (fun w49 => ?_) (fun w49 => ?_)
        · refine x_iload_n dX12_groups_60 rfl ?_
          refine x_istore_n (lv2 := [(3, _), (2, _), (5, _), (0, _), (1, _), (4, _)]) dX12_groups_61 (by decide) rfl ?_
          refine x_iinc (lv2 := [(4, _), (3, _), (2, _), (5, _), (0, _), (1, _)]) dX12_groups_62 rfl (by decide) rfl ?_
          refine x_goto 7 dX12_groups_65 (by decide) ?_
          refine x_sub [4, 5, 2, 1, 0] rfl ?_
          have hg := ih _ (by omega) (p + 1) (by omega) rfl
          by_cases hl : (cgL (spA A) p).1.testBit p = true
          · have hz := (cg_rep hb (by omega)).mp hl
            rw [show cgL (spA A) (p + 1) = (sdN (cgL (spA A) p).1 (rch (spA A) 63 p), (cgL (spA A) p).2.1 + 1, if (bcN (rch (spA A) 63 p) : Int) ≤ (cgL (spA A) p).2.2 then (cgL (spA A) p).2.2 else (bcN (rch (spA A) 63 p) : Int)) from if_pos hl] at hg
            dsimp only at hg
            first
              | (exfalso; omega)
              | (rw [if_pos (by omega)] at hg; exact hg)
              | (rw [if_neg (by omega)] at hg; exact hg)
          · have hz : ¬ (rch (spA A) 63 p &&& (2 ^ p - 1) = 0) := fun h => hl ((cg_rep hb (by omega)).mpr h)
            rw [show cgL (spA A) (p + 1) = cgL (spA A) p from if_neg hl] at hg
            have hle : (bcN (rch (spA A) 63 p) : Int) ≤ (cgL (spA A) p).2.2 := by
              have h2 := (cg_inv hb (p + 1) (by omega)).2.1 p (by omega)
              rw [show cgL (spA A) (p + 1) = cgL (spA A) p from if_neg hl] at h2
              exact h2
            first
              | (exfalso; omega)
              | (rw [Int.add_zero]; exact hg)
        · refine x_iload dX12_groups_52 rfl ?_
          refine x_callS1 (mc1 := 0) (ms1 := 0) dX12_groups_54 cv_RX12_327 (Nat.le_of_ble_eq_true rfl) (n1 := n - 1) (by omega) (by omega) (by omega) ?_
          refine sp_X12_bits (by omega) ?_
          refine x_goto 61 dX12_groups_57 (by decide) ?_
          refine x_istore_n (lv2 := [(3, _), (2, _), (5, _), (0, _), (1, _), (4, _)]) dX12_groups_61 (by decide) rfl ?_
          refine x_iinc (lv2 := [(4, _), (3, _), (2, _), (5, _), (0, _), (1, _)]) dX12_groups_62 rfl (by decide) rfl ?_
          refine x_goto 7 dX12_groups_65 (by decide) ?_
          refine x_sub [4, 5, 2, 1, 0] rfl ?_
          have hg := ih _ (by omega) (p + 1) (by omega) rfl
          by_cases hl : (cgL (spA A) p).1.testBit p = true
          · have hz := (cg_rep hb (by omega)).mp hl
            rw [show cgL (spA A) (p + 1) = (sdN (cgL (spA A) p).1 (rch (spA A) 63 p), (cgL (spA A) p).2.1 + 1, if (bcN (rch (spA A) 63 p) : Int) ≤ (cgL (spA A) p).2.2 then (cgL (spA A) p).2.2 else (bcN (rch (spA A) 63 p) : Int)) from if_pos hl] at hg
            dsimp only at hg
            first
              | (exfalso; omega)
              | (rw [if_pos (by omega)] at hg; exact hg)
              | (rw [if_neg (by omega)] at hg; exact hg)
          · have hz : ¬ (rch (spA A) 63 p &&& (2 ^ p - 1) = 0) := fun h => hl ((cg_rep hb (by omega)).mpr h)
            rw [show cgL (spA A) (p + 1) = cgL (spA A) p from if_neg hl] at hg
            have hle : (bcN (rch (spA A) 63 p) : Int) ≤ (cgL (spA A) p).2.2 := by
              have h2 := (cg_inv hb (p + 1) (by omega)).2.1 p (by omega)
              rw [show cgL (spA A) (p + 1) = cgL (spA A) p from if_neg hl] at h2
              exact h2
            first
              | (exfalso; omega)
              | (rw [Int.add_zero]; exact hg)
      · refine x_iconst dX12_groups_36 ?_
        refine x_goto 41 dX12_groups_37 (by decide) ?_
        refine x_iadd dX12_groups_41 ?_
        refine x_istore_n (lv2 := [(2, _), (5, _), (0, _), (1, _), (3, _), (4, _)]) dX12_groups_42 (by decide) rfl ?_
        refine x_iload dX12_groups_43 rfl ?_
        refine x_callS1 (mc1 := 0) (ms1 := 0) dX12_groups_45 cv_RX12_327 (Nat.le_of_ble_eq_true rfl) (n1 := n - 1) (by omega) (by omega) (by omega) ?_
        refine sp_X12_bits (by omega) ?_
        refine x_iload_n dX12_groups_48 rfl ?_
        refine x_icmp_le 60 dX12_groups_49 (by decide) ⟨(by omega), (by omega)⟩ (fun w49 => ?_) (fun w49 => ?_)
        · refine x_iload_n dX12_groups_60 rfl ?_
          refine x_istore_n (lv2 := [(3, _), (2, _), (5, _), (0, _), (1, _), (4, _)]) dX12_groups_61 (by decide) rfl ?_
          refine x_iinc (lv2 := [(4, _), (3, _), (2, _), (5, _), (0, _), (1, _)]) dX12_groups_62 rfl (by decide) rfl ?_
          refine x_goto 7 dX12_groups_65 (by decide) ?_
          refine x_sub [4, 5, 2, 1, 0] rfl ?_
          have hg := ih _ (by omega) (p + 1) (by omega) rfl
          by_cases hl : (cgL (spA A) p).1.testBit p = true
          · have hz := (cg_rep hb (by omega)).mp hl
            rw [show cgL (spA A) (p + 1) = (sdN (cgL (spA A) p).1 (rch (spA A) 63 p), (cgL (spA A) p).2.1 + 1, if (bcN (rch (spA A) 63 p) : Int) ≤ (cgL (spA A) p).2.2 then (cgL (spA A) p).2.2 else (bcN (rch (spA A) 63 p) : Int)) from if_pos hl] at hg
            dsimp only at hg
            first
              | (exfalso; omega)
              | (rw [if_pos (by omega)] at hg; exact hg)
              | (rw [if_neg (by omega)] at hg; exact hg)
          · have hz : ¬ (rch (spA A) 63 p &&& (2 ^ p - 1) = 0) := fun h => hl ((cg_rep hb (by omega)).mpr h)
            rw [show cgL (spA A) (p + 1) = cgL (spA A) p from if_neg hl] at hg
            have hle : (bcN (rch (spA A) 63 p) : Int) ≤ (cgL (spA A) p).2.2 := by
              have h2 := (cg_inv hb (p + 1) (by omega)).2.1 p (by omega)
              rw [show cgL (spA A) (p + 1) = cgL (spA A) p from if_neg hl] at h2
              exact h2
            first
              | (exfalso; omega)
              | (rw [Int.add_zero]; exact hg)
        · refine x_iload dX12_groups_52 rfl ?_
          refine x_callS1 (mc1 := 0) (ms1 := 0) dX12_groups_54 cv_RX12_327 (Nat.le_of_ble_eq_true rfl) (n1 := n - 1) (by omega) (by omega) (by omega) ?_
          refine sp_X12_bits (by omega) ?_
          refine x_goto 61 dX12_groups_57 (by decide) ?_
          refine x_istore_n (lv2 := [(3, _), (2, _), (5, _), (0, _), (1, _), (4, _)]) dX12_groups_61 (by decide) rfl ?_
          refine x_iinc (lv2 := [(4, _), (3, _), (2, _), (5, _), (0, _), (1, _)]) dX12_groups_62 rfl (by decide) rfl ?_
          refine x_goto 7 dX12_groups_65 (by decide) ?_
          refine x_sub [4, 5, 2, 1, 0] rfl ?_
          have hg := ih _ (by omega) (p + 1) (by omega) rfl
          by_cases hl : (cgL (spA A) p).1.testBit p = true
          · have hz := (cg_rep hb (by omega)).mp hl
            rw [show cgL (spA A) (p + 1) = (sdN (cgL (spA A) p).1 (rch (spA A) 63 p), (cgL (spA A) p).2.1 + 1, if (bcN (rch (spA A) 63 p) : Int) ≤ (cgL (spA A) p).2.2 then (cgL (spA A) p).2.2 else (bcN (rch (spA A) 63 p) : Int)) from if_pos hl] at hg
            dsimp only at hg
            first
              | (exfalso; omega)
              | (rw [if_pos (by omega)] at hg; exact hg)
              | (rw [if_neg (by omega)] at hg; exact hg)
          · have hz : ¬ (rch (spA A) 63 p &&& (2 ^ p - 1) = 0) := fun h => hl ((cg_rep hb (by omega)).mpr h)
            rw [show cgL (spA A) (p + 1) = cgL (spA A) p from if_neg hl] at hg
            have hle : (bcN (rch (spA A) 63 p) : Int) ≤ (cgL (spA A) p).2.2 := by
              have h2 := (cg_inv hb (p + 1) (by omega)).2.1 p (by omega)
              rw [show cgL (spA A) (p + 1) = cgL (spA A) p from if_neg hl] at h2
              exact h2
            first
              | (exfalso; omega)
              | (rw [Int.add_zero]; exact hg)
theorem sp_X12_groups {w : Int} (cs : CS S R) (hA : I 307 = A) (hb : BA A) (hw : w = 0 ∨ w = 1) (hn : 4 ≤ n) (hp : Post (some (.int (iI (f_groups A w)))) S I R) : Call n 0 0 mX12_groups [.ref (S.2.1 306), .int (iI w)] S I R Post := by
  refine Call.of (by decide +kernel) (Nat.le_of_ble_eq_true rfl) ?_
  show WP _ _ _ _ _ 0 [(0, _), (1, _)] [] 0 0 _ _ _
  refine x_iconst dX12_groups_0 ?_
  refine x_istore_n (lv2 := [(2, _), (0, _), (1, _)]) dX12_groups_1 (by decide) rfl ?_
  refine x_iconst dX12_groups_2 ?_
  refine x_istore_n (lv2 := [(3, _), (2, _), (0, _), (1, _)]) dX12_groups_3 (by decide) rfl ?_
  refine x_iconst dX12_groups_4 ?_
  refine x_istore (lv2 := [(4, _), (3, _), (2, _), (0, _), (1, _)]) dX12_groups_5 (by decide) rfl ?_
  refine x_sub [3, 4, 2, 1, 0] rfl ?_
  exact lp_X12_groups cs hA hb hw hn hp _ 0 (by omega) rfl
theorem silent_i (hb : BA A) {p : Nat} (hp : p < 6) : rch (spA A) 63 p = 2 ^ p ↔ spA A p = 0 := by
  constructor
  · intro h
    apply Nat.eq_of_testBit_eq
    intro i
    rw [Nat.zero_testBit]
    cases hc : (spA A p).testBit i
    · rfl
    · have hi := tb_lo (spA_lt p) hc
      have h2 := (grp_all hp).2.2.1 p i hp hi rch_p ⟨hc, by omega⟩
      rw [show rch (spA A) 63 p = 2 ^ p from h, Nat.testBit_two_pow] at h2
      have e : p = i := by simpa using h2
      rw [← e, sp_irr hb hp] at hc
      exact absurd hc (by decide)
  · intro h
    refine sub_eq ((grp_all hp).2.2.2 _ (pw6 hp) Nat.testBit_two_pow_self (fun i j hi hj h1 h2 => ?_)) (fun b hb2 => ?_)
    · rw [Nat.testBit_two_pow] at h1
      have e : p = i := by simpa using h1
      have h3 := h2.1
      rw [← e, h, Nat.zero_testBit] at h3
      exact absurd h3 (by decide)
    · rw [Nat.testBit_two_pow] at hb2
      have e : p = b := by simpa using hb2
      rw [← e]; exact rch_p
theorem dX12_silent_0 : decode prog_14_method_111_code 0 = .ok (.iconst 0, 1) := by decide +kernel
theorem dX12_silent_1 : decode prog_14_method_111_code 1 = .ok (.istore_n 1, 1) := by decide +kernel
theorem dX12_silent_2 : decode prog_14_method_111_code 2 = .ok (.iconst 0, 1) := by decide +kernel
theorem dX12_silent_3 : decode prog_14_method_111_code 3 = .ok (.istore_n 2, 1) := by decide +kernel
theorem dX12_silent_4 : decode prog_14_method_111_code 4 = .ok (.iload_n 2, 1) := by decide +kernel
theorem dX12_silent_5 : decode prog_14_method_111_code 5 = .ok (.bipush 6, 2) := by decide +kernel
theorem dX12_silent_7 : decode prog_14_method_111_code 7 = .ok (.if_icmp .ge 31, 3) := by decide +kernel
theorem dX12_silent_10 : decode prog_14_method_111_code 10 = .ok (.iload_n 1, 1) := by decide +kernel
theorem dX12_silent_11 : decode prog_14_method_111_code 11 = .ok (.aload_n 0, 1) := by decide +kernel
theorem dX12_silent_12 : decode prog_14_method_111_code 12 = .ok (.iload_n 2, 1) := by decide +kernel
theorem dX12_silent_13 : decode prog_14_method_111_code 13 = .ok (.iconst (-1), 1) := by decide +kernel
theorem dX12_silent_14 : decode prog_14_method_111_code 14 = .ok (.invokevirtual 417, 3) := by decide +kernel
theorem dX12_silent_17 : decode prog_14_method_111_code 17 = .ok (.iconst 1, 1) := by decide +kernel
theorem dX12_silent_18 : decode prog_14_method_111_code 18 = .ok (.iload_n 2, 1) := by decide +kernel
theorem dX12_silent_19 : decode prog_14_method_111_code 19 = .ok (.ishl, 1) := by decide +kernel
theorem dX12_silent_20 : decode prog_14_method_111_code 20 = .ok (.if_icmp .ne 9, 3) := by decide +kernel
theorem dX12_silent_23 : decode prog_14_method_111_code 23 = .ok (.iconst 1, 1) := by decide +kernel
theorem dX12_silent_24 : decode prog_14_method_111_code 24 = .ok (.iload_n 2, 1) := by decide +kernel
theorem dX12_silent_25 : decode prog_14_method_111_code 25 = .ok (.ishl, 1) := by decide +kernel
theorem dX12_silent_26 : decode prog_14_method_111_code 26 = .ok (.goto 4, 3) := by decide +kernel
theorem dX12_silent_29 : decode prog_14_method_111_code 29 = .ok (.iconst 0, 1) := by decide +kernel
theorem dX12_silent_30 : decode prog_14_method_111_code 30 = .ok (.ior, 1) := by decide +kernel
theorem dX12_silent_31 : decode prog_14_method_111_code 31 = .ok (.istore_n 1, 1) := by decide +kernel
theorem dX12_silent_32 : decode prog_14_method_111_code 32 = .ok (.iinc 2 1, 3) := by decide +kernel
theorem dX12_silent_35 : decode prog_14_method_111_code 35 = .ok (.goto (-31), 3) := by decide +kernel
theorem dX12_silent_38 : decode prog_14_method_111_code 38 = .ok (.iload_n 1, 1) := by decide +kernel
theorem dX12_silent_39 : decode prog_14_method_111_code 39 = .ok (.ireturn, 1) := by decide +kernel
theorem lp_X12_silent (cs : CS S R) (hA : I 307 = A) (hb : BA A) (hn : 4 ≤ n) (hp : Post (some (.int (iI (f_silent A)))) S I R) : ∀ (d p : Nat), p ≤ 6 → 6 - p = d → WP n 0 0 mX12_silent Post 4 [(0, .ref (S.2.1 306)), (1, .int (iI (siL (spA A) p : Int))), (2, .int (iI (p : Int)))] [] 0 0 S I R := by
  unfold f_silent at hp
  intro d
  induction d using Nat.strongRecOn with
  | ind d ih =>
    intro p p1 p2
    have hsl := siL_lt (sp := spA A) p
    have hpp : 2 ^ p ≤ 64 := Nat.pow_le_pow_right (n := 2) (by decide) p1
    refine x_iload_n dX12_silent_4 rfl ?_
    refine x_bipush dX12_silent_5 (by decide) ?_
    refine x_icmp_ge 38 dX12_silent_7 (by decide) ⟨(by omega), (by omega)⟩ (fun w7 => ?_) (fun w7 => ?_)
    · refine x_iload_n dX12_silent_38 rfl ?_
      exact x_ireturn dX12_silent_39 rfl (by omega) (by omega) (by obtain rfl : p = 6 := (by omega); exact hp)
    · refine x_iload_n dX12_silent_10 rfl ?_
      refine x_aload_n dX12_silent_11 rfl ?_
      refine x_iload_n dX12_silent_12 rfl ?_
      refine x_iconst dX12_silent_13 ?_
      refine x_callV2 (mc1 := 0) (ms1 := 0) dX12_silent_14 cv_RX12_417 (ci := 12) (k_ob_306 cs) rfl (Nat.le_of_ble_eq_true rfl) (n1 := n - 1) (by omega) (by omega) (by omega) ?_
      refine sp_X12_groupOf cs hA (BA_bn hb) (BA_dif hb) (by omega) (by omega) (by omega) (grp_all (by omega)) ?_
      have hgl := gP_lt (A := A) (p := p) (by omega)
      have hpw := pw6 (p := p) (by omega)
      refine x_iconst dX12_silent_17 ?_
      refine x_iload_n dX12_silent_18 rfl ?_
      refine x_ishl dX12_silent_19 ?_
      rw [shl1_n (by omega)]
      refine x_icmp_ne 29 dX12_silent_20 (by decide) ⟨(by omega), (by omega)⟩ (fun w20 => ?_) (fun w20 => ?_)
      · refine x_iconst dX12_silent_29 ?_
        refine x_ior dX12_silent_30 ?_
        first | rw [show (0 : Int) = ((0 : Nat) : Int) from rfl, orI_n (by omega) (by omega), Nat.or_zero] | rw [orI_n (by omega) (by omega)]
        refine x_istore_n (lv2 := [(1, _), (0, _), (2, _)]) dX12_silent_31 (by decide) rfl ?_
        refine x_iinc (lv2 := [(2, _), (1, _), (0, _)]) dX12_silent_32 rfl (by decide) rfl ?_
        refine x_goto 4 dX12_silent_35 (by decide) ?_
        refine x_sub [2, 1, 0] rfl ?_
        have hg := ih _ (by omega) (p + 1) (by omega) rfl
        first
          | (rw [show siL (spA A) (p + 1) = siL (spA A) p ||| 2 ^ p from if_pos ((silent_i hb (by omega)).mp (by omega))] at hg; exact hg)
          | (rw [show siL (spA A) (p + 1) = siL (spA A) p from if_neg (fun h => by have := (silent_i hb (by omega)).mpr h; omega)] at hg; exact hg)
      · refine x_iconst dX12_silent_23 ?_
        refine x_iload_n dX12_silent_24 rfl ?_
        refine x_ishl dX12_silent_25 ?_
        rw [shl1_n (by omega)]
        refine x_goto 30 dX12_silent_26 (by decide) ?_
        refine x_ior dX12_silent_30 ?_
        first | rw [show (0 : Int) = ((0 : Nat) : Int) from rfl, orI_n (by omega) (by omega), Nat.or_zero] | rw [orI_n (by omega) (by omega)]
        refine x_istore_n (lv2 := [(1, _), (0, _), (2, _)]) dX12_silent_31 (by decide) rfl ?_
        refine x_iinc (lv2 := [(2, _), (1, _), (0, _)]) dX12_silent_32 rfl (by decide) rfl ?_
        refine x_goto 4 dX12_silent_35 (by decide) ?_
        refine x_sub [2, 1, 0] rfl ?_
        have hg := ih _ (by omega) (p + 1) (by omega) rfl
        first
          | (rw [show siL (spA A) (p + 1) = siL (spA A) p ||| 2 ^ p from if_pos ((silent_i hb (by omega)).mp (by omega))] at hg; exact hg)
          | (rw [show siL (spA A) (p + 1) = siL (spA A) p from if_neg (fun h => by have := (silent_i hb (by omega)).mpr h; omega)] at hg; exact hg)
theorem sp_X12_silent  (cs : CS S R) (hA : I 307 = A) (hb : BA A) (hn : 4 ≤ n) (hp : Post (some (.int (iI (f_silent A)))) S I R) : Call n 0 0 mX12_silent [.ref (S.2.1 306)] S I R Post := by
  refine Call.of (by decide +kernel) (Nat.le_of_ble_eq_true rfl) ?_
  show WP _ _ _ _ _ 0 [(0, _)] [] 0 0 _ _ _
  refine x_iconst dX12_silent_0 ?_
  refine x_istore_n (lv2 := [(1, _), (0, _)]) dX12_silent_1 (by decide) rfl ?_
  refine x_iconst dX12_silent_2 ?_
  refine x_istore_n (lv2 := [(2, _), (1, _), (0, _)]) dX12_silent_3 (by decide) rfl ?_
  refine x_sub [2, 1, 0] rfl ?_
  exact lp_X12_silent cs hA hb hn hp _ 0 (by omega) rfl
theorem grp_but (hb : BA A) {p r : Nat} (hp : p < 6) (hr : (otP (spA A) p).testBit r = true) : r < 6 ∧ Grp (eSp A (p : Int)) r (rch (spA A) (otP (spA A) p) r) := by
  have hs : ∀ i, i < 6 → spA A i < 64 := fun i _ => spA_lt i
  have hot : ∀ b, (otP (spA A) p).testBit b = ((rch (spA A) 63 p).testBit b && !(2 ^ p).testBit b) := fun b => sdN_tb (by have := gP_lt (A := A) hp; omega)
  have h6 : r < 6 := tb_lo (x := otP (spA A) p) (by have h1 := sdN_le (rch (spA A) 63 p) (2 ^ p); have h2 := gP_lt (A := A) hp; show sdN _ _ < 64; omega) hr
  have hin : ∀ b, (otP (spA A) p).testBit b = true → (rch (spA A) 63 p).testBit b = true ∧ b ≠ p := by
    intro b hh
    rw [hot b, Nat.testBit_two_pow] at hh
    have h2 : (rch (spA A) 63 p).testBit b = true ∧ ¬ p = b := by simpa using hh
    exact ⟨h2.1, fun e => h2.2 e.symm⟩
  have hin2 : ∀ b, (rch (spA A) 63 p).testBit b = true → b ≠ p → (otP (spA A) p).testBit b = true := by
    intro b h1 h2
    rw [hot b, h1, Nat.testBit_two_pow]
    have : ¬ p = b := fun e => h2 e.symm
    simp [this]
  have hsub : Sub (rch (spA A) (otP (spA A) p) r) (otP (spA A) p) := rch_min hs hr (fun i j hi hj _ he => he.2)
  refine ⟨h6, rch_lt hs h6, rch_p, fun i j hi hj h1 h2 => ?_, fun D hD hD1 hD2 => rch_min hs hD1 (fun i j hi hj h1 h2 => ?_)⟩
  · have hi1 := hin i (hsub i h1)
    have hj1 := (grp_all hp).2.2.1 i j hi hj hi1.1 ⟨h2.1, by omega⟩
    exact rch_cl hs h6 i j hi hj h1 ⟨h2.1, hin2 j hj1 (by omega)⟩
  · exact hD2 i j hi hj h1 ⟨h2.1, by have := (hin j h2.2).2; omega⟩
theorem low_s {x : Nat} (hx : 0 < x ∧ x < 64) : x.testBit (lowN x) = true ∧ ∀ b, b < lowN x → x.testBit b = false := by
  have h0 : ∀ x : Fin 64, 0 < x.val → x.val.testBit (lowN x.val) = true ∧ ∀ b : Fin 6, b.val < lowN x.val → x.val.testBit b.val = false := by decide +kernel
  have h := h0 ⟨x, hx.2⟩ hx.1
  exact ⟨h.1, fun b hb => h.2 ⟨b, by have := lowN_b x; omega⟩ hb⟩
theorem dX12_gossips_0 : decode prog_14_method_112_code 0 = .ok (.iconst 0, 1) := by decide +kernel
theorem dX12_gossips_1 : decode prog_14_method_112_code 1 = .ok (.istore_n 1, 1) := by decide +kernel
theorem dX12_gossips_2 : decode prog_14_method_112_code 2 = .ok (.iconst 0, 1) := by decide +kernel
theorem dX12_gossips_3 : decode prog_14_method_112_code 3 = .ok (.istore_n 2, 1) := by decide +kernel
theorem dX12_gossips_4 : decode prog_14_method_112_code 4 = .ok (.iload_n 2, 1) := by decide +kernel
theorem dX12_gossips_5 : decode prog_14_method_112_code 5 = .ok (.bipush 6, 2) := by decide +kernel
theorem dX12_gossips_7 : decode prog_14_method_112_code 7 = .ok (.if_icmp .ge 72, 3) := by decide +kernel
theorem dX12_gossips_10 : decode prog_14_method_112_code 10 = .ok (.aload_n 0, 1) := by decide +kernel
theorem dX12_gossips_11 : decode prog_14_method_112_code 11 = .ok (.iload_n 2, 1) := by decide +kernel
theorem dX12_gossips_12 : decode prog_14_method_112_code 12 = .ok (.iconst (-1), 1) := by decide +kernel
theorem dX12_gossips_13 : decode prog_14_method_112_code 13 = .ok (.invokevirtual 417, 3) := by decide +kernel
theorem dX12_gossips_16 : decode prog_14_method_112_code 16 = .ok (.iconst 1, 1) := by decide +kernel
theorem dX12_gossips_17 : decode prog_14_method_112_code 17 = .ok (.iload_n 2, 1) := by decide +kernel
theorem dX12_gossips_18 : decode prog_14_method_112_code 18 = .ok (.ishl, 1) := by decide +kernel
theorem dX12_gossips_19 : decode prog_14_method_112_code 19 = .ok (.iconst (-1), 1) := by decide +kernel
theorem dX12_gossips_20 : decode prog_14_method_112_code 20 = .ok (.ixor, 1) := by decide +kernel
theorem dX12_gossips_21 : decode prog_14_method_112_code 21 = .ok (.iand, 1) := by decide +kernel
theorem dX12_gossips_22 : decode prog_14_method_112_code 22 = .ok (.istore_n 3, 1) := by decide +kernel
theorem dX12_gossips_23 : decode prog_14_method_112_code 23 = .ok (.iconst 0, 1) := by decide +kernel
theorem dX12_gossips_24 : decode prog_14_method_112_code 24 = .ok (.istore 4, 2) := by decide +kernel
theorem dX12_gossips_26 : decode prog_14_method_112_code 26 = .ok (.iload 4, 2) := by decide +kernel
theorem dX12_gossips_28 : decode prog_14_method_112_code 28 = .ok (.bipush 6, 2) := by decide +kernel
theorem dX12_gossips_30 : decode prog_14_method_112_code 30 = .ok (.if_icmp .ge 18, 3) := by decide +kernel
theorem dX12_gossips_33 : decode prog_14_method_112_code 33 = .ok (.iload_n 3, 1) := by decide +kernel
theorem dX12_gossips_34 : decode prog_14_method_112_code 34 = .ok (.iload 4, 2) := by decide +kernel
theorem dX12_gossips_36 : decode prog_14_method_112_code 36 = .ok (.invokestatic 259, 3) := by decide +kernel
theorem dX12_gossips_39 : decode prog_14_method_112_code 39 = .ok (.ifCond .ne 9, 3) := by decide +kernel
theorem dX12_gossips_42 : decode prog_14_method_112_code 42 = .ok (.iinc 4 1, 3) := by decide +kernel
theorem dX12_gossips_45 : decode prog_14_method_112_code 45 = .ok (.goto (-19), 3) := by decide +kernel
theorem dX12_gossips_48 : decode prog_14_method_112_code 48 = .ok (.iload_n 1, 1) := by decide +kernel
theorem dX12_gossips_49 : decode prog_14_method_112_code 49 = .ok (.iload_n 3, 1) := by decide +kernel
theorem dX12_gossips_50 : decode prog_14_method_112_code 50 = .ok (.ifCond .eq 20, 3) := by decide +kernel
theorem dX12_gossips_53 : decode prog_14_method_112_code 53 = .ok (.aload_n 0, 1) := by decide +kernel
theorem dX12_gossips_54 : decode prog_14_method_112_code 54 = .ok (.iload 4, 2) := by decide +kernel
theorem dX12_gossips_56 : decode prog_14_method_112_code 56 = .ok (.iload_n 2, 1) := by decide +kernel
theorem dX12_gossips_57 : decode prog_14_method_112_code 57 = .ok (.invokevirtual 417, 3) := by decide +kernel
theorem dX12_gossips_60 : decode prog_14_method_112_code 60 = .ok (.iload_n 3, 1) := by decide +kernel
theorem dX12_gossips_61 : decode prog_14_method_112_code 61 = .ok (.if_icmp .eq 9, 3) := by decide +kernel
theorem dX12_gossips_64 : decode prog_14_method_112_code 64 = .ok (.iconst 1, 1) := by decide +kernel
theorem dX12_gossips_65 : decode prog_14_method_112_code 65 = .ok (.iload_n 2, 1) := by decide +kernel
theorem dX12_gossips_66 : decode prog_14_method_112_code 66 = .ok (.ishl, 1) := by decide +kernel
theorem dX12_gossips_67 : decode prog_14_method_112_code 67 = .ok (.goto 4, 3) := by decide +kernel
theorem dX12_gossips_70 : decode prog_14_method_112_code 70 = .ok (.iconst 0, 1) := by decide +kernel
theorem dX12_gossips_71 : decode prog_14_method_112_code 71 = .ok (.ior, 1) := by decide +kernel
theorem dX12_gossips_72 : decode prog_14_method_112_code 72 = .ok (.istore_n 1, 1) := by decide +kernel
theorem dX12_gossips_73 : decode prog_14_method_112_code 73 = .ok (.iinc 2 1, 3) := by decide +kernel
theorem dX12_gossips_76 : decode prog_14_method_112_code 76 = .ok (.goto (-72), 3) := by decide +kernel
theorem dX12_gossips_79 : decode prog_14_method_112_code 79 = .ok (.iload_n 1, 1) := by decide +kernel
theorem dX12_gossips_80 : decode prog_14_method_112_code 80 = .ok (.ireturn, 1) := by decide +kernel
theorem lp1_X12_gossips {p x : Nat} (hn : 1 ≤ n) (hx : x < 64) (hK : ∀ r : Nat, (x = 0 ∨ r = lowN x) → r ≤ 6 → WP n 0 0 mX12_gossips Post 48 [(0, .ref (S.2.1 306)), (1, .int (iI (gsL (spA A) p : Int))), (2, .int (iI (p : Int))), (3, .int (iI (x : Int))), (4, .int (iI (r : Int)))] [] 0 0 S I R) : ∀ (d r : Nat), r ≤ 6 → 6 - r = d → (∀ b, b < r → x.testBit b = false) → WP n 0 0 mX12_gossips Post 26 [(0, .ref (S.2.1 306)), (1, .int (iI (gsL (spA A) p : Int))), (2, .int (iI (p : Int))), (3, .int (iI (x : Int))), (4, .int (iI (r : Int)))] [] 0 0 S I R := by
  intro d
  induction d using Nat.strongRecOn with
  | ind d ih =>
    intro r r1 r2 hno
    have hlow : x = 0 ∨ (x.testBit (lowN x) = true ∧ (∀ b, b < lowN x → x.testBit b = false) ∧ ¬ lowN x < r) := by
      by_cases hx0 : x = 0
      · exact Or.inl hx0
      · right
        obtain ⟨l1, l2⟩ := low_s (x := x) (by omega)
        exact ⟨l1, l2, fun h => by rw [hno _ h] at l1; exact absurd l1 (by decide)⟩
    have hl6 := lowN_b x
    refine x_iload dX12_gossips_26 rfl ?_
    refine x_bipush dX12_gossips_28 (by decide) ?_
    refine x_icmp_ge 48 dX12_gossips_30 (by decide) ⟨(by omega), (by omega)⟩ (fun w30 => ?_) (fun w30 => ?_)
    · refine x_sub [0, 1, 2, 3, 4] rfl ?_
      refine hK r ?_ r1
      rcases hlow with h0 | ⟨l1, l2, l3⟩
      · exact Or.inl h0
      · right
        first
          | omega
          | (have h2 : ¬ r < lowN x := fun h => by
               rcases hr36 with hh | hh
               · rw [l2 r h] at hh; exact absurd hh.2 (by decide)
               · omega
             omega)
    · refine x_iload_n dX12_gossips_33 rfl ?_
      refine x_iload dX12_gossips_34 rfl ?_
      refine x_callS2 (mc1 := 0) (ms1 := 0) dX12_gossips_36 cv_RX12_259 (Nat.le_of_ble_eq_true rfl) (n1 := n - 1) (by omega) (by omega) (by omega) ?_
      refine sp_X12_has (by omega) (by omega) (fun r36 hr36 => ?_)
      refine x_if_ne 48 dX12_gossips_39 (by decide) (by omega) (fun w39 => ?_) (fun w39 => ?_)
      · refine x_sub [0, 1, 2, 3, 4] rfl ?_
        refine hK r ?_ r1
        rcases hlow with h0 | ⟨l1, l2, l3⟩
        · exact Or.inl h0
        · right
          first
            | omega
            | (have h2 : ¬ r < lowN x := fun h => by
                 rcases hr36 with hh | hh
                 · rw [l2 r h] at hh; exact absurd hh.2 (by decide)
                 · omega
               omega)
      · refine x_iinc (lv2 := [(4, _), (0, _), (1, _), (2, _), (3, _)]) dX12_gossips_42 rfl (by decide) rfl ?_
        refine x_goto 26 dX12_gossips_45 (by decide) ?_
        refine x_sub [1, 2, 3, 4, 0] rfl ?_
        refine ih _ (by omega) (r + 1) (by omega) rfl (fun b hb => ?_)
        by_cases e : b = r
        · rw [e]; rcases hr36 with hh | hh
          · exfalso; omega
          · exact hh.2
        · exact hno b (by omega)
theorem lp_X12_gossips (cs : CS S R) (hA : I 307 = A) (hb : BA A) (hn : 4 ≤ n) (hp : Post (some (.int (iI (f_gossips A)))) S I R) : ∀ (d p : Nat), p ≤ 6 → 6 - p = d → WP n 0 0 mX12_gossips Post 4 [(0, .ref (S.2.1 306)), (1, .int (iI (gsL (spA A) p : Int))), (2, .int (iI (p : Int)))] [] 0 0 S I R := by
  unfold f_gossips at hp
  intro d
  induction d using Nat.strongRecOn with
  | ind d ih =>
    intro p p1 p2
    have hsl := gsL_lt (sp := spA A) p
    have hpp : 2 ^ p ≤ 64 := Nat.pow_le_pow_right (n := 2) (by decide) p1
    have hot : sdN (rch (spA A) 63 p) (2 ^ p) = otP (spA A) p := rfl
    have hol := sdN_le (rch (spA A) 63 p) (2 ^ p)
    refine x_iload_n dX12_gossips_4 rfl ?_
    refine x_bipush dX12_gossips_5 (by decide) ?_
    refine x_icmp_ge 79 dX12_gossips_7 (by decide) ⟨(by omega), (by omega)⟩ (fun w7 => ?_) (fun w7 => ?_)
    · refine x_iload_n dX12_gossips_79 rfl ?_
      exact x_ireturn dX12_gossips_80 rfl (by omega) (by omega) (by obtain rfl : p = 6 := (by omega); exact hp)
    · refine x_aload_n dX12_gossips_10 rfl ?_
      refine x_iload_n dX12_gossips_11 rfl ?_
      refine x_iconst dX12_gossips_12 ?_
      refine x_callV2 (mc1 := 0) (ms1 := 0) dX12_gossips_13 cv_RX12_417 (ci := 12) (k_ob_306 cs) rfl (Nat.le_of_ble_eq_true rfl) (n1 := n - 1) (by omega) (by omega) (by omega) ?_
      refine sp_X12_groupOf cs hA (BA_bn hb) (BA_dif hb) (by omega) (by omega) (by omega) (grp_all (by omega)) ?_
      have hgl := gP_lt (A := A) (p := p) (by omega)
      have hpw := pw6 (p := p) (by omega)
      refine x_iconst dX12_gossips_16 ?_
      refine x_iload_n dX12_gossips_17 rfl ?_
      refine x_ishl dX12_gossips_18 ?_
      rw [shl1_n (by omega)]
      refine x_iconst dX12_gossips_19 ?_
      refine x_ixor dX12_gossips_20 ?_
      refine x_iand dX12_gossips_21 ?_
      rw [andnot_n (by omega) (by omega), hot]
      refine x_istore_n (lv2 := [(3, _), (0, _), (1, _), (2, _)]) dX12_gossips_22 (by decide) rfl ?_
      refine x_iconst dX12_gossips_23 ?_
      refine x_istore (lv2 := [(4, _), (3, _), (0, _), (1, _), (2, _)]) dX12_gossips_24 (by decide) rfl ?_
      refine x_sub [2, 3, 4, 1, 0] rfl ?_
      refine lp1_X12_gossips (p := p) (x := otP (spA A) p) (by omega) (by omega) (fun r hr hr6 => ?_) _ 0 (by omega) rfl (fun b hb => by omega)
      have es : gsL (spA A) (p + 1) = if otP (spA A) p ≠ 0 ∧ rch (spA A) (otP (spA A) p) (lowN (otP (spA A) p)) ≠ otP (spA A) p then gsL (spA A) p ||| 2 ^ p else gsL (spA A) p := rfl
      have hg := ih _ (by omega) (p + 1) (by omega) rfl
      refine x_iload_n dX12_gossips_48 rfl ?_
      refine x_iload_n dX12_gossips_49 rfl ?_
      refine x_if_eq 70 dX12_gossips_50 (by decide) (by omega) (fun w50 => ?_) (fun w50 => ?_)
      · refine x_iconst dX12_gossips_70 ?_
        refine x_ior dX12_gossips_71 ?_
        first | rw [show (0 : Int) = ((0 : Nat) : Int) from rfl, orI_n (by omega) (by omega), Nat.or_zero] | rw [orI_n (by omega) (by omega)]
        refine x_istore_n (lv2 := [(1, _), (0, _), (2, _), (3, _), (4, _)]) dX12_gossips_72 (by decide) rfl ?_
        refine x_iinc (lv2 := [(2, _), (1, _), (0, _), (3, _), (4, _)]) dX12_gossips_73 rfl (by decide) rfl ?_
        refine x_goto 4 dX12_gossips_76 (by decide) ?_
        refine x_sub [2, 1, 0] rfl ?_
        first
          | (rw [es, if_neg (by omega)] at hg; exact hg)
          | (rw [es, if_pos (by omega)] at hg; exact hg)
      · refine x_aload_n dX12_gossips_53 rfl ?_
        refine x_iload dX12_gossips_54 rfl ?_
        refine x_iload_n dX12_gossips_56 rfl ?_
        refine x_callV2 (mc1 := 0) (ms1 := 0) dX12_gossips_57 cv_RX12_417 (ci := 12) (k_ob_306 cs) rfl (Nat.le_of_ble_eq_true rfl) (n1 := n - 1) (by omega) (by omega) (by omega) ?_
        obtain rfl : r = lowN (otP (spA A) p) := by omega
        have hgb := grp_but hb (p := p) (r := lowN (otP (spA A) p)) (by omega) (low_s (by omega)).1
        have hgl2 := hgb.2.1
        refine sp_X12_groupOf cs hA (BA_bn hb) (BA_dif hb) hgb.1 (by omega) (by omega) hgb.2 ?_
        refine x_iload_n dX12_gossips_60 rfl ?_
        refine x_icmp_eq 70 dX12_gossips_61 (by decide) ⟨(by omega), (by omega)⟩ (fun w61 => ?_) (fun w61 => ?_)
        · refine x_iconst dX12_gossips_70 ?_
          refine x_ior dX12_gossips_71 ?_
          first | rw [show (0 : Int) = ((0 : Nat) : Int) from rfl, orI_n (by omega) (by omega), Nat.or_zero] | rw [orI_n (by omega) (by omega)]
          refine x_istore_n (lv2 := [(1, _), (0, _), (2, _), (3, _), (4, _)]) dX12_gossips_72 (by decide) rfl ?_
          refine x_iinc (lv2 := [(2, _), (1, _), (0, _), (3, _), (4, _)]) dX12_gossips_73 rfl (by decide) rfl ?_
          refine x_goto 4 dX12_gossips_76 (by decide) ?_
          refine x_sub [2, 1, 0] rfl ?_
          first
            | (rw [es, if_neg (by omega)] at hg; exact hg)
            | (rw [es, if_pos (by omega)] at hg; exact hg)
        · refine x_iconst dX12_gossips_64 ?_
          refine x_iload_n dX12_gossips_65 rfl ?_
          refine x_ishl dX12_gossips_66 ?_
          rw [shl1_n (by omega)]
          refine x_goto 71 dX12_gossips_67 (by decide) ?_
          refine x_ior dX12_gossips_71 ?_
          first | rw [show (0 : Int) = ((0 : Nat) : Int) from rfl, orI_n (by omega) (by omega), Nat.or_zero] | rw [orI_n (by omega) (by omega)]
          refine x_istore_n (lv2 := [(1, _), (0, _), (2, _), (3, _), (4, _)]) dX12_gossips_72 (by decide) rfl ?_
          refine x_iinc (lv2 := [(2, _), (1, _), (0, _), (3, _), (4, _)]) dX12_gossips_73 rfl (by decide) rfl ?_
          refine x_goto 4 dX12_gossips_76 (by decide) ?_
          refine x_sub [2, 1, 0] rfl ?_
          first
            | (rw [es, if_neg (by omega)] at hg; exact hg)
            | (rw [es, if_pos (by omega)] at hg; exact hg)
theorem sp_X12_gossips  (cs : CS S R) (hA : I 307 = A) (hb : BA A) (hn : 4 ≤ n) (hp : Post (some (.int (iI (f_gossips A)))) S I R) : Call n 0 0 mX12_gossips [.ref (S.2.1 306)] S I R Post := by
  refine Call.of (by decide +kernel) (Nat.le_of_ble_eq_true rfl) ?_
  show WP _ _ _ _ _ 0 [(0, _)] [] 0 0 _ _ _
  refine x_iconst dX12_gossips_0 ?_
  refine x_istore_n (lv2 := [(1, _), (0, _)]) dX12_gossips_1 (by decide) rfl ?_
  refine x_iconst dX12_gossips_2 ?_
  refine x_istore_n (lv2 := [(2, _), (1, _), (0, _)]) dX12_gossips_3 (by decide) rfl ?_
  refine x_sub [2, 1, 0] rfl ?_
  exact lp_X12_gossips cs hA hb hn hp _ 0 (by omega) rfl
end Ref18
