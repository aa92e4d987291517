section Ref17
variable {n mc ms : Nat} {M : Md} {pc : Nat} {lv : List (Nat × Value)} {st : List Value} {k j : Nat} {Post : PT} {S : Sh} {I : CI} {R : CR} {A : Nat → Int} {tx : Nat → Nat → Int}
def ClE (E : Nat → Nat → Prop) (D : Nat) : Prop := ∀ i j, i < 6 → j < 6 → D.testBit i = true → E i j → D.testBit j = true
abbrev Sub (x y : Nat) : Prop := ∀ b, x.testBit b = true → y.testBit b = true
theorem tb_hi {x b : Nat} (h : x < 64) (hb : 6 ≤ b) : x.testBit b = false := Nat.testBit_lt_two_pow (Nat.lt_of_lt_of_le (show x < 2 ^ 6 from h) (Nat.pow_le_pow_right (n := 2) (by decide) hb))
theorem tb_lo {x b : Nat} (h : x < 64) (hb : x.testBit b = true) : b < 6 := by
  by_cases h6 : b < 6
  · exact h6
  · rw [tb_hi h (by omega)] at hb; exact absurd hb (by decide)
theorem sub_or {x y : Nat} (h : Sub x y) : x ||| y = y := by
  apply Nat.eq_of_testBit_eq
  intro i
  rw [Nat.testBit_or]
  cases hx : x.testBit i
  · simp
  · simp [h i hx]
theorem sub_le {x y : Nat} (h : Sub x y) : x ≤ y := by
  have := Nat.left_le_or (n := x) (m := y)
  rw [sub_or h] at this
  exact this
theorem sub_eq {x y : Nat} (h : Sub x y) (h2 : Sub y x) : x = y := Nat.le_antisymm (sub_le h) (sub_le h2)
theorem bc_lt {x y : Nat} (hx : x < 64) (hy : y < 64) (h : Sub x y) (hne : x ≠ y) : bcN x < bcN y := by
  have h0 : ∀ x y : Fin 64, x.val ||| y.val = y.val → x.val ≠ y.val → bcN x.val < bcN y.val := by decide +kernel
  exact h0 ⟨x, hx⟩ ⟨y, hy⟩ (sub_or h) hne
theorem bc_64 {x : Nat} (hx : x < 64) : bcN x ≤ 6 := by
  have h0 : ∀ x : Fin 64, bcN x.val ≤ 6 := by decide +kernel
  exact h0 ⟨x, hx⟩
theorem bc_1 {p : Nat} (hp : p < 6) : bcN (2 ^ p) = 1 := by
  have h0 : ∀ x : Fin 6, bcN (2 ^ x.val) = 1 := by decide +kernel
  exact h0 ⟨p, hp⟩
theorem rchI_s {sp : Nat → Nat} {am f : Nat} : ∀ i, Sub (rchI sp am f i) (rchI sp am f (i + 1)) := by
  intro i b hb
  simp only [rchI]
  split
  · rw [Nat.testBit_or, hb]; rfl
  · exact hb
theorem rchI_sub {sp : Nat → Nat} {am f : Nat} : ∀ d i, Sub (rchI sp am f i) (rchI sp am f (i + d)) := by
  intro d
  induction d with
  | zero => intro i b hb; exact hb
  | succ d ih => intro i b hb; exact rchI_s (i + d) b (ih i b hb)
abbrev edg (sp : Nat → Nat) (am : Nat) (i j : Nat) : Prop := (sp i).testBit j = true ∧ am.testBit j = true
theorem rchI_min {sp : Nat → Nat} {am f D : Nat} (hs : ∀ i, i < 6 → sp i < 64) (hD : ClE (edg sp am) D) (hf : Sub f D) : ∀ i, i ≤ 6 → Sub (rchI sp am f i) D := by
  intro i
  induction i with
  | zero => intro _; exact hf
  | succ i ih =>
    intro hi b hb
    simp only [rchI] at hb
    split at hb
    · rename_i hbit
      rw [Nat.testBit_or, Nat.testBit_and] at hb
      cases h1 : (rchI sp am f i).testBit b
      · rw [h1] at hb
        have h2 : (sp i).testBit b = true ∧ am.testBit b = true := by simpa using hb
        exact hD i b (by omega) (tb_lo (hs i (by omega)) h2.1) (ih (by omega) i hbit) h2
      · exact ih (by omega) b h1
    · exact ih (by omega) b hb
theorem rchR_sub {sp : Nat → Nat} {am f : Nat} (k : Nat) : Sub (rchR sp am f k) (rchR sp am f (k + 1)) := by
  have h := rchI_sub (sp := sp) (am := am) (f := rchR sp am f k) 6 0
  exact h
theorem rchR_min {sp : Nat → Nat} {am f D : Nat} (hs : ∀ i, i < 6 → sp i < 64) (hD : ClE (edg sp am) D) (hf : Sub f D) : ∀ k, Sub (rchR sp am f k) D := by
  intro k
  induction k with
  | zero => exact hf
  | succ k ih => exact rchI_min hs hD ih 6 (by omega)
theorem rch_fix {sp : Nat → Nat} {am p : Nat} (hs : ∀ i, i < 6 → sp i < 64) (hp : p < 6) : rchI sp am (rch sp am p) 6 = rch sp am p := by
  have h : ∀ k : Nat, rchI sp am (rchR sp am (2 ^ p) k) 6 = rchR sp am (2 ^ p) k ∨ k + 1 ≤ bcN (rchR sp am (2 ^ p) k) := by
    intro k
    induction k with
    | zero => right; show 0 + 1 ≤ bcN (2 ^ p); rw [bc_1 hp]; omega
    | succ k ih =>
      by_cases hf : rchI sp am (rchR sp am (2 ^ p) k) 6 = rchR sp am (2 ^ p) k
      · left
        show rchI sp am (rchI sp am (rchR sp am (2 ^ p) k) 6) 6 = rchI sp am (rchR sp am (2 ^ p) k) 6
        rw [hf]; exact hf
      · right
        have hb : k + 1 ≤ bcN (rchR sp am (2 ^ p) k) := by
          rcases ih with h1 | h1
          · exact absurd h1 hf
          · exact h1
        have := bc_lt (rchR_lt hs (pw6 hp) k) (rchR_lt hs (pw6 hp) (k + 1)) (rchR_sub k) (fun e => hf e.symm)
        omega
  rcases h 6 with h1 | h1
  · exact h1
  · have := bc_64 (rchR_lt (am := am) hs (pw6 hp) 6); omega
theorem rch_cl {sp : Nat → Nat} {am p : Nat} (hs : ∀ i, i < 6 → sp i < 64) (hp : p < 6) : ClE (edg sp am) (rch sp am p) := by
  intro i j hi hj hb he
  have hfix := rch_fix (am := am) hs hp
  have e1 : rchI sp am (rch sp am p) i = rch sp am p := by
    refine sub_eq (fun b hb2 => ?_) (fun b hb2 => ?_)
    · have := rchI_sub (sp := sp) (am := am) (f := rch sp am p) (6 - i) i b hb2
      rw [show i + (6 - i) = 6 by omega, hfix] at this
      exact this
    · have := rchI_sub (sp := sp) (am := am) (f := rch sp am p) i 0 b hb2
      rw [Nat.zero_add] at this
      exact this
  have h2 : (rchI sp am (rch sp am p) (i + 1)).testBit j = true := by
    simp only [rchI]
    rw [e1, if_pos hb, Nat.testBit_or, Nat.testBit_and, he.1, he.2]
    simp
  have := rchI_sub (sp := sp) (am := am) (f := rch sp am p) (6 - (i + 1)) (i + 1) j h2
  rw [show i + 1 + (6 - (i + 1)) = 6 by omega, hfix] at this
  exact this
theorem rch_p {sp : Nat → Nat} {am p : Nat} : (rch sp am p).testBit p = true := by
  have h : ∀ k, (rchR sp am (2 ^ p) k).testBit p = true := by
    intro k
    induction k with
    | zero => show (2 ^ p).testBit p = true; exact Nat.testBit_two_pow_self
    | succ k ih => exact rchR_sub k p ih
  exact h 6
theorem rch_min {sp : Nat → Nat} {am p D : Nat} (hs : ∀ i, i < 6 → sp i < 64) (hp : D.testBit p = true) (hD : ClE (edg sp am) D) : Sub (rch sp am p) D := by
  refine rchR_min hs hD (fun b hb => ?_) 6
  rw [Nat.testBit_two_pow] at hb
  have : p = b := by simpa using hb
  rw [← this]; exact hp
/-- a set is what is come to from p -/
def Grp (E : Nat → Nat → Prop) (p C : Nat) : Prop := C < 64 ∧ C.testBit p = true ∧ ClE E C ∧ ∀ D, D < 64 → D.testBit p = true → ClE E D → Sub C D
theorem dX12_groupOf_0 : decode prog_14_method_108_code 0 = .ok (.iconst 1, 1) := by decide +kernel
theorem dX12_groupOf_1 : decode prog_14_method_108_code 1 = .ok (.iload_n 1, 1) := by decide +kernel
theorem dX12_groupOf_2 : decode prog_14_method_108_code 2 = .ok (.ishl, 1) := by decide +kernel
theorem dX12_groupOf_3 : decode prog_14_method_108_code 3 = .ok (.istore_n 3, 1) := by decide +kernel
theorem dX12_groupOf_4 : decode prog_14_method_108_code 4 = .ok (.iconst 0, 1) := by decide +kernel
theorem dX12_groupOf_5 : decode prog_14_method_108_code 5 = .ok (.istore 4, 2) := by decide +kernel
theorem dX12_groupOf_7 : decode prog_14_method_108_code 7 = .ok (.iload 4, 2) := by decide +kernel
theorem dX12_groupOf_9 : decode prog_14_method_108_code 9 = .ok (.iload_n 3, 1) := by decide +kernel
theorem dX12_groupOf_10 : decode prog_14_method_108_code 10 = .ok (.if_icmp .eq 74, 3) := by decide +kernel
theorem dX12_groupOf_13 : decode prog_14_method_108_code 13 = .ok (.iload_n 3, 1) := by decide +kernel
theorem dX12_groupOf_14 : decode prog_14_method_108_code 14 = .ok (.istore 4, 2) := by decide +kernel
theorem dX12_groupOf_16 : decode prog_14_method_108_code 16 = .ok (.iconst 0, 1) := by decide +kernel
theorem dX12_groupOf_17 : decode prog_14_method_108_code 17 = .ok (.istore 5, 2) := by decide +kernel
theorem dX12_groupOf_19 : decode prog_14_method_108_code 19 = .ok (.iload 5, 2) := by decide +kernel
theorem dX12_groupOf_21 : decode prog_14_method_108_code 21 = .ok (.bipush 6, 2) := by decide +kernel
theorem dX12_groupOf_23 : decode prog_14_method_108_code 23 = .ok (.if_icmp .ge 58, 3) := by decide +kernel
theorem dX12_groupOf_26 : decode prog_14_method_108_code 26 = .ok (.iconst 0, 1) := by decide +kernel
theorem dX12_groupOf_27 : decode prog_14_method_108_code 27 = .ok (.istore 6, 2) := by decide +kernel
theorem dX12_groupOf_29 : decode prog_14_method_108_code 29 = .ok (.iload 6, 2) := by decide +kernel
theorem dX12_groupOf_31 : decode prog_14_method_108_code 31 = .ok (.bipush 6, 2) := by decide +kernel
theorem dX12_groupOf_33 : decode prog_14_method_108_code 33 = .ok (.if_icmp .ge 42, 3) := by decide +kernel
theorem dX12_groupOf_36 : decode prog_14_method_108_code 36 = .ok (.iload_n 3, 1) := by decide +kernel
theorem dX12_groupOf_37 : decode prog_14_method_108_code 37 = .ok (.iload 5, 2) := by decide +kernel
theorem dX12_groupOf_39 : decode prog_14_method_108_code 39 = .ok (.invokestatic 259, 3) := by decide +kernel
theorem dX12_groupOf_42 : decode prog_14_method_108_code 42 = .ok (.ifCond .eq 27, 3) := by decide +kernel
theorem dX12_groupOf_45 : decode prog_14_method_108_code 45 = .ok (.iload 6, 2) := by decide +kernel
theorem dX12_groupOf_47 : decode prog_14_method_108_code 47 = .ok (.iload_n 2, 1) := by decide +kernel
theorem dX12_groupOf_48 : decode prog_14_method_108_code 48 = .ok (.if_icmp .eq 21, 3) := by decide +kernel
theorem dX12_groupOf_51 : decode prog_14_method_108_code 51 = .ok (.aload_n 0, 1) := by decide +kernel
theorem dX12_groupOf_52 : decode prog_14_method_108_code 52 = .ok (.iload 5, 2) := by decide +kernel
theorem dX12_groupOf_54 : decode prog_14_method_108_code 54 = .ok (.iload 6, 2) := by decide +kernel
theorem dX12_groupOf_56 : decode prog_14_method_108_code 56 = .ok (.invokevirtual 414, 3) := by decide +kernel
theorem dX12_groupOf_59 : decode prog_14_method_108_code 59 = .ok (.ifCond .eq 10, 3) := by decide +kernel
theorem dX12_groupOf_62 : decode prog_14_method_108_code 62 = .ok (.iload_n 3, 1) := by decide +kernel
theorem dX12_groupOf_63 : decode prog_14_method_108_code 63 = .ok (.iconst 1, 1) := by decide +kernel
theorem dX12_groupOf_64 : decode prog_14_method_108_code 64 = .ok (.iload 6, 2) := by decide +kernel
theorem dX12_groupOf_66 : decode prog_14_method_108_code 66 = .ok (.ishl, 1) := by decide +kernel
theorem dX12_groupOf_67 : decode prog_14_method_108_code 67 = .ok (.ior, 1) := by decide +kernel
theorem dX12_groupOf_68 : decode prog_14_method_108_code 68 = .ok (.istore_n 3, 1) := by decide +kernel
theorem dX12_groupOf_69 : decode prog_14_method_108_code 69 = .ok (.iinc 6 1, 3) := by decide +kernel
theorem dX12_groupOf_72 : decode prog_14_method_108_code 72 = .ok (.goto (-43), 3) := by decide +kernel
theorem dX12_groupOf_75 : decode prog_14_method_108_code 75 = .ok (.iinc 5 1, 3) := by decide +kernel
theorem dX12_groupOf_78 : decode prog_14_method_108_code 78 = .ok (.goto (-59), 3) := by decide +kernel
theorem dX12_groupOf_81 : decode prog_14_method_108_code 81 = .ok (.goto (-74), 3) := by decide +kernel
theorem dX12_groupOf_84 : decode prog_14_method_108_code 84 = .ok (.iload_n 3, 1) := by decide +kernel
theorem dX12_groupOf_85 : decode prog_14_method_108_code 85 = .ok (.ireturn, 1) := by decide +kernel
abbrev eSp (A : Nat → Int) (bt : Int) (i j : Nat) : Prop := (spA A i).testBit j = true ∧ (j : Int) ≠ bt
/-- within a pass: from had H, people r' < r (and of r those below s) are looked at -/
def GpI (E : Nat → Nat → Prop) (C H X r s : Nat) : Prop := X < 64 ∧ Sub H X ∧ Sub X C ∧ ∀ i j, i < 6 → j < 6 → (i < r ∨ (i = r ∧ j < s)) → H.testBit i = true → E i j → X.testBit j = true
theorem or_lt64 {x s : Nat} (h : x < 64) (hs : s < 6) : x ||| 2 ^ s < 64 := Nat.or_lt_two_pow (n := 6) h (pw6 hs)
theorem lp1_groupOf {p C H : Nat} {bt : Int} (cs : CS S R) (hA : I 307 = A) (hN : BN A) (hd : ∀ q : Nat, (q : Int) < A 0 → A (36 + 2 * q) ≠ A (37 + 2 * q)) (hbt : -1 ≤ bt ∧ bt < 6) (hn : 3 ≤ n) (hC : C < 64 ∧ ClE (eSp A bt) C)  {r : Nat} (hr : r < 6) (hK : ∀ X, GpI (eSp A bt) C H X (r + 1) 0 → WP n 0 0 mX12_groupOf Post 75 [(0, .ref (S.2.1 306)), (1, .int (iI (p : Int))), (2, .int (iI bt)), (3, .int (iI (X : Int))), (4, .int (iI (H : Int))), (5, .int (iI (r : Int)))] [] 0 0 S I R) : ∀ (d s X : Nat), s ≤ 6 → 6 - s = d → GpI (eSp A bt) C H X r s → WP n 0 0 mX12_groupOf Post 29 [(0, .ref (S.2.1 306)), (1, .int (iI (p : Int))), (2, .int (iI bt)), (3, .int (iI (X : Int))), (4, .int (iI (H : Int))), (5, .int (iI (r : Int))), (6, .int (iI (s : Int)))] [] 0 0 S I R := by
  intro d
  induction d using Nat.strongRecOn with
  | ind d ih =>
    intro s X s1 s2 hG
    obtain ⟨g1, g2, g3, g4⟩ := id hG
    refine x_iload dX12_groupOf_29 rfl ?_
    refine x_bipush dX12_groupOf_31 (by decide) ?_
    refine x_icmp_ge 75 dX12_groupOf_33 (by decide) ⟨(by omega), (by omega)⟩ (fun w33 => ?_) (fun w33 => ?_)
    · refine x_sub [0, 1, 2, 3, 4, 5] rfl ?_
      obtain rfl : s = 6 := by omega
      exact hK X ⟨g1, g2, g3, fun i j hi hj hc hb he => g4 i j hi hj (by omega) hb he⟩
    · refine x_iload_n dX12_groupOf_36 rfl ?_
      refine x_iload dX12_groupOf_37 rfl ?_
      refine x_callS2 (mc1 := 0) (ms1 := 0) dX12_groupOf_39 cv_RX12_259 (Nat.le_of_ble_eq_true rfl) (n1 := n - 1) (by omega) (by omega) (by omega) ?_
      refine sp_X12_has (by omega) (by omega) (fun r39 hr39 => ?_)
      refine x_if_eq 69 dX12_groupOf_42 (by decide) (by omega) (fun w42 => ?_) (fun w42 => ?_)
      · refine x_iinc (lv2 := [(6, _), (0, _), (1, _), (2, _), (3, _), (4, _), (5, _)]) dX12_groupOf_69 rfl (by decide) rfl ?_
        refine x_goto 29 dX12_groupOf_72 (by decide) ?_
        refine x_sub [1, 2, 3, 4, 5, 6, 0] rfl ?_
        first
          | (refine ih _ (by omega) (s + 1) X (by omega) rfl ⟨g1, g2, g3, fun i j hi hj hc hb he => ?_⟩
             by_cases e : i = r ∧ j = s
             · obtain ⟨rfl, rfl⟩ := e
               exfalso
               first
                 | (rcases hr39 with hh | hh
                    · omega
                    · rw [g2 _ hb] at hh; exact absurd hh.2 (by decide))
                 | exact he.2 (by omega)
                 | (rcases hr56 with hh | hh
                    · omega
                    · rw [he.1] at hh; exact absurd hh.2 (by decide))
             · exact g4 i j hi hj (by omega) hb he)
          | (rw [orI_n (by omega) (by have := pw6 (p := s) (by omega); omega)]
             have hXs : (spA A r).testBit s = true := (by rcases hr56 with hh | hh; exact hh.2; exfalso; omega)
             have hXr : X.testBit r = true := (by rcases hr39 with hh | hh; exact hh.2; exfalso; omega)
             refine ih _ (by omega) (s + 1) _ (by omega) rfl ⟨or_lt64 g1 (by omega), fun b hb => by rw [Nat.testBit_or, g2 b hb]; rfl, fun b hb => ?_, fun i j hi hj hc hb he => ?_⟩
             · rw [Nat.testBit_or, Nat.testBit_two_pow] at hb
               by_cases e : s = b
               · subst e
                 exact hC.2 r s hr (by omega) (g3 r hXr) ⟨hXs, by omega⟩
               · have e2 : decide (s = b) = false := decide_eq_false e
                 rw [e2, Bool.or_false] at hb
                 exact g3 b hb
             · rw [Nat.testBit_or, Nat.testBit_two_pow]
               by_cases e : j = s
               · rw [e]; simp
               · rw [g4 i j hi hj (by omega) hb he]; rfl)
      · refine x_iload dX12_groupOf_45 rfl ?_
        refine x_iload_n dX12_groupOf_47 rfl ?_
        refine x_icmp_eq 69 dX12_groupOf_48 (by decide) ⟨(by omega), (by omega)⟩ (fun w48 => ?_) (fun w48 => ?_)
        · refine x_iinc (lv2 := [(6, _), (0, _), (1, _), (2, _), (3, _), (4, _), (5, _)]) dX12_groupOf_69 rfl (by decide) rfl ?_
          refine x_goto 29 dX12_groupOf_72 (by decide) ?_
          refine x_sub [1, 2, 3, 4, 5, 6, 0] rfl ?_
          first
            | (refine ih _ (by omega) (s + 1) X (by omega) rfl ⟨g1, g2, g3, fun i j hi hj hc hb he => ?_⟩
               by_cases e : i = r ∧ j = s
               · obtain ⟨rfl, rfl⟩ := e
                 exfalso
                 first
                   | (rcases hr39 with hh | hh
                      · omega
                      · rw [g2 _ hb] at hh; exact absurd hh.2 (by decide))
                   | exact he.2 (by omega)
                   | (rcases hr56 with hh | hh
                      · omega
                      · rw [he.1] at hh; exact absurd hh.2 (by decide))
               · exact g4 i j hi hj (by omega) hb he)
            | (rw [orI_n (by omega) (by have := pw6 (p := s) (by omega); omega)]
               have hXs : (spA A r).testBit s = true := (by rcases hr56 with hh | hh; exact hh.2; exfalso; omega)
               have hXr : X.testBit r = true := (by rcases hr39 with hh | hh; exact hh.2; exfalso; omega)
               refine ih _ (by omega) (s + 1) _ (by omega) rfl ⟨or_lt64 g1 (by omega), fun b hb => by rw [Nat.testBit_or, g2 b hb]; rfl, fun b hb => ?_, fun i j hi hj hc hb he => ?_⟩
               · rw [Nat.testBit_or, Nat.testBit_two_pow] at hb
                 by_cases e : s = b
                 · subst e
                   exact hC.2 r s hr (by omega) (g3 r hXr) ⟨hXs, by omega⟩
                 · have e2 : decide (s = b) = false := decide_eq_false e
                   rw [e2, Bool.or_false] at hb
                   exact g3 b hb
               · rw [Nat.testBit_or, Nat.testBit_two_pow]
                 by_cases e : j = s
                 · rw [e]; simp
                 · rw [g4 i j hi hj (by omega) hb he]; rfl)
        · refine x_aload_n dX12_groupOf_51 rfl ?_
          refine x_iload dX12_groupOf_52 rfl ?_
          refine x_iload dX12_groupOf_54 rfl ?_
          refine x_callV2 (mc1 := 0) (ms1 := 0) dX12_groupOf_56 cv_RX12_414 (ci := 12) (k_ob_306 cs) rfl (Nat.le_of_ble_eq_true rfl) (n1 := n - 1) (by omega) (by omega) (by omega) ?_
          refine sp_X12_doSpeak cs hA hN hd ⟨by omega, by omega⟩ (by omega) (fun r56 hr56 => ?_)
          refine x_if_eq 69 dX12_groupOf_59 (by decide) (by omega) (fun w59 => ?_) (fun w59 => ?_)
          · refine x_iinc (lv2 := [(6, _), (0, _), (1, _), (2, _), (3, _), (4, _), (5, _)]) dX12_groupOf_69 rfl (by decide) rfl ?_
            refine x_goto 29 dX12_groupOf_72 (by decide) ?_
            refine x_sub [1, 2, 3, 4, 5, 6, 0] rfl ?_
            first
              | (refine ih _ (by omega) (s + 1) X (by omega) rfl ⟨g1, g2, g3, fun i j hi hj hc hb he => ?_⟩
                 by_cases e : i = r ∧ j = s
                 · obtain ⟨rfl, rfl⟩ := e
                   exfalso
                   first
                     | (rcases hr39 with hh | hh
                        · omega
                        · rw [g2 _ hb] at hh; exact absurd hh.2 (by decide))
                     | exact he.2 (by omega)
                     | (rcases hr56 with hh | hh
                        · omega
                        · rw [he.1] at hh; exact absurd hh.2 (by decide))
                 · exact g4 i j hi hj (by omega) hb he)
              | (rw [orI_n (by omega) (by have := pw6 (p := s) (by omega); omega)]
                 have hXs : (spA A r).testBit s = true := (by rcases hr56 with hh | hh; exact hh.2; exfalso; omega)
                 have hXr : X.testBit r = true := (by rcases hr39 with hh | hh; exact hh.2; exfalso; omega)
                 refine ih _ (by omega) (s + 1) _ (by omega) rfl ⟨or_lt64 g1 (by omega), fun b hb => by rw [Nat.testBit_or, g2 b hb]; rfl, fun b hb => ?_, fun i j hi hj hc hb he => ?_⟩
                 · rw [Nat.testBit_or, Nat.testBit_two_pow] at hb
                   by_cases e : s = b
                   · subst e
                     exact hC.2 r s hr (by omega) (g3 r hXr) ⟨hXs, by omega⟩
                   · have e2 : decide (s = b) = false := decide_eq_false e
                     rw [e2, Bool.or_false] at hb
                     exact g3 b hb
                 · rw [Nat.testBit_or, Nat.testBit_two_pow]
                   by_cases e : j = s
                   · rw [e]; simp
                   · rw [g4 i j hi hj (by omega) hb he]; rfl)
          · refine x_iload_n dX12_groupOf_62 rfl ?_
            refine x_iconst dX12_groupOf_63 ?_
            refine x_iload dX12_groupOf_64 rfl ?_
            refine x_ishl dX12_groupOf_66 ?_
            rw [shl1_n (by omega)]
            refine x_ior dX12_groupOf_67 ?_
            refine x_istore_n (lv2 := [(3, _), (0, _), (1, _), (2, _), (4, _), (5, _), (6, _)]) dX12_groupOf_68 (by decide) rfl ?_
            refine x_iinc (lv2 := [(6, _), (3, _), (0, _), (1, _), (2, _), (4, _), (5, _)]) dX12_groupOf_69 rfl (by decide) rfl ?_
            refine x_goto 29 dX12_groupOf_72 (by decide) ?_
            refine x_sub [2, 3, 4, 1, 5, 6, 0] rfl ?_
            first
              | (refine ih _ (by omega) (s + 1) X (by omega) rfl ⟨g1, g2, g3, fun i j hi hj hc hb he => ?_⟩
                 by_cases e : i = r ∧ j = s
                 · obtain ⟨rfl, rfl⟩ := e
                   exfalso
                   first
                     | (rcases hr39 with hh | hh
                        · omega
                        · rw [g2 _ hb] at hh; exact absurd hh.2 (by decide))
                     | exact he.2 (by omega)
                     | (rcases hr56 with hh | hh
                        · omega
                        · rw [he.1] at hh; exact absurd hh.2 (by decide))
                 · exact g4 i j hi hj (by omega) hb he)
              | (rw [orI_n (by omega) (by have := pw6 (p := s) (by omega); omega)]
                 have hXs : (spA A r).testBit s = true := (by rcases hr56 with hh | hh; exact hh.2; exfalso; omega)
                 have hXr : X.testBit r = true := (by rcases hr39 with hh | hh; exact hh.2; exfalso; omega)
                 refine ih _ (by omega) (s + 1) _ (by omega) rfl ⟨or_lt64 g1 (by omega), fun b hb => by rw [Nat.testBit_or, g2 b hb]; rfl, fun b hb => ?_, fun i j hi hj hc hb he => ?_⟩
                 · rw [Nat.testBit_or, Nat.testBit_two_pow] at hb
                   by_cases e : s = b
                   · subst e
                     exact hC.2 r s hr (by omega) (g3 r hXr) ⟨hXs, by omega⟩
                   · have e2 : decide (s = b) = false := decide_eq_false e
                     rw [e2, Bool.or_false] at hb
                     exact g3 b hb
                 · rw [Nat.testBit_or, Nat.testBit_two_pow]
                   by_cases e : j = s
                   · rw [e]; simp
                   · rw [g4 i j hi hj (by omega) hb he]; rfl)
theorem lp2_groupOf {p C H : Nat} {bt : Int} (cs : CS S R) (hA : I 307 = A) (hN : BN A) (hd : ∀ q : Nat, (q : Int) < A 0 → A (36 + 2 * q) ≠ A (37 + 2 * q)) (hbt : -1 ≤ bt ∧ bt < 6) (hn : 3 ≤ n) (hC : C < 64 ∧ ClE (eSp A bt) C)  (hK : ∀ X, GpI (eSp A bt) C H X 6 0 → WP n 0 0 mX12_groupOf Post 81 [(0, .ref (S.2.1 306)), (1, .int (iI (p : Int))), (2, .int (iI bt)), (3, .int (iI (X : Int))), (4, .int (iI (H : Int)))] [] 0 0 S I R) : ∀ (d r X : Nat), r ≤ 6 → 6 - r = d → GpI (eSp A bt) C H X r 0 → WP n 0 0 mX12_groupOf Post 19 [(0, .ref (S.2.1 306)), (1, .int (iI (p : Int))), (2, .int (iI bt)), (3, .int (iI (X : Int))), (4, .int (iI (H : Int))), (5, .int (iI (r : Int)))] [] 0 0 S I R := by
  intro d
  induction d using Nat.strongRecOn with
  | ind d ih =>
    intro r X r1 r2 hG
    refine x_iload dX12_groupOf_19 rfl ?_
    refine x_bipush dX12_groupOf_21 (by decide) ?_
    refine x_icmp_ge 81 dX12_groupOf_23 (by decide) ⟨(by omega), (by omega)⟩ (fun w23 => ?_) (fun w23 => ?_)
    · refine x_sub [0, 1, 2, 3, 4] rfl ?_
      obtain rfl : r = 6 := by omega
      exact hK X hG
    · refine x_iconst dX12_groupOf_26 ?_
      refine x_istore (lv2 := [(6, _), (0, _), (1, _), (2, _), (3, _), (4, _), (5, _)]) dX12_groupOf_27 (by decide) rfl ?_
      refine x_sub [1, 2, 3, 4, 5, 6, 0] rfl ?_
      refine lp1_groupOf (p := p) cs hA hN hd hbt hn hC (r := r) (by omega) (fun X2 hG2 => ?_) _ 0 X (by omega) rfl hG
      refine x_iinc (lv2 := [(5, _), (0, _), (1, _), (2, _), (3, _), (4, _)]) dX12_groupOf_75 rfl (by decide) rfl ?_
      refine x_goto 19 dX12_groupOf_78 (by decide) ?_
      refine x_sub [1, 2, 3, 4, 5, 0] rfl ?_
      exact ih _ (by omega) (r + 1) X2 (by omega) rfl hG2
theorem lp3_groupOf {p C : Nat} {bt : Int} (cs : CS S R) (hA : I 307 = A) (hN : BN A) (hd : ∀ q : Nat, (q : Int) < A 0 → A (36 + 2 * q) ≠ A (37 + 2 * q)) (hbt : -1 ≤ bt ∧ bt < 6) (hn : 3 ≤ n) (hC : Grp (eSp A bt) p C)  (hp : Post (some (.int (iI (C : Int)))) S I R) : ∀ (d X H : Nat), 2 * (64 - X) + (if H = X then 0 else 1) = d → X.testBit p = true → H < 64 → GpI (eSp A bt) C H X 6 0 → WP n 0 0 mX12_groupOf Post 7 [(0, .ref (S.2.1 306)), (1, .int (iI (p : Int))), (2, .int (iI bt)), (3, .int (iI (X : Int))), (4, .int (iI (H : Int)))] [] 0 0 S I R := by
  intro d
  induction d using Nat.strongRecOn with
  | ind d ih =>
    intro X H hm hX hH hG
    obtain ⟨g1, g2, g3, g4⟩ := id hG
    refine x_iload dX12_groupOf_7 rfl ?_
    refine x_iload_n dX12_groupOf_9 rfl ?_
    refine x_icmp_eq 84 dX12_groupOf_10 (by decide) ⟨(by omega), (by omega)⟩ (fun w10 => ?_) (fun w10 => ?_)
    · refine x_iload_n dX12_groupOf_84 rfl ?_
      exact x_ireturn dX12_groupOf_85 rfl (by omega) (by omega) (by
    obtain rfl : H = X := (by omega)
    have hcl : ClE (eSp A bt) H := fun i j hi hj hb he => g4 i j hi hj (Or.inl hi) hb he
    have he : H = C := sub_eq g3 (hC.2.2.2 H g1 hX hcl)
    rw [he]; exact hp)
    · refine x_iload_n dX12_groupOf_13 rfl ?_
      refine x_istore (lv2 := [(4, _), (0, _), (1, _), (2, _), (3, _)]) dX12_groupOf_14 (by decide) rfl ?_
      refine x_iconst dX12_groupOf_16 ?_
      refine x_istore (lv2 := [(5, _), (4, _), (0, _), (1, _), (2, _), (3, _)]) dX12_groupOf_17 (by decide) rfl ?_
      refine x_sub [2, 3, 4, 5, 1, 0] rfl ?_
      refine lp2_groupOf (p := p) (H := X) cs hA hN hd hbt hn ⟨hC.1, hC.2.2.1⟩ (fun X2 hG2 => ?_) _ 0 X (by omega) rfl ⟨g1, fun b hb => hb, g3, fun i j _ _ hc => by omega⟩
      refine x_goto 7 dX12_groupOf_81 (by decide) ?_
      have hle := sub_le hG2.2.1
      have hl2 := hG2.1
      refine ih _ ?_ X2 X rfl (hG2.2.1 p hX) g1 hG2
      rw [← hm, if_neg (show ¬ H = X by omega)]
      by_cases e : X = X2
      · rw [if_pos e, ← e]; omega
      · rw [if_neg e]; omega
theorem sp_X12_groupOf {p C : Nat} {bt : Int} (cs : CS S R) (hA : I 307 = A) (hN : BN A) (hd : ∀ q : Nat, (q : Int) < A 0 → A (36 + 2 * q) ≠ A (37 + 2 * q)) (hp6 : p < 6) (hbt : -1 ≤ bt ∧ bt < 6) (hn : 3 ≤ n) (hC : Grp (eSp A bt) p C) (hp : Post (some (.int (iI (C : Int)))) S I R) : Call n 0 0 mX12_groupOf [.ref (S.2.1 306), .int (iI (p : Int)), .int (iI bt)] S I R Post := by
  refine Call.of (by decide +kernel) (Nat.le_of_ble_eq_true rfl) ?_
  show WP _ _ _ _ _ 0 [(0, _), (1, _), (2, _)] [] 0 0 _ _ _
  refine x_iconst dX12_groupOf_0 ?_
  refine x_iload_n dX12_groupOf_1 rfl ?_
  refine x_ishl dX12_groupOf_2 ?_
  rw [shl1_n (by omega)]
  refine x_istore_n (lv2 := [(3, _), (0, _), (1, _), (2, _)]) dX12_groupOf_3 (by decide) rfl ?_
  refine x_iconst dX12_groupOf_4 ?_
  refine x_istore (lv2 := [(4, _), (3, _), (0, _), (1, _), (2, _)]) dX12_groupOf_5 (by decide) rfl ?_
  refine x_sub [2, 3, 4, 1, 0] rfl ?_
  have hpp : (2 ^ p).testBit p = true := Nat.testBit_two_pow_self
  exact lp3_groupOf cs hA hN hd hbt hn hC hp _ (2 ^ p) 0 rfl hpp (by omega) ⟨pw6 hp6, fun b hb => by simp at hb, fun b hb => by
    rw [Nat.testBit_two_pow] at hb
    have e : p = b := by simpa using hb
    rw [← e]; exact hC.2.1, fun i j _ _ _ hb => by simp at hb⟩
theorem grp_all {p : Nat} (hp : p < 6) : Grp (eSp A (-1)) p (rch (spA A) 63 p) := by
  have h63 : ∀ x : Fin 6, (63 : Nat).testBit x.val = true := by decide
  have hs : ∀ i, i < 6 → spA A i < 64 := fun i _ => spA_lt i
  refine ⟨rch_lt hs hp, rch_p, fun i j hi hj hb he => rch_cl hs hp i j hi hj hb ⟨he.1, h63 ⟨j, hj⟩⟩, fun D hD hp2 hc => rch_min hs hp2 (fun i j hi hj hb he => hc i j hi hj hb ⟨he.1, by omega⟩)⟩
theorem dX12_group_0 : decode prog_14_method_109_code 0 = .ok (.iload_n 1, 1) := by decide +kernel
theorem dX12_group_1 : decode prog_14_method_109_code 1 = .ok (.invokestatic 93, 3) := by decide +kernel
theorem dX12_group_4 : decode prog_14_method_109_code 4 = .ok (.ifCond .eq 12, 3) := by decide +kernel
theorem dX12_group_7 : decode prog_14_method_109_code 7 = .ok (.aload_n 0, 1) := by decide +kernel
theorem dX12_group_8 : decode prog_14_method_109_code 8 = .ok (.iload_n 1, 1) := by decide +kernel
theorem dX12_group_9 : decode prog_14_method_109_code 9 = .ok (.iconst (-1), 1) := by decide +kernel
theorem dX12_group_10 : decode prog_14_method_109_code 10 = .ok (.invokevirtual 417, 3) := by decide +kernel
theorem dX12_group_13 : decode prog_14_method_109_code 13 = .ok (.goto 4, 3) := by decide +kernel
theorem dX12_group_16 : decode prog_14_method_109_code 16 = .ok (.iconst (-1), 1) := by decide +kernel
theorem dX12_group_17 : decode prog_14_method_109_code 17 = .ok (.ireturn, 1) := by decide +kernel
theorem sp_X12_group {a : Int} (cs : CS S R) (hA : I 307 = A) (hb : BA A) (ha : Rg a) (hn : 4 ≤ n) (hp : Post (some (.int (iI (f_group A a)))) S I R) : Call n 0 0 mX12_group [.ref (S.2.1 306), .int (iI a)] S I R Post := by
  unfold f_group at hp
  refine Call.of (by decide +kernel) (Nat.le_of_ble_eq_true rfl) ?_
  show WP _ _ _ _ _ 0 [(0, _), (1, _)] [] 0 0 _ _ _
  refine x_iload_n dX12_group_0 rfl ?_
  refine x_callS1 (mc1 := 0) (ms1 := 0) dX12_group_1 cv_RX12_93 (Nat.le_of_ble_eq_true rfl) (n1 := n - 1) (by omega) (by omega) (by omega) ?_
  refine sp_X12_isPerson (by omega) (by omega) (fun r1 hr1 => ?_)
  refine x_if_eq 16 dX12_group_4 (by decide) (by omega) (fun w4 => ?_) (fun w4 => ?_)
  · refine x_iconst dX12_group_16 ?_
    exact x_ireturn dX12_group_17 rfl (by omega) (by omega) (by first | (rw [if_neg (by omega)] at hp; exact hp) | (rw [if_pos (by omega)] at hp; exact hp))
  · refine x_aload_n dX12_group_7 rfl ?_
    refine x_iload_n dX12_group_8 rfl ?_
    refine x_iconst dX12_group_9 ?_
    refine x_callV2 (mc1 := 0) (ms1 := 0) dX12_group_10 cv_RX12_417 (ci := 12) (k_ob_306 cs) rfl (Nat.le_of_ble_eq_true rfl) (n1 := n - 1) (by omega) (by omega) (by omega) ?_
    rw [asN (a := a) (by omega)]
    refine sp_X12_groupOf cs hA (BA_bn hb) (BA_dif hb) (by omega) (by omega) (by omega) (grp_all (by omega)) ?_
    refine x_goto 17 dX12_group_13 (by decide) ?_
    exact x_ireturn dX12_group_17 rfl (by omega) (by omega) (by first | (rw [if_neg (by omega)] at hp; exact hp) | (rw [if_pos (by omega)] at hp; exact hp))
end Ref17
