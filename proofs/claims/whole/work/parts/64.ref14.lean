section Ref14
variable {n mc ms : Nat} {M : Md} {pc : Nat} {lv : List (Nat × Value)} {st : List Value} {k j : Nat} {Post : PT} {S : Sh} {I : CI} {R : CR} {A : Nat → Int} {tx : Nat → Nat → Int}
/-- rows alike but for the book -/
def AgB (A B : Nat → Int) : Prop := ∀ i : Nat, i < 2815 → i ≠ 11 → B i = A i
theorem AgB_n {A B : Nat → Int} (h : AgB A B) : AgN A B := fun i h1 _ h2 => h i (by omega) h2
theorem AgB_u {A B : Nat → Int} {k : Nat} {v : Int} (h : AgB A B) : AgB (upA A k v) (upA B k v) := by
  intro i h1 h2
  unfold upA
  split
  · rfl
  · exact h i h1 h2
theorem BN_ag {A B : Nat → Int} (h : AgN A B) (hN : BN A) : BN B := by
  obtain ⟨b0, b1, b2, b7, b8, b9, b10, bq⟩ := id hN
  refine ⟨by rw [h 0 (by omega) (by omega) (by omega)]; exact b0, by rw [h 1 (by omega) (by omega) (by omega)]; exact b1, by rw [h 1 (by omega) (by omega) (by omega), h 2 (by omega) (by omega) (by omega)]; exact b2, by rw [h 7 (by omega) (by omega) (by omega)]; exact b7, by rw [h 8 (by omega) (by omega) (by omega)]; exact b8, by rw [h 9 (by omega) (by omega) (by omega)]; exact b9, by rw [h 10 (by omega) (by omega) (by omega)]; exact b10, fun p hp => ?_⟩
  rw [h 7 (by omega) (by omega) (by omega), h (12 + 3 * p) (by omega) (by omega) (by omega), h (13 + 3 * p) (by omega) (by omega) (by omega), h (14 + 3 * p) (by omega) (by omega) (by omega), h (36 + 2 * p) (by omega) (by omega) (by omega), h (37 + 2 * p) (by omega) (by omega) (by omega), h (52 + p) (by omega) (by omega) (by omega)]
  exact bq p hp
theorem rain_ag {A B : Nat → Int} (h : AgB A B) : AgB (rainD A) (rainD B) := by
  unfold rainD
  rw [h 8 (by omega) (by omega)]
  exact AgB_u (AgB_u h)
theorem warm_ag {A B : Nat → Int} (h : AgB A B) {q : Int} (hq : 0 ≤ q ∧ q < 8) : AgB (warmA A q) (warmA B q) := by
  have e1 := h (12 + 3 * q.toNat) (by omega) (by omega)
  have e2 := h (14 + 3 * q.toNat) (by omega) (by omega)
  have e3 := h 10 (by omega) (by omega)
  unfold warmA
  rw [e1, e2, e3]
  split
  · exact AgB_u h
  · split
    · exact AgB_u h
    · exact h
theorem heat_ag {A B : Nat → Int} (h : AgB A B) (hN : BN A) : AgB (heatD A) (heatD B) := by
  have e0 := h 0 (by omega) (by omega)
  have e8 := h 8 (by omega) (by omega)
  have b0 := hN.1
  unfold heatD
  rw [e0, e8]
  split
  · rename_i hq
    have r1 := Int.emod_nonneg (A 8) (show A 0 ≠ 0 by omega)
    have r2 := Int.emod_lt_of_pos (A 8) hq
    exact warm_ag (AgB_u h) (by omega)
  · exact h
theorem sale_ag {A B : Nat → Int} (h : AgB A B) (hN : BN A) (h11 : 0 ≤ A 11) : ∀ k : Nat, (k : Int) ≤ A 0 → AgB (saleR 1 A tx k).1 (saleR 0 B tx k).1 := by
  intro k
  induction k with
  | zero => intro _; exact h
  | succ k ih =>
    intro hk
    have hi := ih (by omega)
    have b0 := hN.1
    obtain ⟨i1, i2, i3, i4, i5⟩ := saleR_k (tx := tx) (z := 1) hN k (by omega)
    have eq1 := hi (12 + 3 * k) (by omega) (by omega)
    have es : sellsP (saleR 0 B tx k).1 tx k = sellsP (saleR 1 A tx k).1 tx k := se_ag (AgB_n hi) (by rw [i2 0 (by omega)]; omega) (by omega)
    simp only [saleR]
    rw [eq1, es]
    split
    · intro j h1 h2
      dsimp only
      rw [wrB_o h2 h1, wrB_o h2 h1]
      exact AgB_u hi j h1 h2
    · exact hi
theorem pass_ag {A B : Nat → Int} (h : AgB A B) (hN : BN A) (h11 : 0 ≤ A 11) : AgB (passA A tx).1 (passR 0 B tx).1 := by
  have hr := rain_ag h
  have hNr := BN_rainD hN
  have hh := heat_ag hr hNr
  have hNh := BN_heatD hNr
  have e11 : heatD (rainD A) 11 = A 11 := by rw [heat_at hNr (by omega), rain_lo (by omega)]
  have e0 := hh 0 (by omega) (by omega)
  have e7 := hh 7 (by omega) (by omega)
  have b0 := hNh.1
  have hs := sale_ag (tx := tx) hh hNh (by omega) (heatD (rainD A) 0).toNat (by omega)
  rw [← passR_1]
  unfold passR
  dsimp only
  rw [e0, e7]
  exact AgB_u hs
/-- nothing but a day's own places changes when nothing is written -/
theorem pass0_o (hN : BN A) {i : Nat} (h : i < 7 ∨ i = 11 ∨ 36 ≤ i) : (passR 0 A tx).1 i = A i := by
  have hNr := BN_rainD hN
  have hNh := BN_heatD hNr
  have b0 := hNh.1
  have hk : ∀ k : Nat, (k : Int) ≤ heatD (rainD A) 0 → (saleR 0 (heatD (rainD A)) tx k).1 i = heatD (rainD A) i := by
    intro k
    induction k with
    | zero => intro _; rfl
    | succ k ih =>
      intro hk
      simp only [saleR]
      split
      · dsimp only
        rw [show wrB 0 (upA (saleR 0 (heatD (rainD A)) tx k).1 (12 + 3 * k) 3) (k : Int) 2 = upA (saleR 0 (heatD (rainD A)) tx k).1 (12 + 3 * k) 3 from if_neg (by decide), upA_o (by omega)]
        exact ih (by omega)
      · exact ih (by omega)
  show upA _ 7 _ i = _
  rw [upA_o (by omega), hk _ (by omega), heat_at hNr (by omega), rain_lo (by omega)]
def foR (A : Nat → Int) (tx : Nat → Nat → Int) : Nat → (Nat → Int)
  | 0 => A
  | k + 1 => if foR A tx k 7 < 9999 then (passR 0 (foR A tx k) tx).1 else foR A tx k
theorem fo_k (hb : BA A) : ∀ k : Nat, BA (foL A tx k) ∧ AgB (foL A tx k) (foR A tx k) ∧ (∀ i : Nat, i < 7 ∨ i = 11 ∨ 36 ≤ i → foR A tx k i = A i) ∧ foL A tx k 2 = A 2 := by
  intro k
  induction k with
  | zero => exact ⟨hb, fun _ _ _ => rfl, fun _ _ => rfl, rfl⟩
  | succ k ih =>
    obtain ⟨i1, i2, i3, i4⟩ := ih
    have e7 := i2 7 (by omega) (by omega)
    simp only [foL, foR]
    rw [e7]
    by_cases h : foL A tx k 7 < 9999
    · rw [if_pos h, if_pos h]
      have hN := BN_ag (AgB_n i2) (BA_bn i1)
      exact ⟨BA_passA i1 h, pass_ag i2 (BA_bn i1) (BA_11 i1).1, fun i hi => by rw [pass0_o hN hi]; exact i3 i hi, by rw [pass_lo i1 (by omega)]; exact i4⟩
    · rw [if_neg h, if_neg h]; exact ⟨i1, i2, i3, i4⟩
def Fo (I I' : CI) : Prop := (∀ c, c ≠ 306 → c ≠ 312 → c ≠ 313 → c ≠ 314 → c ≠ 315 → I' c = I c) ∧ ∀ k, k ≠ 24 → I' 306 k = I 306 k
theorem dX12_foretold_0 : decode prog_14_method_103_code 0 = .ok (.iload_n 1, 1) := by decide +kernel
theorem dX12_foretold_1 : decode prog_14_method_103_code 1 = .ok (.iconst 1, 1) := by decide +kernel
theorem dX12_foretold_2 : decode prog_14_method_103_code 2 = .ok (.bipush 60, 2) := by decide +kernel
theorem dX12_foretold_4 : decode prog_14_method_103_code 4 = .ok (.invokestatic 81, 3) := by decide +kernel
theorem dX12_foretold_7 : decode prog_14_method_103_code 7 = .ok (.ifCond .eq 20, 3) := by decide +kernel
theorem dX12_foretold_10 : decode prog_14_method_103_code 10 = .ok (.aload_n 0, 1) := by decide +kernel
theorem dX12_foretold_11 : decode prog_14_method_103_code 11 = .ok (.iload_n 2, 1) := by decide +kernel
theorem dX12_foretold_12 : decode prog_14_method_103_code 12 = .ok (.invokevirtual 342, 3) := by decide +kernel
theorem dX12_foretold_15 : decode prog_14_method_103_code 15 = .ok (.ifCond .eq 12, 3) := by decide +kernel
theorem dX12_foretold_18 : decode prog_14_method_103_code 18 = .ok (.iload_n 3, 1) := by decide +kernel
theorem dX12_foretold_19 : decode prog_14_method_103_code 19 = .ok (.iconst 0, 1) := by decide +kernel
theorem dX12_foretold_20 : decode prog_14_method_103_code 20 = .ok (.iconst 2, 1) := by decide +kernel
theorem dX12_foretold_21 : decode prog_14_method_103_code 21 = .ok (.invokestatic 81, 3) := by decide +kernel
theorem dX12_foretold_24 : decode prog_14_method_103_code 24 = .ok (.ifCond .ne 6, 3) := by decide +kernel
theorem dX12_foretold_27 : decode prog_14_method_103_code 27 = .ok (.bipush (-2), 2) := by decide +kernel
theorem dX12_foretold_29 : decode prog_14_method_103_code 29 = .ok (.ireturn, 1) := by decide +kernel
theorem dX12_foretold_30 : decode prog_14_method_103_code 30 = .ok (.bipush 7, 2) := by decide +kernel
theorem dX12_foretold_32 : decode prog_14_method_103_code 32 = .ok (.istore 4, 2) := by decide +kernel
theorem dX12_foretold_34 : decode prog_14_method_103_code 34 = .ok (.iload 4, 2) := by decide +kernel
theorem dX12_foretold_36 : decode prog_14_method_103_code 36 = .ok (.bipush 36, 2) := by decide +kernel
theorem dX12_foretold_38 : decode prog_14_method_103_code 38 = .ok (.if_icmp .ge 23, 3) := by decide +kernel
theorem dX12_foretold_41 : decode prog_14_method_103_code 41 = .ok (.aload_n 0, 1) := by decide +kernel
theorem dX12_foretold_42 : decode prog_14_method_103_code 42 = .ok (.getfield 47, 3) := by decide +kernel
theorem dX12_foretold_45 : decode prog_14_method_103_code 45 = .ok (.iload 4, 2) := by decide +kernel
theorem dX12_foretold_47 : decode prog_14_method_103_code 47 = .ok (.aload_n 0, 1) := by decide +kernel
theorem dX12_foretold_48 : decode prog_14_method_103_code 48 = .ok (.getfield 7, 3) := by decide +kernel
theorem dX12_foretold_51 : decode prog_14_method_103_code 51 = .ok (.iload 4, 2) := by decide +kernel
theorem dX12_foretold_53 : decode prog_14_method_103_code 53 = .ok (.iaload, 1) := by decide +kernel
theorem dX12_foretold_54 : decode prog_14_method_103_code 54 = .ok (.iastore, 1) := by decide +kernel
theorem dX12_foretold_55 : decode prog_14_method_103_code 55 = .ok (.iinc 4 1, 3) := by decide +kernel
theorem dX12_foretold_58 : decode prog_14_method_103_code 58 = .ok (.goto (-24), 3) := by decide +kernel
theorem dX12_foretold_61 : decode prog_14_method_103_code 61 = .ok (.aload_n 0, 1) := by decide +kernel
theorem dX12_foretold_62 : decode prog_14_method_103_code 62 = .ok (.iconst 0, 1) := by decide +kernel
theorem dX12_foretold_63 : decode prog_14_method_103_code 63 = .ok (.putfield 43, 3) := by decide +kernel
theorem dX12_foretold_66 : decode prog_14_method_103_code 66 = .ok (.iconst 0, 1) := by decide +kernel
theorem dX12_foretold_67 : decode prog_14_method_103_code 67 = .ok (.istore 4, 2) := by decide +kernel
theorem dX12_foretold_69 : decode prog_14_method_103_code 69 = .ok (.iload 4, 2) := by decide +kernel
theorem dX12_foretold_71 : decode prog_14_method_103_code 71 = .ok (.iload_n 1, 1) := by decide +kernel
theorem dX12_foretold_72 : decode prog_14_method_103_code 72 = .ok (.if_icmp .ge 26, 3) := by decide +kernel
theorem dX12_foretold_75 : decode prog_14_method_103_code 75 = .ok (.aload_n 0, 1) := by decide +kernel
theorem dX12_foretold_76 : decode prog_14_method_103_code 76 = .ok (.getfield 7, 3) := by decide +kernel
theorem dX12_foretold_79 : decode prog_14_method_103_code 79 = .ok (.bipush 7, 2) := by decide +kernel
theorem dX12_foretold_81 : decode prog_14_method_103_code 81 = .ok (.iaload, 1) := by decide +kernel
theorem dX12_foretold_82 : decode prog_14_method_103_code 82 = .ok (.sipush 9999, 3) := by decide +kernel
theorem dX12_foretold_85 : decode prog_14_method_103_code 85 = .ok (.if_icmp .ge 7, 3) := by decide +kernel
theorem dX12_foretold_88 : decode prog_14_method_103_code 88 = .ok (.aload_n 0, 1) := by decide +kernel
theorem dX12_foretold_89 : decode prog_14_method_103_code 89 = .ok (.invokevirtual 378, 3) := by decide +kernel
theorem dX12_foretold_92 : decode prog_14_method_103_code 92 = .ok (.iinc 4 1, 3) := by decide +kernel
theorem dX12_foretold_95 : decode prog_14_method_103_code 95 = .ok (.goto (-26), 3) := by decide +kernel
theorem dX12_foretold_98 : decode prog_14_method_103_code 98 = .ok (.iload_n 3, 1) := by decide +kernel
theorem dX12_foretold_99 : decode prog_14_method_103_code 99 = .ok (.ifCond .ne 11, 3) := by decide +kernel
theorem dX12_foretold_102 : decode prog_14_method_103_code 102 = .ok (.aload_n 0, 1) := by decide +kernel
theorem dX12_foretold_103 : decode prog_14_method_103_code 103 = .ok (.iload_n 2, 1) := by decide +kernel
theorem dX12_foretold_104 : decode prog_14_method_103_code 104 = .ok (.invokevirtual 85, 3) := by decide +kernel
theorem dX12_foretold_107 : decode prog_14_method_103_code 107 = .ok (.goto 21, 3) := by decide +kernel
theorem dX12_foretold_110 : decode prog_14_method_103_code 110 = .ok (.iload_n 3, 1) := by decide +kernel
theorem dX12_foretold_111 : decode prog_14_method_103_code 111 = .ok (.iconst 1, 1) := by decide +kernel
theorem dX12_foretold_112 : decode prog_14_method_103_code 112 = .ok (.if_icmp .ne 11, 3) := by decide +kernel
theorem dX12_foretold_115 : decode prog_14_method_103_code 115 = .ok (.aload_n 0, 1) := by decide +kernel
theorem dX12_foretold_116 : decode prog_14_method_103_code 116 = .ok (.iload_n 2, 1) := by decide +kernel
theorem dX12_foretold_117 : decode prog_14_method_103_code 117 = .ok (.invokevirtual 281, 3) := by decide +kernel
theorem dX12_foretold_120 : decode prog_14_method_103_code 120 = .ok (.goto 8, 3) := by decide +kernel
theorem dX12_foretold_123 : decode prog_14_method_103_code 123 = .ok (.aload_n 0, 1) := by decide +kernel
theorem dX12_foretold_124 : decode prog_14_method_103_code 124 = .ok (.iload_n 2, 1) := by decide +kernel
theorem dX12_foretold_125 : decode prog_14_method_103_code 125 = .ok (.invokevirtual 330, 3) := by decide +kernel
theorem dX12_foretold_128 : decode prog_14_method_103_code 128 = .ok (.istore 4, 2) := by decide +kernel
theorem dX12_foretold_130 : decode prog_14_method_103_code 130 = .ok (.bipush 7, 2) := by decide +kernel
theorem dX12_foretold_132 : decode prog_14_method_103_code 132 = .ok (.istore 5, 2) := by decide +kernel
theorem dX12_foretold_134 : decode prog_14_method_103_code 134 = .ok (.iload 5, 2) := by decide +kernel
theorem dX12_foretold_136 : decode prog_14_method_103_code 136 = .ok (.bipush 36, 2) := by decide +kernel
theorem dX12_foretold_138 : decode prog_14_method_103_code 138 = .ok (.if_icmp .ge 23, 3) := by decide +kernel
theorem dX12_foretold_141 : decode prog_14_method_103_code 141 = .ok (.aload_n 0, 1) := by decide +kernel
theorem dX12_foretold_142 : decode prog_14_method_103_code 142 = .ok (.getfield 7, 3) := by decide +kernel
theorem dX12_foretold_145 : decode prog_14_method_103_code 145 = .ok (.iload 5, 2) := by decide +kernel
theorem dX12_foretold_147 : decode prog_14_method_103_code 147 = .ok (.aload_n 0, 1) := by decide +kernel
theorem dX12_foretold_148 : decode prog_14_method_103_code 148 = .ok (.getfield 47, 3) := by decide +kernel
theorem dX12_foretold_151 : decode prog_14_method_103_code 151 = .ok (.iload 5, 2) := by decide +kernel
theorem dX12_foretold_153 : decode prog_14_method_103_code 153 = .ok (.iaload, 1) := by decide +kernel
theorem dX12_foretold_154 : decode prog_14_method_103_code 154 = .ok (.iastore, 1) := by decide +kernel
theorem dX12_foretold_155 : decode prog_14_method_103_code 155 = .ok (.iinc 5 1, 3) := by decide +kernel
theorem dX12_foretold_158 : decode prog_14_method_103_code 158 = .ok (.goto (-24), 3) := by decide +kernel
theorem dX12_foretold_161 : decode prog_14_method_103_code 161 = .ok (.aload_n 0, 1) := by decide +kernel
theorem dX12_foretold_162 : decode prog_14_method_103_code 162 = .ok (.iconst 1, 1) := by decide +kernel
theorem dX12_foretold_163 : decode prog_14_method_103_code 163 = .ok (.putfield 43, 3) := by decide +kernel
theorem dX12_foretold_166 : decode prog_14_method_103_code 166 = .ok (.iload 4, 2) := by decide +kernel
theorem dX12_foretold_168 : decode prog_14_method_103_code 168 = .ok (.ireturn, 1) := by decide +kernel
theorem lp1_fore {mm q w : Int} (cs : CS S R) (hA : I 307 = A) (hK : ∀ J, (∀ i, 7 ≤ i → i < 36 → J 315 i = A i) → (∀ c, c ≠ 315 → J c = I c) → WP n 0 0 mX12_foretold Post 61 [(0, .ref (S.2.1 306)), (1, .int (iI mm)), (2, .int (iI q)), (3, .int (iI w))] [] 0 0 S J R) : ∀ (d k : Nat) (J : CI), 7 ≤ k → k ≤ 36 → 36 - k = d → (∀ i, 7 ≤ i → i < k → J 315 i = A i) → (∀ c, c ≠ 315 → J c = I c) → WP n 0 0 mX12_foretold Post 34 [(0, .ref (S.2.1 306)), (1, .int (iI mm)), (2, .int (iI q)), (3, .int (iI w)), (4, .int (iI (k : Int)))] [] 0 0 S J R := by
  intro d
  induction d using Nat.strongRecOn with
  | ind d ih =>
    intro k J k0 k1 k2 hJ hF
    have aJ : J 307 = A := by rw [hF 307 (by omega)]; exact hA
    refine x_iload dX12_foretold_34 rfl ?_
    refine x_bipush dX12_foretold_36 (by decide) ?_
    refine x_icmp_ge 61 dX12_foretold_38 (by decide) ⟨(by omega), (by omega)⟩ (fun w38 => ?_) (fun w38 => ?_)
    · refine x_sub [0, 1, 2, 3] rfl ?_
      obtain rfl : k = 36 := by omega
      exact hK _ hJ hF
    · refine x_aload_n dX12_foretold_41 rfl ?_
      refine x_getR (b := 315) dX12_foretold_42 gf_RX12_47 (k_ob_306 cs) (fun _ _ => rfl) (k_r_306_25 cs) ?_
      refine x_iload dX12_foretold_45 rfl ?_
      refine x_aload_n dX12_foretold_47 rfl ?_
      refine x_getR (b := 307) dX12_foretold_48 gf_RX12_7 (k_ob_306 cs) (fun _ _ => rfl) (k_r_306_0 cs) ?_
      refine x_iload dX12_foretold_51 rfl ?_
      refine x_ald7 (kk := k) (v := A (k)) dX12_foretold_53 cs (by omega) (by omega) (by rw [aJ]; repeat (first | rfl | rw [upA_s] | rw [upA_o (by omega)])) ?_
      refine x_iastore dX12_foretold_54 (k_ar_315 cs) (by omega) (by omega) ?_
      refine x_iinc (lv2 := [(4, _), (0, _), (1, _), (2, _), (3, _)]) dX12_foretold_55 rfl (by decide) rfl ?_
      refine x_goto 34 dX12_foretold_58 (by decide) ?_
      refine x_sub [1, 2, 3, 4, 0] rfl ?_
      rw [tN]
      refine ih _ (by omega) (k + 1) _ (by omega) (by omega) rfl (fun i h1 h2 => ?_) (fun c hc => by rw [uI_row hc]; exact hF c hc)
      by_cases e : i = k
      · rw [e, uI_s]
      · rw [uI_o (Or.inr e)]; exact hJ i h1 (by omega)
theorem lp2_fore {mm q w : Int} (cs : CS S R) (hb : BA A) (hT : RTx (I 309) A tx) (hm : 1 ≤ mm ∧ mm ≤ 60) (hz : I 306 23 = 0) (hn : 6 ≤ n) (hK : ∀ J, J 307 = foR A tx mm.toNat → FP I J → WP n 0 0 mX12_foretold Post 98 [(0, .ref (S.2.1 306)), (1, .int (iI mm)), (2, .int (iI q)), (3, .int (iI w))] [] 0 0 S J R) : ∀ (d k : Nat) (J : CI), k ≤ mm.toNat → mm.toNat - k = d → J 307 = foR A tx k → FP I J → WP n 0 0 mX12_foretold Post 69 [(0, .ref (S.2.1 306)), (1, .int (iI mm)), (2, .int (iI q)), (3, .int (iI w)), (4, .int (iI (k : Int)))] [] 0 0 S J R := by
  intro d
  induction d using Nat.strongRecOn with
  | ind d ih =>
    intro k J k1 k2 hA hF
    obtain ⟨i1, i2, i3, i4⟩ := fo_k (tx := tx) hb k
    have hN := BN_ag (AgB_n i2) (BA_bn i1)
    have b0 := hN.1
    have b7 := hN.2.2.2.1
    have e11 := i3 11 (by omega)
    have e1 := i3 1 (by omega)
    have h11 := BA_11 hb
    have hsr := saleR_k (tx := tx) (z := 0) (BN_heatD (BN_rainD hN)) (heatD (rainD (foR A tx k)) 0).toNat (by have := (BN_heatD (BN_rainD hN)).1; omega)
    have hs2 : (passR 0 (foR A tx k) tx).2 = (saleR 0 (heatD (rainD (foR A tx k))) tx (heatD (rainD (foR A tx k)) 0).toNat).2 := rfl
    have hh0 := (BN_heatD (BN_rainD hN)).1
    refine x_iload dX12_foretold_69 rfl ?_
    refine x_iload_n dX12_foretold_71 rfl ?_
    refine x_icmp_ge 98 dX12_foretold_72 (by decide) ⟨(by omega), (by omega)⟩ (fun w72 => ?_) (fun w72 => ?_)
    · refine x_sub [0, 1, 2, 3] rfl ?_
      obtain rfl : k = mm.toNat := by omega
      exact hK _ hA hF
    · refine x_aload_n dX12_foretold_75 rfl ?_
      refine x_getR (b := 307) dX12_foretold_76 gf_RX12_7 (k_ob_306 cs) (fun _ _ => rfl) (k_r_306_0 cs) ?_
      refine x_bipush dX12_foretold_79 (by decide) ?_
      refine x_ald7 (kk := 7) (v := foR A tx k 7) dX12_foretold_81 cs (by omega) (by omega) (by rw [hA]; repeat (first | rfl | rw [upA_s] | rw [upA_o (by omega)])) ?_
      refine x_sipush dX12_foretold_82 (by decide) ?_
      refine x_icmp_ge 92 dX12_foretold_85 (by decide) ⟨(by omega), (by omega)⟩ (fun w85 => ?_) (fun w85 => ?_)
      · refine x_iinc (lv2 := [(4, _), (0, _), (1, _), (2, _), (3, _)]) dX12_foretold_92 rfl (by decide) rfl ?_
        refine x_goto 69 dX12_foretold_95 (by decide) ?_
        refine x_sub [1, 2, 3, 4, 0] rfl ?_
        first
          | (have ek : foR A tx (k + 1) = foR A tx k := if_neg (by omega)
             exact ih _ (by omega) (k + 1) J (by omega) rfl (by rw [ek]; exact hA) hF)
          | (have ek : foR A tx (k + 1) = (passR 0 (foR A tx k) tx).1 := if_pos (by omega)
             exact ih _ (by omega) (k + 1) J89 (by omega) rfl (by rw [ek]; exact a89) (FP.tr hF f89))
      · refine x_aload_n dX12_foretold_88 rfl ?_
        refine x_callV0 (mc1 := 0) (ms1 := 0) dX12_foretold_89 cv_RX12_378 (ci := 12) (k_ob_306 cs) rfl (Nat.le_of_ble_eq_true rfl) (n1 := n - 1) (by omega) (by omega) (by omega) ?_
        refine sp_X12_pass (z := 0) (tx := tx) cs hA hN (by rw [hF.1 309 (by omega) (by omega) (by omega) (by omega) (by omega)]; exact fun t ht => hT t (by rw [e1] at ht; exact ht)) (by omega) ⟨by rw [hF.2 23 (by omega)]; exact hz, Or.inl rfl⟩ (by omega) (fun J89 a89 s89 f89 => ?_)
        refine x_iinc (lv2 := [(4, _), (0, _), (1, _), (2, _), (3, _)]) dX12_foretold_92 rfl (by decide) rfl ?_
        refine x_goto 69 dX12_foretold_95 (by decide) ?_
        refine x_sub [1, 2, 3, 4, 0] rfl ?_
        first
          | (have ek : foR A tx (k + 1) = foR A tx k := if_neg (by omega)
             exact ih _ (by omega) (k + 1) J (by omega) rfl (by rw [ek]; exact hA) hF)
          | (have ek : foR A tx (k + 1) = (passR 0 (foR A tx k) tx).1 := if_pos (by omega)
             exact ih _ (by omega) (k + 1) J89 (by omega) rfl (by rw [ek]; exact a89) (FP.tr hF f89))
theorem lp3_fore {B : Nat → Int} {v : Int} (cs : CS S R) (h315 : ∀ i, 7 ≤ i → i < 36 → I 315 i = A i) (hK : ∀ J, (∀ i, J 307 i = if 7 ≤ i ∧ i < 36 then A i else B i) → F7 I J → WP n 0 0 mX12_foretold Post 161 [(0, .ref (S.2.1 306)), (4, .int (iI v))] [] 0 0 S J R) : ∀ (d k : Nat) (J : CI), 7 ≤ k → k ≤ 36 → 36 - k = d → (∀ i, J 307 i = if 7 ≤ i ∧ i < k then A i else B i) → F7 I J → WP n 0 0 mX12_foretold Post 134 [(0, .ref (S.2.1 306)), (4, .int (iI v)), (5, .int (iI (k : Int)))] [] 0 0 S J R := by
  intro d
  induction d using Nat.strongRecOn with
  | ind d ih =>
    intro k J k0 k1 k2 hJ hF
    refine x_iload dX12_foretold_134 rfl ?_
    refine x_bipush dX12_foretold_136 (by decide) ?_
    refine x_icmp_ge 161 dX12_foretold_138 (by decide) ⟨(by omega), (by omega)⟩ (fun w138 => ?_) (fun w138 => ?_)
    · refine x_sub [0, 1] rfl ?_
      obtain rfl : k = 36 := by omega
      exact hK _ hJ hF
    · refine x_aload_n dX12_foretold_141 rfl ?_
      refine x_getR (b := 307) dX12_foretold_142 gf_RX12_7 (k_ob_306 cs) (fun _ _ => rfl) (k_r_306_0 cs) ?_
      refine x_iload dX12_foretold_145 rfl ?_
      refine x_aload_n dX12_foretold_147 rfl ?_
      refine x_getR (b := 315) dX12_foretold_148 gf_RX12_47 (k_ob_306 cs) (fun _ _ => rfl) (k_r_306_25 cs) ?_
      refine x_iload dX12_foretold_151 rfl ?_
      refine x_iaload dX12_foretold_153 (k_ar_315 cs) (by omega) (by omega) ?_
      refine x_iastore dX12_foretold_154 (k_ar_307 cs) (by omega) (by omega) ?_
      refine x_iinc (lv2 := [(5, _), (0, _), (4, _)]) dX12_foretold_155 rfl (by decide) rfl ?_
      refine x_goto 134 dX12_foretold_158 (by decide) ?_
      refine x_sub [1, 2, 0] rfl ?_
      rw [tN, hF 315 (by omega), h315 k (by omega) (by omega)]
      refine ih _ (by omega) (k + 1) _ (by omega) (by omega) rfl (fun i => ?_) (F7.tr hF (fun c hc => uI_row hc))
      by_cases e : i = k
      · rw [e, uI_s, if_pos (by omega)]
      · rw [uI_o (Or.inr e), hJ i]
        by_cases e2 : 7 ≤ i ∧ i < k
        · rw [if_pos e2, if_pos (by omega)]
        · rw [if_neg e2, if_neg (by omega)]
theorem sp_X12_foretold {mm q w : Int} (cs : CS S R) (hA : I 307 = A) (hb : BA A) (hT : RTx (I 309) A tx) (hz : I 306 23 = 1) (hm : Rg mm) (hq : Rg q) (hw : Rg w) (hn : 7 ≤ n) (hp : ∀ I', Fo I I' → Post (some (.int (iI (f_foretold A tx mm q w)))) S I' R) : Call n 0 0 mX12_foretold [.ref (S.2.1 306), .int (iI mm), .int (iI q), .int (iI w)] S I R Post := by
  have b0 := hb.1.1
  have b1 := hb.2.1.1
  have b2 := hb.2.1.2.1
  have b3 := hb.2.1.2.2.1
  have b4 := hb.2.1.2.2.2.1
  have b5 := hb.2.1.2.2.2.2.1
  have b6 := hb.2.1.2.2.2.2.2.1
  have b114 := hb.2.1.2.2.2.2.2.2
  have b7 : 0 ≤ A 7 ∧ A 7 ≤ 9999 := hb.1.2.1
  have b8 : 0 ≤ A 8 ∧ A 8 ≤ 30870 := hb.1.2.2.1
  have b9 : 0 ≤ A 9 ∧ A 9 ≤ 9999 := hb.1.2.2.2.1
  have b10 : 0 ≤ A 10 ∧ A 10 ≤ 1 := hb.1.2.2.2.2.1
  have b11 := BA_11 hb
  unfold f_foretold at hp
  refine Call.of (by decide +kernel) (Nat.le_of_ble_eq_true rfl) ?_
  show WP _ _ _ _ _ 0 [(0, _), (1, _), (2, _), (3, _)] [] 0 0 _ _ _
  refine x_iload_n dX12_foretold_0 rfl ?_
  refine x_iconst dX12_foretold_1 ?_
  refine x_bipush dX12_foretold_2 (by decide) ?_
  refine x_callS3 (mc1 := 0) (ms1 := 0) dX12_foretold_4 cv_RX12_81 (Nat.le_of_ble_eq_true rfl) (n1 := n - 1) (by omega) (by omega) (by omega) ?_
  refine sp_X12_isIn (by omega) (by omega) (by omega) (fun r4 hr4 => ?_)
  refine x_if_eq 27 dX12_foretold_7 (by decide) (by omega) (fun w7 => ?_) (fun w7 => ?_)
  · refine x_bipush dX12_foretold_27 (by decide) ?_
    exact x_ireturn dX12_foretold_29 rfl (by omega) (by omega) (by rw [if_neg (by omega)] at hp; exact hp _ ⟨fun _ _ _ _ _ _ => rfl, fun _ _ => rfl⟩)
  · refine x_aload_n dX12_foretold_10 rfl ?_
    refine x_iload_n dX12_foretold_11 rfl ?_
    refine x_callV1 (mc1 := 0) (ms1 := 0) dX12_foretold_12 cv_RX12_342 (ci := 12) (k_ob_306 cs) rfl (Nat.le_of_ble_eq_true rfl) (n1 := n - 1) (by omega) (by omega) (by omega) ?_
    refine sp_X12_isQuarrel cs hA (by omega) (by omega) (by omega) (fun r12 hr12 => ?_)
    refine x_if_eq 27 dX12_foretold_15 (by decide) (by omega) (fun w15 => ?_) (fun w15 => ?_)
    · refine x_bipush dX12_foretold_27 (by decide) ?_
      exact x_ireturn dX12_foretold_29 rfl (by omega) (by omega) (by rw [if_neg (by omega)] at hp; exact hp _ ⟨fun _ _ _ _ _ _ => rfl, fun _ _ => rfl⟩)
    · refine x_iload_n dX12_foretold_18 rfl ?_
      refine x_iconst dX12_foretold_19 ?_
      refine x_iconst dX12_foretold_20 ?_
      refine x_callS3 (mc1 := 0) (ms1 := 0) dX12_foretold_21 cv_RX12_81 (Nat.le_of_ble_eq_true rfl) (n1 := n - 1) (by omega) (by omega) (by omega) ?_
      refine sp_X12_isIn (by omega) (by omega) (by omega) (fun r21 hr21 => ?_)
      refine x_if_ne 30 dX12_foretold_24 (by decide) (by omega) (fun w24 => ?_) (fun w24 => ?_)
      · refine x_bipush dX12_foretold_30 (by decide) ?_
        refine x_istore (lv2 := [(4, _), (0, _), (1, _), (2, _), (3, _)]) dX12_foretold_32 (by decide) rfl ?_
        refine x_sub [1, 2, 3, 4, 0] rfl ?_
        rw [if_pos (by omega)] at hp
        refine lp1_fore cs hA (fun J1 h1 f1 => ?_) _ 7 I (by omega) (by omega) rfl (fun i _ _ => by omega) (fun c _ => rfl)
        refine x_aload_n dX12_foretold_61 rfl ?_
        refine x_iconst dX12_foretold_62 ?_
        refine x_putZ dX12_foretold_63 gf_RX12_43 (k_ob_306 cs) rfl (by omega) ?_
        refine x_iconst dX12_foretold_66 ?_
        refine x_istore (lv2 := [(4, _), (0, _), (1, _), (2, _), (3, _)]) dX12_foretold_67 (by decide) rfl ?_
        refine x_sub [1, 2, 3, 4, 0] rfl ?_
        have f0 : ∀ c, c ≠ 306 → c ≠ 315 → uI J1 306 23 0 c = I c := fun c hc h2 => by rw [uI_row hc]; exact f1 c h2
        refine lp2_fore (I := uI J1 306 23 0) (A := A) (tx := tx) cs hb (by rw [f0 309 (by omega) (by omega)]; exact hT) (by omega) (by rw [uI_s]) (by omega) (fun J2 a2 f2 => ?_) _ 0 _ (by omega) rfl (by rw [f0 307 (by omega) (by omega)]; exact hA) FP.rf
        obtain ⟨i1, i2, i3, i4⟩ := fo_k (tx := tx) hb mm.toNat
        have hN := BN_ag (AgB_n i2) (BA_bn i1)
        have b02 := hN.1
        have e0 := i3 0 (by omega)
        have h315 : ∀ i, 7 ≤ i → i < 36 → J2 315 i = A i := fun i g1 g2 => by rw [f2.1 315 (by omega) (by omega) (by omega) (by omega) (by omega), uI_row (by omega)]; exact h1 i g1 g2
        have hEnd : ∀ (J3 : CI) (v : Int), (∀ c, c ≠ 312 → c ≠ 313 → c ≠ 314 → J3 c = J2 c) → v = f_fore (foL A tx mm.toNat) tx q.toNat w → WP n 0 0 mX12_foretold Post 128 [(0, .ref (S.2.1 306)), (1, .int (iI mm)), (2, .int (iI q)), (3, .int (iI w))] [.int (iI v)] 0 0 S J3 R := by
          intro J3 v f3 hv
          refine x_istore (lv2 := [(4, _), (0, _), (1, _), (2, _), (3, _)]) dX12_foretold_128 (by decide) rfl ?_
          refine x_bipush dX12_foretold_130 (by decide) ?_
          refine x_istore (lv2 := [(5, _), (4, _), (0, _), (1, _), (2, _), (3, _)]) dX12_foretold_132 (by decide) rfl ?_
          refine x_sub [2, 1, 0] rfl ?_
          refine lp3_fore (I := J3) (A := A) (B := foR A tx mm.toNat) cs (fun i g1 g2 => by rw [f3 315 (by omega) (by omega) (by omega)]; exact h315 i g1 g2) (fun J4 h4 f4 => ?_) _ 7 J3 (by omega) (by omega) rfl (fun i => by rw [if_neg (by omega), f3 307 (by omega) (by omega) (by omega), a2]) F7.rf
          refine x_aload_n dX12_foretold_161 rfl ?_
          refine x_iconst dX12_foretold_162 ?_
          refine x_putZ dX12_foretold_163 gf_RX12_43 (k_ob_306 cs) rfl (by omega) ?_
          refine x_iload dX12_foretold_166 rfl ?_
          refine x_ireturn dX12_foretold_168 rfl (by omega) (by omega) ?_
          rw [hv]
          refine hp _ ⟨fun c c1 c2 c3 c4 c5 => ?_, fun k hk => ?_⟩
          · rw [uI_row c1]
            by_cases c7 : c = 307
            · subst c7
              funext i
              rw [h4 i, hA]
              by_cases e2 : 7 ≤ i ∧ i < 36
              · rw [if_pos e2]
              · rw [if_neg e2]; exact i3 i (by omega)
            · rw [f4 c c7, f3 c c2 c3 c4, f2.1 c c1 c7 c2 c3 c4, f0 c c1 c5]
          · by_cases h23 : k = 23
            · subst h23; rw [uI_s, hz]
            · rw [uI_o (Or.inr h23), f4 306 (by omega), f3 306 (by omega) (by omega) (by omega), f2.2 k hk, uI_o (Or.inr h23), f1 306 (by omega)]
        have eh := i2 (12 + 3 * q.toNat) (by omega) (by omega)
        have ee := i2 (14 + 3 * q.toNat) (by omega) (by omega)
        have ed := du_ag (tx := tx) (AgB_n i2) i1.1.1.2 (q := q.toNat) (by omega) (foL A tx mm.toNat 2) 0 (foL A tx mm.toNat 9)
        have e2 := i2 2 (by omega) (by omega)
        have e9 := i2 9 (by omega) (by omega)
        have hT2 : RTx (J2 309) (foR A tx mm.toNat) tx := by rw [f2.1 309 (by omega) (by omega) (by omega) (by omega) (by omega), f0 309 (by omega) (by omega)]; exact fun t ht => hT t (by rw [i3 1 (by omega)] at ht; exact ht)
        refine x_iload_n dX12_foretold_98 rfl ?_
        refine x_if_ne 110 dX12_foretold_99 (by decide) (by omega) (fun w99 => ?_) (fun w99 => ?_)
        · refine x_iload_n dX12_foretold_110 rfl ?_
          refine x_iconst dX12_foretold_111 ?_
          refine x_icmp_ne 123 dX12_foretold_112 (by decide) ⟨(by omega), (by omega)⟩ (fun w112 => ?_) (fun w112 => ?_)
          · refine x_aload_n dX12_foretold_123 rfl ?_
            refine x_iload_n dX12_foretold_124 rfl ?_
            refine x_callV1 (mc1 := 0) (ms1 := 0) dX12_foretold_125 cv_RX12_330 (ci := 12) (k_ob_306 cs) rfl (Nat.le_of_ble_eq_true rfl) (n1 := n - 1) (by omega) (by omega) (by omega) ?_
            refine sp_X12_duesOf_z cs a2 hN hT2 (by omega) (by omega) (fun J5 f5 => ?_)
            exact hEnd J5 _ f5 (by rw [e2, e9, ed]; unfold f_fore; rw [if_neg (by omega), if_neg (by omega)])
          · refine x_aload_n dX12_foretold_115 rfl ?_
            refine x_iload_n dX12_foretold_116 rfl ?_
            refine x_callV1 (mc1 := 0) (ms1 := 0) dX12_foretold_117 cv_RX12_281 (ci := 12) (k_ob_306 cs) rfl (Nat.le_of_ble_eq_true rfl) (n1 := n - 1) (by omega) (by omega) (by omega) ?_
            refine sp_X12_heatOf_z cs a2 (by omega) ?_
            refine x_goto 128 dX12_foretold_120 (by decide) ?_
            exact hEnd J2 _ (fun c _ _ _ => rfl) (by rw [ee]; unfold f_fore; rw [if_neg (by omega), if_pos (by omega)])
        · refine x_aload_n dX12_foretold_102 rfl ?_
          refine x_iload_n dX12_foretold_103 rfl ?_
          refine x_callV1 (mc1 := 0) (ms1 := 0) dX12_foretold_104 cv_RX12_85 (ci := 12) (k_ob_306 cs) rfl (Nat.le_of_ble_eq_true rfl) (n1 := n - 1) (by omega) (by omega) (by omega) ?_
          refine sp_X12_howOf_z cs a2 (by omega) ?_
          refine x_goto 128 dX12_foretold_107 (by decide) ?_
          exact hEnd J2 _ (fun c _ _ _ => rfl) (by rw [eh]; unfold f_fore; rw [if_pos (by omega)])
      · refine x_bipush dX12_foretold_27 (by decide) ?_
        exact x_ireturn dX12_foretold_29 rfl (by omega) (by omega) (by rw [if_neg (by omega)] at hp; exact hp _ ⟨fun _ _ _ _ _ _ => rfl, fun _ _ => rfl⟩)
end Ref14
