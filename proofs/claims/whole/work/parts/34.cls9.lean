section Cls9
variable {n : Nat} {Post : PT} {S : Sh} {I : CI} {R : CR} {A : Nat → Int} {tx : Nat → Nat → Int}
noncomputable def whL (A : Nat → Int) (tx : Nat → Nat → Int) : Nat → Int
  | 0 => 0
  | k + 1 => @ite _ (agP A tx k (A 6).toNat) (Classical.propDecidable _) (orI (whL A tx k) (shlI 1 k)) (whL A tx k)
theorem dX11_whose_0 : decode prog_1_method_41_code 0 = .ok (.iconst 0, 1) := by decide +kernel
theorem dX11_whose_1 : decode prog_1_method_41_code 1 = .ok (.istore_n 1, 1) := by decide +kernel
theorem dX11_whose_2 : decode prog_1_method_41_code 2 = .ok (.iconst 0, 1) := by decide +kernel
theorem dX11_whose_3 : decode prog_1_method_41_code 3 = .ok (.istore_n 2, 1) := by decide +kernel
theorem dX11_whose_4 : decode prog_1_method_41_code 4 = .ok (.iload_n 2, 1) := by decide +kernel
theorem dX11_whose_5 : decode prog_1_method_41_code 5 = .ok (.aload_n 0, 1) := by decide +kernel
theorem dX11_whose_6 : decode prog_1_method_41_code 6 = .ok (.getfield 10, 3) := by decide +kernel
theorem dX11_whose_9 : decode prog_1_method_41_code 9 = .ok (.getfield 93, 3) := by decide +kernel
theorem dX11_whose_12 : decode prog_1_method_41_code 12 = .ok (.if_icmp .ge 26, 3) := by decide +kernel
theorem dX11_whose_15 : decode prog_1_method_41_code 15 = .ok (.aload_n 0, 1) := by decide +kernel
theorem dX11_whose_16 : decode prog_1_method_41_code 16 = .ok (.getfield 24, 3) := by decide +kernel
theorem dX11_whose_19 : decode prog_1_method_41_code 19 = .ok (.iload_n 2, 1) := by decide +kernel
theorem dX11_whose_20 : decode prog_1_method_41_code 20 = .ok (.invokevirtual 342, 3) := by decide +kernel
theorem dX11_whose_23 : decode prog_1_method_41_code 23 = .ok (.ifCond .eq 9, 3) := by decide +kernel
theorem dX11_whose_26 : decode prog_1_method_41_code 26 = .ok (.iload_n 1, 1) := by decide +kernel
theorem dX11_whose_27 : decode prog_1_method_41_code 27 = .ok (.iconst 1, 1) := by decide +kernel
theorem dX11_whose_28 : decode prog_1_method_41_code 28 = .ok (.iload_n 2, 1) := by decide +kernel
theorem dX11_whose_29 : decode prog_1_method_41_code 29 = .ok (.ishl, 1) := by decide +kernel
theorem dX11_whose_30 : decode prog_1_method_41_code 30 = .ok (.ior, 1) := by decide +kernel
theorem dX11_whose_31 : decode prog_1_method_41_code 31 = .ok (.istore_n 1, 1) := by decide +kernel
theorem dX11_whose_32 : decode prog_1_method_41_code 32 = .ok (.iinc 2 1, 3) := by decide +kernel
theorem dX11_whose_35 : decode prog_1_method_41_code 35 = .ok (.goto (-31), 3) := by decide +kernel
theorem dX11_whose_38 : decode prog_1_method_41_code 38 = .ok (.iload_n 1, 1) := by decide +kernel
theorem dX11_whose_39 : decode prog_1_method_41_code 39 = .ok (.ireturn, 1) := by decide +kernel
theorem lp_X11_whose (cs : CS S R) (hn : 5 ≤ n) (hp : ∀ I', Fl I I' → SK I' → Post (some (.int (iI (whL A tx (A 1).toNat)))) S I' R) : ∀ (d k : Nat) (J : CI), (k : Int) ≤ A 1 → (A 1).toNat - k = d → CIv S R J A tx → Fl I J → WP n 0 0 mX11_whose Post 4 [(0, .ref (S.2.1 0)), (1, .int (iI (whL A tx k))), (2, .int (iI (k : Int)))] [] 0 0 S J R := by
  intro d
  induction d using Nat.strongRecOn with
  | ind d ih =>
    intro k J k1 k2 hv hF
    obtain ⟨hc, hb, hw, hk⟩ := id hv
    obtain ⟨⟨⟨c0, c7, c8, c9, c10, c11⟩, cq⟩, ⟨⟨t1, t2, t3, t4, t5, t6, t7, t8, t9⟩, tq, th, tb, ts, td⟩, cb, cp⟩ := id hc
    dsimp only [Nat.reduceAdd] at c0 c7 c8 c9 c10 c11 cq t1 t2 t3 t4 t5 t6 t7 t8 t9 tq th tb ts td
    obtain ⟨⟨b0, b1, b2, b3, b4, bq, bl⟩, ⟨d1, d2, d3, d4, d5, d6, d7⟩, dq, dh, db, ds, dd, dp⟩ := id hb
    have b7 : 0 ≤ A 7 ∧ A 7 ≤ 9999 := b1
    have b8 : 0 ≤ A 8 ∧ A 8 ≤ 30870 := b2
    have b9 : 0 ≤ A 9 ∧ A 9 ≤ 9999 := b3
    have b10 : 0 ≤ A 10 ∧ A 10 ≤ 1 := b4
    have b11 : 0 ≤ A 11 ∧ A 11 ≤ 16 := by have h1 := lns_b (fun q => A (6 + 6 + 3 * q)) (A 0).toNat; have h2 : A 11 = _ := bl; omega
    refine x_iload_n dX11_whose_4 rfl ?_
    refine x_aload_n dX11_whose_5 rfl ?_
    refine x_getR (b := 1) dX11_whose_6 gf_RX11_10 (k_ob_0 cs) (fun _ _ => rfl) (k_r_0_0 cs) ?_
    refine x_getI dX11_whose_9 gf_RX11_93 (k_ob_1 cs) (fun _ _ => rfl) ?_
    refine x_icmp_ge 38 dX11_whose_12 (by decide) ⟨(by omega), (by omega)⟩ (fun w12 => ?_) (fun w12 => ?_)
    · refine x_iload_n dX11_whose_38 rfl ?_
      exact x_ireturn dX11_whose_39 rfl (by omega) (by omega) (by obtain rfl : k = (A 1).toNat := (by omega); exact hp _ hF hk)
    · refine x_aload_n dX11_whose_15 rfl ?_
      refine x_getR (b := 279) dX11_whose_16 gf_RX11_24 (k_ob_0 cs) (fun _ _ => rfl) (k_r_0_2 cs) ?_
      refine x_iload_n dX11_whose_19 rfl ?_
      refine x_callV1 (mc1 := 0) (ms1 := 0) dX11_whose_20 cv_RX11_342 (ci := 3) (k_ob_279 cs) rfl (Nat.le_of_ble_eq_true rfl) (n1 := n - 1) (by omega) (by omega) (by omega) ?_
      refine sp_X3_agrees cs hv (by omega) (by omega) (fun I20 r20 hF20 hS20 hr20 => ?_)
      refine x_if_eq 32 dX11_whose_23 (by decide) (by omega) (fun w23 => ?_) (fun w23 => ?_)
      · refine x_iinc (lv2 := [(2, _), (0, _), (1, _)]) dX11_whose_32 rfl (by decide) rfl ?_
        refine x_goto 4 dX11_whose_35 (by decide) ?_
        refine x_sub [1, 2, 0] rfl ?_
        have hg := ih _ (by omega) (k + 1) I20 (by omega) rfl (hv.l hF20 hS20) (hF.tr hF20)
        rcases hr20 with hh | hh
        · have es : whL A tx (k + 1) = orI (whL A tx k) (shlI 1 k) := by simp only [whL]; exact @if_pos _ (Classical.propDecidable _) hh.2 _ _ _
          rw [es] at hg
          first | exact hg | (exfalso; omega)
        · have es : whL A tx (k + 1) = whL A tx k := by simp only [whL]; exact @if_neg _ (Classical.propDecidable _) hh.2 _ _ _
          rw [es] at hg
          first | exact hg | (exfalso; omega)
      · refine x_iload_n dX11_whose_26 rfl ?_
        refine x_iconst dX11_whose_27 ?_
        refine x_iload_n dX11_whose_28 rfl ?_
        refine x_ishl dX11_whose_29 ?_
        refine x_ior dX11_whose_30 ?_
        refine x_istore_n (lv2 := [(1, _), (0, _), (2, _)]) dX11_whose_31 (by decide) rfl ?_
        refine x_iinc (lv2 := [(2, _), (1, _), (0, _)]) dX11_whose_32 rfl (by decide) rfl ?_
        refine x_goto 4 dX11_whose_35 (by decide) ?_
        refine x_sub [2, 1, 0] rfl ?_
        have hg := ih _ (by omega) (k + 1) I20 (by omega) rfl (hv.l hF20 hS20) (hF.tr hF20)
        rcases hr20 with hh | hh
        · have es : whL A tx (k + 1) = orI (whL A tx k) (shlI 1 k) := by simp only [whL]; exact @if_pos _ (Classical.propDecidable _) hh.2 _ _ _
          rw [es] at hg
          first | exact hg | (exfalso; omega)
        · have es : whL A tx (k + 1) = whL A tx k := by simp only [whL]; exact @if_neg _ (Classical.propDecidable _) hh.2 _ _ _
          rw [es] at hg
          first | exact hg | (exfalso; omega)
theorem sp_X11_whose  (cs : CS S R) (hv : CIv S R I A tx) (hn : 5 ≤ n) (hp : ∀ I', Fl I I' → SK I' → Post (some (.int (iI (whL A tx (A 1).toNat)))) S I' R) : Call n 0 0 mX11_whose [.ref (S.2.1 0)] S I R Post := by
  have b1 := hv.2.1.2.1.1
  refine Call.of (by decide +kernel) (Nat.le_of_ble_eq_true rfl) ?_
  show WP _ _ _ _ _ 0 [(0, _)] [] 0 0 _ _ _
  refine x_iconst dX11_whose_0 ?_
  refine x_istore_n (lv2 := [(1, _), (0, _)]) dX11_whose_1 (by decide) rfl ?_
  refine x_iconst dX11_whose_2 ?_
  refine x_istore_n (lv2 := [(2, _), (1, _), (0, _)]) dX11_whose_3 (by decide) rfl ?_
  refine x_sub [2, 1, 0] rfl ?_
  exact lp_X11_whose cs hn hp _ 0 I (by omega) rfl hv Fl.rf
def mkF (A : Nat → Int) : Nat → ((Nat → Int) × (Nat → Int)) × (Int × Int)
  | 0 => ((fun _ => 0, fun _ => 0), (0, 0))
  | k + 1 => if A (75 + 2 * k) = 1 then ((insF (A (74 + 2 * k)) 1 (mkF A k).2.1.toNat (mkF A k).1.1, (mkF A k).1.2), ((mkF A k).2.1 + 1, (mkF A k).2.2)) else (((mkF A k).1.1, insF (A (74 + 2 * k)) 0 (mkF A k).2.2.toNat (mkF A k).1.2), ((mkF A k).2.1, (mkF A k).2.2 + 1))
theorem mkF_n (A : Nat → Int) : ∀ k : Nat, 0 ≤ (mkF A k).2.1 ∧ 0 ≤ (mkF A k).2.2 ∧ (mkF A k).2.1 + (mkF A k).2.2 = k := by
  intro k
  induction k with
  | zero => exact ⟨Int.le_refl _, Int.le_refl _, rfl⟩
  | succ k ih => simp only [mkF]; split <;> (dsimp only; omega)
/-- the dealer's cells hold these rows -/
def MKr (I : CI) (p : ((Nat → Int) × (Nat → Int)) × (Int × Int)) : Prop := (I 303 3 = p.2.1 ∧ I 303 4 = p.2.2) ∧ (∀ i : Nat, (i : Int) < p.2.1 → I 304 i = p.1.1 i) ∧ (∀ i : Nat, (i : Int) < p.2.2 → I 305 i = p.1.2 i) ∧ (∀ k, k < 10 → 0 ≤ I 304 k ∧ I 304 k ≤ 99) ∧ (∀ k, k < 10 → 0 ≤ I 305 k ∧ I 305 k ≤ 99)
def Fdl (I I' : CI) : Prop := ∀ c, c ≠ 303 → c ≠ 304 → c ≠ 305 → I' c = I c
def DK (I : CI) : Prop := (∀ k, k < 10 → 0 ≤ I 304 k ∧ I 304 k ≤ 99) ∧ (∀ k, k < 10 → 0 ≤ I 305 k ∧ I 305 k ≤ 99)
def trd (br sr : Nat → Int) (bc sc : Int) : Nat → Nat → Nat
  | 0, t => t
  | f + 1, t => if (t : Int) < bc ∧ (t : Int) < sc ∧ sr t ≤ br t then trd br sr bc sc f (t + 1) else t
def tradesA (A : Nat → Int) : Nat := trd (mkF A (A 5).toNat).1.1 (mkF A (A 5).toNat).1.2 (mkF A (A 5).toNat).2.1 (mkF A (A 5).toNat).2.2 11 0
theorem trd_le {br sr : Nat → Int} {bc sc : Int} : ∀ (f t : Nat), (t : Int) ≤ bc → (t : Int) ≤ sc → (trd br sr bc sc f t : Int) ≤ bc ∧ (trd br sr bc sc f t : Int) ≤ sc := by
  intro f
  induction f with
  | zero => intro t h1 h2; exact ⟨h1, h2⟩
  | succ f ih =>
    intro t h1 h2
    simp only [trd]
    split
    · exact ih (t + 1) (by omega) (by omega)
    · exact ⟨h1, h2⟩
theorem dX1_findTrades_0 : decode prog_3_method_2_code 0 = .ok (.aload_n 0, 1) := by decide +kernel
theorem dX1_findTrades_1 : decode prog_3_method_2_code 1 = .ok (.iconst 0, 1) := by decide +kernel
theorem dX1_findTrades_2 : decode prog_3_method_2_code 2 = .ok (.putfield 22, 3) := by decide +kernel
theorem dX1_findTrades_5 : decode prog_3_method_2_code 5 = .ok (.aload_n 0, 1) := by decide +kernel
theorem dX1_findTrades_6 : decode prog_3_method_2_code 6 = .ok (.iconst 0, 1) := by decide +kernel
theorem dX1_findTrades_7 : decode prog_3_method_2_code 7 = .ok (.putfield 26, 3) := by decide +kernel
theorem dX1_findTrades_10 : decode prog_3_method_2_code 10 = .ok (.iconst 0, 1) := by decide +kernel
theorem dX1_findTrades_11 : decode prog_3_method_2_code 11 = .ok (.istore_n 1, 1) := by decide +kernel
theorem dX1_findTrades_12 : decode prog_3_method_2_code 12 = .ok (.iload_n 1, 1) := by decide +kernel
theorem dX1_findTrades_13 : decode prog_3_method_2_code 13 = .ok (.aload_n 0, 1) := by decide +kernel
theorem dX1_findTrades_14 : decode prog_3_method_2_code 14 = .ok (.getfield 18, 3) := by decide +kernel
theorem dX1_findTrades_17 : decode prog_3_method_2_code 17 = .ok (.getfield 29, 3) := by decide +kernel
theorem dX1_findTrades_20 : decode prog_3_method_2_code 20 = .ok (.if_icmp .ge 87, 3) := by decide +kernel
theorem dX1_findTrades_23 : decode prog_3_method_2_code 23 = .ok (.aload_n 0, 1) := by decide +kernel
theorem dX1_findTrades_24 : decode prog_3_method_2_code 24 = .ok (.getfield 18, 3) := by decide +kernel
theorem dX1_findTrades_27 : decode prog_3_method_2_code 27 = .ok (.getfield 34, 3) := by decide +kernel
theorem dX1_findTrades_30 : decode prog_3_method_2_code 30 = .ok (.iload_n 1, 1) := by decide +kernel
theorem dX1_findTrades_31 : decode prog_3_method_2_code 31 = .ok (.iaload, 1) := by decide +kernel
theorem dX1_findTrades_32 : decode prog_3_method_2_code 32 = .ok (.iconst 1, 1) := by decide +kernel
theorem dX1_findTrades_33 : decode prog_3_method_2_code 33 = .ok (.if_icmp .ne 37, 3) := by decide +kernel
theorem dX1_findTrades_36 : decode prog_3_method_2_code 36 = .ok (.aload_n 0, 1) := by decide +kernel
theorem dX1_findTrades_37 : decode prog_3_method_2_code 37 = .ok (.getfield 9, 3) := by decide +kernel
theorem dX1_findTrades_40 : decode prog_3_method_2_code 40 = .ok (.aload_n 0, 1) := by decide +kernel
theorem dX1_findTrades_41 : decode prog_3_method_2_code 41 = .ok (.getfield 22, 3) := by decide +kernel
theorem dX1_findTrades_44 : decode prog_3_method_2_code 44 = .ok (.aload_n 0, 1) := by decide +kernel
theorem dX1_findTrades_45 : decode prog_3_method_2_code 45 = .ok (.getfield 18, 3) := by decide +kernel
theorem dX1_findTrades_48 : decode prog_3_method_2_code 48 = .ok (.getfield 37, 3) := by decide +kernel
theorem dX1_findTrades_51 : decode prog_3_method_2_code 51 = .ok (.iload_n 1, 1) := by decide +kernel
theorem dX1_findTrades_52 : decode prog_3_method_2_code 52 = .ok (.iaload, 1) := by decide +kernel
theorem dX1_findTrades_53 : decode prog_3_method_2_code 53 = .ok (.iconst 1, 1) := by decide +kernel
theorem dX1_findTrades_54 : decode prog_3_method_2_code 54 = .ok (.invokestatic 40, 3) := by decide +kernel
theorem dX1_findTrades_57 : decode prog_3_method_2_code 57 = .ok (.aload_n 0, 1) := by decide +kernel
theorem dX1_findTrades_58 : decode prog_3_method_2_code 58 = .ok (.dup, 1) := by decide +kernel
theorem dX1_findTrades_59 : decode prog_3_method_2_code 59 = .ok (.getfield 22, 3) := by decide +kernel
theorem dX1_findTrades_62 : decode prog_3_method_2_code 62 = .ok (.iconst 1, 1) := by decide +kernel
theorem dX1_findTrades_63 : decode prog_3_method_2_code 63 = .ok (.iadd, 1) := by decide +kernel
theorem dX1_findTrades_64 : decode prog_3_method_2_code 64 = .ok (.putfield 22, 3) := by decide +kernel
theorem dX1_findTrades_67 : decode prog_3_method_2_code 67 = .ok (.goto 34, 3) := by decide +kernel
theorem dX1_findTrades_70 : decode prog_3_method_2_code 70 = .ok (.aload_n 0, 1) := by decide +kernel
theorem dX1_findTrades_71 : decode prog_3_method_2_code 71 = .ok (.getfield 15, 3) := by decide +kernel
theorem dX1_findTrades_74 : decode prog_3_method_2_code 74 = .ok (.aload_n 0, 1) := by decide +kernel
theorem dX1_findTrades_75 : decode prog_3_method_2_code 75 = .ok (.getfield 26, 3) := by decide +kernel
theorem dX1_findTrades_78 : decode prog_3_method_2_code 78 = .ok (.aload_n 0, 1) := by decide +kernel
theorem dX1_findTrades_79 : decode prog_3_method_2_code 79 = .ok (.getfield 18, 3) := by decide +kernel
theorem dX1_findTrades_82 : decode prog_3_method_2_code 82 = .ok (.getfield 37, 3) := by decide +kernel
theorem dX1_findTrades_85 : decode prog_3_method_2_code 85 = .ok (.iload_n 1, 1) := by decide +kernel
theorem dX1_findTrades_86 : decode prog_3_method_2_code 86 = .ok (.iaload, 1) := by decide +kernel
theorem dX1_findTrades_87 : decode prog_3_method_2_code 87 = .ok (.iconst 0, 1) := by decide +kernel
theorem dX1_findTrades_88 : decode prog_3_method_2_code 88 = .ok (.invokestatic 40, 3) := by decide +kernel
theorem dX1_findTrades_91 : decode prog_3_method_2_code 91 = .ok (.aload_n 0, 1) := by decide +kernel
theorem dX1_findTrades_92 : decode prog_3_method_2_code 92 = .ok (.dup, 1) := by decide +kernel
theorem dX1_findTrades_93 : decode prog_3_method_2_code 93 = .ok (.getfield 26, 3) := by decide +kernel
theorem dX1_findTrades_96 : decode prog_3_method_2_code 96 = .ok (.iconst 1, 1) := by decide +kernel
theorem dX1_findTrades_97 : decode prog_3_method_2_code 97 = .ok (.iadd, 1) := by decide +kernel
theorem dX1_findTrades_98 : decode prog_3_method_2_code 98 = .ok (.putfield 26, 3) := by decide +kernel
theorem dX1_findTrades_101 : decode prog_3_method_2_code 101 = .ok (.iinc 1 1, 3) := by decide +kernel
theorem dX1_findTrades_104 : decode prog_3_method_2_code 104 = .ok (.goto (-92), 3) := by decide +kernel
theorem dX1_findTrades_107 : decode prog_3_method_2_code 107 = .ok (.iconst 0, 1) := by decide +kernel
theorem dX1_findTrades_108 : decode prog_3_method_2_code 108 = .ok (.istore_n 1, 1) := by decide +kernel
theorem dX1_findTrades_109 : decode prog_3_method_2_code 109 = .ok (.iload_n 1, 1) := by decide +kernel
theorem dX1_findTrades_110 : decode prog_3_method_2_code 110 = .ok (.aload_n 0, 1) := by decide +kernel
theorem dX1_findTrades_111 : decode prog_3_method_2_code 111 = .ok (.getfield 22, 3) := by decide +kernel
theorem dX1_findTrades_114 : decode prog_3_method_2_code 114 = .ok (.if_icmp .ge 32, 3) := by decide +kernel
theorem dX1_findTrades_117 : decode prog_3_method_2_code 117 = .ok (.iload_n 1, 1) := by decide +kernel
theorem dX1_findTrades_118 : decode prog_3_method_2_code 118 = .ok (.aload_n 0, 1) := by decide +kernel
theorem dX1_findTrades_119 : decode prog_3_method_2_code 119 = .ok (.getfield 26, 3) := by decide +kernel
theorem dX1_findTrades_122 : decode prog_3_method_2_code 122 = .ok (.if_icmp .ge 24, 3) := by decide +kernel
theorem dX1_findTrades_125 : decode prog_3_method_2_code 125 = .ok (.aload_n 0, 1) := by decide +kernel
theorem dX1_findTrades_126 : decode prog_3_method_2_code 126 = .ok (.getfield 9, 3) := by decide +kernel
theorem dX1_findTrades_129 : decode prog_3_method_2_code 129 = .ok (.iload_n 1, 1) := by decide +kernel
theorem dX1_findTrades_130 : decode prog_3_method_2_code 130 = .ok (.iaload, 1) := by decide +kernel
theorem dX1_findTrades_131 : decode prog_3_method_2_code 131 = .ok (.aload_n 0, 1) := by decide +kernel
theorem dX1_findTrades_132 : decode prog_3_method_2_code 132 = .ok (.getfield 15, 3) := by decide +kernel
theorem dX1_findTrades_135 : decode prog_3_method_2_code 135 = .ok (.iload_n 1, 1) := by decide +kernel
theorem dX1_findTrades_136 : decode prog_3_method_2_code 136 = .ok (.iaload, 1) := by decide +kernel
theorem dX1_findTrades_137 : decode prog_3_method_2_code 137 = .ok (.if_icmp .lt 9, 3) := by decide +kernel
theorem dX1_findTrades_140 : decode prog_3_method_2_code 140 = .ok (.iinc 1 1, 3) := by decide +kernel
theorem dX1_findTrades_143 : decode prog_3_method_2_code 143 = .ok (.goto (-34), 3) := by decide +kernel
theorem dX1_findTrades_146 : decode prog_3_method_2_code 146 = .ok (.iload_n 1, 1) := by decide +kernel
theorem dX1_findTrades_147 : decode prog_3_method_2_code 147 = .ok (.ireturn, 1) := by decide +kernel
theorem lp2_X1_findTrades (cs : CS S R) (hb5 : 0 ≤ A 5 ∧ A 5 ≤ 10) (hM : MKr I (mkF A (A 5).toNat)) (hp : Post (some (.int (iI (tradesA A : Int)))) S I R) : ∀ (f t : Nat), t + f = 11 → (t : Int) ≤ (mkF A (A 5).toNat).2.1 → (t : Int) ≤ (mkF A (A 5).toNat).2.2 → trd (mkF A (A 5).toNat).1.1 (mkF A (A 5).toNat).1.2 (mkF A (A 5).toNat).2.1 (mkF A (A 5).toNat).2.2 f t = tradesA A → WP n 0 0 mX1_findTrades Post 109 [(0, .ref (S.2.1 303)), (1, .int (iI (t : Int)))] [] 0 0 S I R := by
  have hn5 := mkF_n A (A 5).toNat
  obtain ⟨⟨m1, m2⟩, m3, m4, m5, m6⟩ := hM
  intro f
  induction f with
  | zero => intro t h1 h2 h3 h4; exfalso; omega
  | succ f ih =>
    intro t h1 h2 h3 h4
    simp only [trd] at h4
    refine x_iload_n dX1_findTrades_109 rfl ?_
    refine x_aload_n dX1_findTrades_110 rfl ?_
    refine x_getI dX1_findTrades_111 gf_RX1_22 (k_ob_303 cs) (fun _ _ => rfl) ?_
    refine x_icmp_ge 146 dX1_findTrades_114 (by decide) ⟨(by omega), (by omega)⟩ (fun w114 => ?_) (fun w114 => ?_)
    · refine x_iload_n dX1_findTrades_146 rfl ?_
      exact x_ireturn dX1_findTrades_147 rfl (by omega) (by omega) (by rw [if_neg (by omega)] at h4; rw [h4]; exact hp)
    · refine x_iload_n dX1_findTrades_117 rfl ?_
      refine x_aload_n dX1_findTrades_118 rfl ?_
      refine x_getI dX1_findTrades_119 gf_RX1_26 (k_ob_303 cs) (fun _ _ => rfl) ?_
      refine x_icmp_ge 146 dX1_findTrades_122 (by decide) ⟨(by omega), (by omega)⟩ (fun w122 => ?_) (fun w122 => ?_)
      · refine x_iload_n dX1_findTrades_146 rfl ?_
        exact x_ireturn dX1_findTrades_147 rfl (by omega) (by omega) (by rw [if_neg (by omega)] at h4; rw [h4]; exact hp)
      · refine x_aload_n dX1_findTrades_125 rfl ?_
        refine x_getR (b := 304) dX1_findTrades_126 gf_RX1_9 (k_ob_303 cs) (fun _ _ => rfl) (k_r_303_1 cs) ?_
        refine x_iload_n dX1_findTrades_129 rfl ?_
        refine x_iaload dX1_findTrades_130 (k_ar_304 cs) (by omega) (by omega) ?_
        have g1 := m3 t (by omega)
        have g3 := m5 t (by omega)
        rw [show ((t : Nat) : Int).toNat = t by omega]
        refine x_aload_n dX1_findTrades_131 rfl ?_
        refine x_getR (b := 305) dX1_findTrades_132 gf_RX1_15 (k_ob_303 cs) (fun _ _ => rfl) (k_r_303_2 cs) ?_
        refine x_iload_n dX1_findTrades_135 rfl ?_
        refine x_iaload dX1_findTrades_136 (k_ar_305 cs) (by omega) (by omega) ?_
        have g2 := m4 t (by omega)
        have g4 := m6 t (by omega)
        rw [show ((t : Nat) : Int).toNat = t by omega]
        refine x_icmp_lt 146 dX1_findTrades_137 (by decide) ⟨(by omega), (by omega)⟩ (fun w137 => ?_) (fun w137 => ?_)
        · refine x_iload_n dX1_findTrades_146 rfl ?_
          exact x_ireturn dX1_findTrades_147 rfl (by omega) (by omega) (by rw [if_neg (by omega)] at h4; rw [h4]; exact hp)
        · refine x_iinc (lv2 := [(1, _), (0, _)]) dX1_findTrades_140 rfl (by decide) rfl ?_
          refine x_goto 109 dX1_findTrades_143 (by decide) ?_
          refine x_sub [1, 0] rfl ?_
          rw [if_pos (by omega)] at h4
          exact ih (t + 1) (by omega) (by omega) (by omega) h4
theorem lp_X1_findTrades (cs : CS S R) (hc : ClW I 1 A) (hb : BA A) (hn : 1 ≤ n) (hp : ∀ I', MKr I' (mkF A (A 5).toNat) → Fdl I I' → Post (some (.int (iI (tradesA A : Int)))) S I' R) : ∀ (d k : Nat) (J : CI), (k : Int) ≤ A 5 → (A 5).toNat - k = d → MKr J (mkF A k) → Fdl I J → WP n 0 0 mX1_findTrades Post 12 [(0, .ref (S.2.1 303)), (1, .int (iI (k : Int)))] [] 0 0 S J R := by
  obtain ⟨⟨⟨c0, c7, c8, c9, c10, c11⟩, cq⟩, ⟨⟨t1, t2, t3, t4, t5, t6, t7, t8, t9⟩, tq, th, tb, ts, td⟩, cb, cp⟩ := id hc
  dsimp only [Nat.reduceAdd] at c0 c7 c8 c9 c10 c11 cq t1 t2 t3 t4 t5 t6 t7 t8 t9 tq th tb ts td
  obtain ⟨⟨b0, b1, b2, b3, b4, bq, bl⟩, ⟨d1, d2, d3, d4, d5, d6, d7⟩, dq, dh, db, ds, dd, dp⟩ := id hb
  have b7 : 0 ≤ A 7 ∧ A 7 ≤ 9999 := b1
  have b8 : 0 ≤ A 8 ∧ A 8 ≤ 30870 := b2
  have b9 : 0 ≤ A 9 ∧ A 9 ≤ 9999 := b3
  have b10 : 0 ≤ A 10 ∧ A 10 ≤ 1 := b4
  have b11 : 0 ≤ A 11 ∧ A 11 ≤ 16 := by have h1 := lns_b (fun q => A (6 + 6 + 3 * q)) (A 0).toNat; have h2 : A 11 = _ := bl; omega
  intro d
  induction d using Nat.strongRecOn with
  | ind d ih =>
    intro k J k1 k2 hM hF
    have hkn := mkF_n A k
    obtain ⟨⟨m1, m2⟩, m3, m4, m5, m6⟩ := id hM
    obtain ⟨bn, hbn⟩ : ∃ bn : Nat, (mkF A k).2.1 = (bn : Int) := ⟨(mkF A k).2.1.toNat, by omega⟩
    obtain ⟨sn, hsn⟩ : ∃ sn : Nat, (mkF A k).2.2 = (sn : Int) := ⟨(mkF A k).2.2.toNat, by omega⟩
    have e8 : J 13 8 = A 5 := by rw [hF 13 (by omega) (by omega) (by omega)]; exact t5.symm
    refine x_iload_n dX1_findTrades_12 rfl ?_
    refine x_aload_n dX1_findTrades_13 rfl ?_
    refine x_getR (b := 13) dX1_findTrades_14 gf_RX1_18 (k_ob_303 cs) (fun _ _ => rfl) (k_r_303_0 cs) ?_
    refine x_getIv (z := A 5) dX1_findTrades_17 gf_RX1_29 (k_ob_13 cs) (fun _ _ => rfl) (by first | exact e8 | exact m1.trans hbn | exact m2.trans hsn | (rw [ho54 303 (by omega)]; exact m1) | (rw [ho88 303 (by omega)]; exact m2)) ?_
    refine x_icmp_ge 107 dX1_findTrades_20 (by decide) ⟨(by omega), (by omega)⟩ (fun w20 => ?_) (fun w20 => ?_)
    · obtain rfl : k = (A 5).toNat := by omega
      refine x_iconst dX1_findTrades_107 ?_
      refine x_istore_n (lv2 := [(1, _), (0, _)]) dX1_findTrades_108 (by decide) rfl ?_
      refine x_sub [1, 0] rfl ?_
      exact lp2_X1_findTrades cs (by omega) hM (hp _ hM hF) 11 0 rfl (by omega) (by omega) rfl
    · refine x_aload_n dX1_findTrades_23 rfl ?_
      refine x_getR (b := 13) dX1_findTrades_24 gf_RX1_18 (k_ob_303 cs) (fun _ _ => rfl) (k_r_303_0 cs) ?_
      refine x_getR (b := 17) dX1_findTrades_27 gf_RX1_34 (k_ob_13 cs) (fun _ _ => rfl) (k_r_13_3 cs) ?_
      refine x_iload_n dX1_findTrades_30 rfl ?_
      refine x_iaload dX1_findTrades_31 (k_ar_17 cs) (by omega) (by omega) ?_
      have g1 := tb k (by omega)
      have g2 := db k (by omega)
      have f1 : J 17 k = A (75 + 2 * k) := by rw [hF 17 (by omega) (by omega) (by omega)]; exact g1.2.symm
      have f2 : J 16 k = A (74 + 2 * k) := by rw [hF 16 (by omega) (by omega) (by omega)]; exact g1.1.symm
      rw [show ((k : Nat) : Int).toNat = k by omega, f1]
      refine x_iconst dX1_findTrades_32 ?_
      refine x_icmp_ne 70 dX1_findTrades_33 (by decide) ⟨(by omega), (by omega)⟩ (fun w33 => ?_) (fun w33 => ?_)
      · refine x_aload_n dX1_findTrades_70 rfl ?_
        refine x_getR (b := 305) dX1_findTrades_71 gf_RX1_15 (k_ob_303 cs) (fun _ _ => rfl) (k_r_303_2 cs) ?_
        refine x_aload_n dX1_findTrades_74 rfl ?_
        refine x_getIv (z := (sn : Int)) dX1_findTrades_75 gf_RX1_26 (k_ob_303 cs) (fun _ _ => rfl) (by first | exact e8 | exact m1.trans hbn | exact m2.trans hsn | (rw [ho54 303 (by omega)]; exact m1) | (rw [ho88 303 (by omega)]; exact m2)) ?_
        refine x_aload_n dX1_findTrades_78 rfl ?_
        refine x_getR (b := 13) dX1_findTrades_79 gf_RX1_18 (k_ob_303 cs) (fun _ _ => rfl) (k_r_303_0 cs) ?_
        refine x_getR (b := 16) dX1_findTrades_82 gf_RX1_37 (k_ob_13 cs) (fun _ _ => rfl) (k_r_13_2 cs) ?_
        refine x_iload_n dX1_findTrades_85 rfl ?_
        refine x_iaload dX1_findTrades_86 (k_ar_16 cs) (by omega) (by omega) ?_
        rw [show ((k : Nat) : Int).toNat = k by omega, f2]
        refine x_iconst dX1_findTrades_87 ?_
        refine x_callS4 (mc1 := 0) (ms1 := 0) dX1_findTrades_88 cv_RX1_40 (Nat.le_of_ble_eq_true rfl) (n1 := n - 1) (by omega) (by omega) (by omega) ?_
        refine sp_X1_putIn (a := 305) m6 (k_ar_305 cs) (by omega) (by omega) (by omega) (fun I88 hr88 ho88 => ?_)
        refine x_aload_n dX1_findTrades_91 rfl ?_
        refine x_dup dX1_findTrades_92 rfl ?_
        refine x_getIv (z := (mkF A k).2.2) dX1_findTrades_93 gf_RX1_26 (k_ob_303 cs) (fun _ _ => rfl) (by first | exact e8 | exact m1.trans hbn | exact m2.trans hsn | (rw [ho54 303 (by omega)]; exact m1) | (rw [ho88 303 (by omega)]; exact m2)) ?_
        refine x_iconst dX1_findTrades_96 ?_
        refine x_iadd dX1_findTrades_97 ?_
        refine x_putI dX1_findTrades_98 gf_RX1_26 (k_ob_303 cs) rfl ?_
        refine x_iinc (lv2 := [(1, _), (0, _)]) dX1_findTrades_101 rfl (by decide) rfl ?_
        refine x_goto 12 dX1_findTrades_104 (by decide) ?_
        refine x_sub [1, 0] rfl ?_
        refine ih _ (by omega) (k + 1) _ (by omega) rfl ?_ ?_
        · first
            | (have es : mkF A (k + 1) = ((insF (A (74 + 2 * k)) 1 bn (mkF A k).1.1, (mkF A k).1.2), ((mkF A k).2.1 + 1, (mkF A k).2.2)) := (by simp only [mkF]; rw [if_pos (by omega), hbn, show ((bn : Nat) : Int).toNat = bn by omega])
               rw [es]
               refine ⟨⟨?_, ?_⟩, fun i hi => ?_, fun i hi => ?_, fun i hi => ?_, fun i hi => ?_⟩
               · rw [uI_s]
               · rw [uI_o (by omega), ho54 303 (by omega)]; exact m2
               · rw [uI_o (by omega), hr54]
                 have hi2 : (i : Int) < (mkF A k).2.1 + 1 := hi
                 exact insF_congr _ _ _ _ _ (fun z hz => m3 z (by omega)) i (by omega)
               · rw [uI_o (by omega), ho54 305 (by omega)]; exact m4 i hi
               · rw [uI_o (by omega), hr54]; exact insF_b _ _ (by omega) _ _ (by omega) m5 i hi
               · rw [uI_o (by omega), ho54 305 (by omega)]; exact m6 i hi)
            | (have es : mkF A (k + 1) = (((mkF A k).1.1, insF (A (74 + 2 * k)) 0 sn (mkF A k).1.2), ((mkF A k).2.1, (mkF A k).2.2 + 1)) := (by simp only [mkF]; rw [if_neg (by omega), hsn, show ((sn : Nat) : Int).toNat = sn by omega])
               rw [es]
               refine ⟨⟨?_, ?_⟩, fun i hi => ?_, fun i hi => ?_, fun i hi => ?_, fun i hi => ?_⟩
               · rw [uI_o (by omega), ho88 303 (by omega)]; exact m1
               · rw [uI_s]
               · rw [uI_o (by omega), ho88 304 (by omega)]; exact m3 i hi
               · rw [uI_o (by omega), hr88]
                 have hi2 : (i : Int) < (mkF A k).2.2 + 1 := hi
                 exact insF_congr _ _ _ _ _ (fun z hz => m4 z (by omega)) i (by omega)
               · rw [uI_o (by omega), ho88 304 (by omega)]; exact m5 i hi
               · rw [uI_o (by omega), hr88]; exact insF_b _ _ (by omega) _ _ (by omega) m6 i hi)
        · intro c h1 h2 h3
          first
            | exact (uI_row h1).trans ((ho54 c h2).trans (hF c h1 h2 h3))
            | exact (uI_row h1).trans ((ho88 c h3).trans (hF c h1 h2 h3))
      · refine x_aload_n dX1_findTrades_36 rfl ?_
        refine x_getR (b := 304) dX1_findTrades_37 gf_RX1_9 (k_ob_303 cs) (fun _ _ => rfl) (k_r_303_1 cs) ?_
        refine x_aload_n dX1_findTrades_40 rfl ?_
        refine x_getIv (z := (bn : Int)) dX1_findTrades_41 gf_RX1_22 (k_ob_303 cs) (fun _ _ => rfl) (by first | exact e8 | exact m1.trans hbn | exact m2.trans hsn | (rw [ho54 303 (by omega)]; exact m1) | (rw [ho88 303 (by omega)]; exact m2)) ?_
        refine x_aload_n dX1_findTrades_44 rfl ?_
        refine x_getR (b := 13) dX1_findTrades_45 gf_RX1_18 (k_ob_303 cs) (fun _ _ => rfl) (k_r_303_0 cs) ?_
        refine x_getR (b := 16) dX1_findTrades_48 gf_RX1_37 (k_ob_13 cs) (fun _ _ => rfl) (k_r_13_2 cs) ?_
        refine x_iload_n dX1_findTrades_51 rfl ?_
        refine x_iaload dX1_findTrades_52 (k_ar_16 cs) (by omega) (by omega) ?_
        rw [show ((k : Nat) : Int).toNat = k by omega, f2]
        refine x_iconst dX1_findTrades_53 ?_
        refine x_callS4 (mc1 := 0) (ms1 := 0) dX1_findTrades_54 cv_RX1_40 (Nat.le_of_ble_eq_true rfl) (n1 := n - 1) (by omega) (by omega) (by omega) ?_
        refine sp_X1_putIn (a := 304) m5 (k_ar_304 cs) (by omega) (by omega) (by omega) (fun I54 hr54 ho54 => ?_)
        refine x_aload_n dX1_findTrades_57 rfl ?_
        refine x_dup dX1_findTrades_58 rfl ?_
        refine x_getIv (z := (mkF A k).2.1) dX1_findTrades_59 gf_RX1_22 (k_ob_303 cs) (fun _ _ => rfl) (by first | exact e8 | exact m1.trans hbn | exact m2.trans hsn | (rw [ho54 303 (by omega)]; exact m1) | (rw [ho88 303 (by omega)]; exact m2)) ?_
        refine x_iconst dX1_findTrades_62 ?_
        refine x_iadd dX1_findTrades_63 ?_
        refine x_putI dX1_findTrades_64 gf_RX1_22 (k_ob_303 cs) rfl ?_
        refine x_goto 101 dX1_findTrades_67 (by decide) ?_
        refine x_iinc (lv2 := [(1, _), (0, _)]) dX1_findTrades_101 rfl (by decide) rfl ?_
        refine x_goto 12 dX1_findTrades_104 (by decide) ?_
        refine x_sub [1, 0] rfl ?_
        refine ih _ (by omega) (k + 1) _ (by omega) rfl ?_ ?_
        · first
            | (have es : mkF A (k + 1) = ((insF (A (74 + 2 * k)) 1 bn (mkF A k).1.1, (mkF A k).1.2), ((mkF A k).2.1 + 1, (mkF A k).2.2)) := (by simp only [mkF]; rw [if_pos (by omega), hbn, show ((bn : Nat) : Int).toNat = bn by omega])
               rw [es]
               refine ⟨⟨?_, ?_⟩, fun i hi => ?_, fun i hi => ?_, fun i hi => ?_, fun i hi => ?_⟩
               · rw [uI_s]
               · rw [uI_o (by omega), ho54 303 (by omega)]; exact m2
               · rw [uI_o (by omega), hr54]
                 have hi2 : (i : Int) < (mkF A k).2.1 + 1 := hi
                 exact insF_congr _ _ _ _ _ (fun z hz => m3 z (by omega)) i (by omega)
               · rw [uI_o (by omega), ho54 305 (by omega)]; exact m4 i hi
               · rw [uI_o (by omega), hr54]; exact insF_b _ _ (by omega) _ _ (by omega) m5 i hi
               · rw [uI_o (by omega), ho54 305 (by omega)]; exact m6 i hi)
            | (have es : mkF A (k + 1) = (((mkF A k).1.1, insF (A (74 + 2 * k)) 0 sn (mkF A k).1.2), ((mkF A k).2.1, (mkF A k).2.2 + 1)) := (by simp only [mkF]; rw [if_neg (by omega), hsn, show ((sn : Nat) : Int).toNat = sn by omega])
               rw [es]
               refine ⟨⟨?_, ?_⟩, fun i hi => ?_, fun i hi => ?_, fun i hi => ?_, fun i hi => ?_⟩
               · rw [uI_o (by omega), ho88 303 (by omega)]; exact m1
               · rw [uI_s]
               · rw [uI_o (by omega), ho88 304 (by omega)]; exact m3 i hi
               · rw [uI_o (by omega), hr88]
                 have hi2 : (i : Int) < (mkF A k).2.2 + 1 := hi
                 exact insF_congr _ _ _ _ _ (fun z hz => m4 z (by omega)) i (by omega)
               · rw [uI_o (by omega), ho88 304 (by omega)]; exact m5 i hi
               · rw [uI_o (by omega), hr88]; exact insF_b _ _ (by omega) _ _ (by omega) m6 i hi)
        · intro c h1 h2 h3
          first
            | exact (uI_row h1).trans ((ho54 c h2).trans (hF c h1 h2 h3))
            | exact (uI_row h1).trans ((ho88 c h3).trans (hF c h1 h2 h3))
theorem sp_X1_findTrades  (cs : CS S R) (hc : ClW I 1 A) (hb : BA A) (hd : DK I) (hn : 1 ≤ n) (hp : ∀ I', MKr I' (mkF A (A 5).toNat) → Fdl I I' → Post (some (.int (iI (tradesA A : Int)))) S I' R) : Call n 0 0 mX1_findTrades [.ref (S.2.1 303)] S I R Post := by
  have b5 := hb.2.1.2.2.2.2.1
  refine Call.of (by decide +kernel) (Nat.le_of_ble_eq_true rfl) ?_
  show WP _ _ _ _ _ 0 [(0, _)] [] 0 0 _ _ _
  refine x_aload_n dX1_findTrades_0 rfl ?_
  refine x_iconst dX1_findTrades_1 ?_
  refine x_putI dX1_findTrades_2 gf_RX1_22 (k_ob_303 cs) rfl ?_
  refine x_aload_n dX1_findTrades_5 rfl ?_
  refine x_iconst dX1_findTrades_6 ?_
  refine x_putI dX1_findTrades_7 gf_RX1_26 (k_ob_303 cs) rfl ?_
  refine x_iconst dX1_findTrades_10 ?_
  refine x_istore_n (lv2 := [(1, _), (0, _)]) dX1_findTrades_11 (by decide) rfl ?_
  refine x_sub [1, 0] rfl ?_
  exact lp_X1_findTrades cs (ClW_fr (fun c h1 h2 => by rw [uI_row (by omega), uI_row (by omega)]) hc) hb hn (fun I2 h1 h2 => hp I2 h1 (fun c q1 q2 q3 => (h2 c q1 q2 q3).trans ((uI_row q1).trans (uI_row q1)))) _ 0 _ (by omega) rfl ⟨⟨by rw [uI_o (by omega), uI_s]; rfl, by rw [uI_s]; rfl⟩, fun i hi => by (have h0 : (i : Int) < 0 := hi); omega, fun i hi => by (have h0 : (i : Int) < 0 := hi); omega, fun i hi => by rw [uI_o (by omega), uI_o (by omega)]; exact hd.1 i hi, fun i hi => by rw [uI_o (by omega), uI_o (by omega)]; exact hd.2 i hi⟩ (fun c _ _ _ => rfl)
end Cls9
