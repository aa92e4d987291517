section Cls8
variable {n : Nat} {Post : PT} {S : Sh} {I : CI} {R : CR} {A : Nat → Int} {tx : Nat → Nat → Int}
def lvL (A : Nat → Int) (tx : Nat → Nat → Int) : Nat → (Nat → Int)
  | 0 => A
  | k + 1 => liveA (lvL A tx k) tx
def f_years (A : Nat → Int) (tx : Nat → Nat → Int) (s m : Int) : Int × (Nat → Int) := if 0 ≤ s ∧ s ≤ 9999 ∧ 1 ≤ m ∧ m ≤ 40 then (lvL (upA (keepA A) 8 (s * 2 + 373)) tx m.toNat 7, lvL (upA (keepA A) 8 (s * 2 + 373)) tx m.toNat) else (-1, A)
theorem dX11_years_0 : decode prog_1_method_13_code 0 = .ok (.iload_n 1, 1) := by decide +kernel
theorem dX11_years_1 : decode prog_1_method_13_code 1 = .ok (.ifCond .lt 21, 3) := by decide +kernel
theorem dX11_years_4 : decode prog_1_method_13_code 4 = .ok (.iload_n 1, 1) := by decide +kernel
theorem dX11_years_5 : decode prog_1_method_13_code 5 = .ok (.sipush 9999, 3) := by decide +kernel
theorem dX11_years_8 : decode prog_1_method_13_code 8 = .ok (.if_icmp .gt 14, 3) := by decide +kernel
theorem dX11_years_11 : decode prog_1_method_13_code 11 = .ok (.iload_n 2, 1) := by decide +kernel
theorem dX11_years_12 : decode prog_1_method_13_code 12 = .ok (.iconst 1, 1) := by decide +kernel
theorem dX11_years_13 : decode prog_1_method_13_code 13 = .ok (.if_icmp .lt 9, 3) := by decide +kernel
theorem dX11_years_16 : decode prog_1_method_13_code 16 = .ok (.iload_n 2, 1) := by decide +kernel
theorem dX11_years_17 : decode prog_1_method_13_code 17 = .ok (.bipush 40, 2) := by decide +kernel
theorem dX11_years_19 : decode prog_1_method_13_code 19 = .ok (.if_icmp .le 5, 3) := by decide +kernel
theorem dX11_years_22 : decode prog_1_method_13_code 22 = .ok (.iconst (-1), 1) := by decide +kernel
theorem dX11_years_23 : decode prog_1_method_13_code 23 = .ok (.ireturn, 1) := by decide +kernel
theorem dX11_years_24 : decode prog_1_method_13_code 24 = .ok (.aload_n 0, 1) := by decide +kernel
theorem dX11_years_25 : decode prog_1_method_13_code 25 = .ok (.getfield 10, 3) := by decide +kernel
theorem dX11_years_28 : decode prog_1_method_13_code 28 = .ok (.invokevirtual 149, 3) := by decide +kernel
theorem dX11_years_31 : decode prog_1_method_13_code 31 = .ok (.aload_n 0, 1) := by decide +kernel
theorem dX11_years_32 : decode prog_1_method_13_code 32 = .ok (.getfield 10, 3) := by decide +kernel
theorem dX11_years_35 : decode prog_1_method_13_code 35 = .ok (.getfield 127, 3) := by decide +kernel
theorem dX11_years_38 : decode prog_1_method_13_code 38 = .ok (.iload_n 1, 1) := by decide +kernel
theorem dX11_years_39 : decode prog_1_method_13_code 39 = .ok (.iconst 2, 1) := by decide +kernel
theorem dX11_years_40 : decode prog_1_method_13_code 40 = .ok (.imul, 1) := by decide +kernel
theorem dX11_years_41 : decode prog_1_method_13_code 41 = .ok (.sipush 373, 3) := by decide +kernel
theorem dX11_years_44 : decode prog_1_method_13_code 44 = .ok (.iadd, 1) := by decide +kernel
theorem dX11_years_45 : decode prog_1_method_13_code 45 = .ok (.putfield 152, 3) := by decide +kernel
theorem dX11_years_48 : decode prog_1_method_13_code 48 = .ok (.iconst 0, 1) := by decide +kernel
theorem dX11_years_49 : decode prog_1_method_13_code 49 = .ok (.istore_n 3, 1) := by decide +kernel
theorem dX11_years_50 : decode prog_1_method_13_code 50 = .ok (.iload_n 3, 1) := by decide +kernel
theorem dX11_years_51 : decode prog_1_method_13_code 51 = .ok (.iload_n 2, 1) := by decide +kernel
theorem dX11_years_52 : decode prog_1_method_13_code 52 = .ok (.if_icmp .ge 16, 3) := by decide +kernel
theorem dX11_years_55 : decode prog_1_method_13_code 55 = .ok (.aload_n 0, 1) := by decide +kernel
theorem dX11_years_56 : decode prog_1_method_13_code 56 = .ok (.getfield 33, 3) := by decide +kernel
theorem dX11_years_59 : decode prog_1_method_13_code 59 = .ok (.invokevirtual 155, 3) := by decide +kernel
theorem dX11_years_62 : decode prog_1_method_13_code 62 = .ok (.iinc 3 1, 3) := by decide +kernel
theorem dX11_years_65 : decode prog_1_method_13_code 65 = .ok (.goto (-15), 3) := by decide +kernel
theorem dX11_years_68 : decode prog_1_method_13_code 68 = .ok (.aload_n 0, 1) := by decide +kernel
theorem dX11_years_69 : decode prog_1_method_13_code 69 = .ok (.getfield 10, 3) := by decide +kernel
theorem dX11_years_72 : decode prog_1_method_13_code 72 = .ok (.getfield 127, 3) := by decide +kernel
theorem dX11_years_75 : decode prog_1_method_13_code 75 = .ok (.getfield 131, 3) := by decide +kernel
theorem dX11_years_78 : decode prog_1_method_13_code 78 = .ok (.ireturn, 1) := by decide +kernel
theorem lp_X11_years {s m : Int} {B : Nat → Int} (cs : CS S R) (hm : 1 ≤ m ∧ m ≤ 40) (hn : 6 ≤ n) (hp : ∀ I', CIv S R I' (lvL B tx m.toNat) tx → Fc I I' → Post (some (.int (iI (lvL B tx m.toNat 7)))) S I' R) : ∀ (d k : Nat) (J : CI), k ≤ m.toNat → m.toNat - k = d → CIv S R J (lvL B tx k) tx → Fc I J → WP n 0 0 mX11_years Post 50 [(0, .ref (S.2.1 0)), (1, .int (iI s)), (2, .int (iI m)), (3, .int (iI (k : Int)))] [] 0 0 S J R := by
  intro d
  induction d using Nat.strongRecOn with
  | ind d ih =>
    intro k J k1 k2 hv hF
    have e7 : lvL B tx k 7 = J 6 6 := hv.1.1.1.2.1
    refine x_iload_n dX11_years_50 rfl ?_
    refine x_iload_n dX11_years_51 rfl ?_
    refine x_icmp_ge 68 dX11_years_52 (by decide) ⟨(by omega), (by omega)⟩ (fun w52 => ?_) (fun w52 => ?_)
    · refine x_aload_n dX11_years_68 rfl ?_
      refine x_getR (b := 1) dX11_years_69 gf_RX11_10 (k_ob_0 cs) (fun _ _ => rfl) (k_r_0_0 cs) ?_
      refine x_getR (b := 6) dX11_years_72 gf_RX11_127 (k_ob_1 cs) (fun _ _ => rfl) (k_r_1_4 cs) ?_
      refine x_getIv (z := lvL B tx k 7) dX11_years_75 gf_RX11_131 (k_ob_6 cs) (fun _ _ => rfl) (by exact e7.symm) ?_
      exact x_ireturn dX11_years_78 rfl (by omega) (by omega) (by obtain rfl : k = m.toNat := (by omega); exact hp _ hv hF)
    · refine x_aload_n dX11_years_55 rfl ?_
      refine x_getR (b := 282) dX11_years_56 gf_RX11_33 (k_ob_0 cs) (fun _ _ => rfl) (k_r_0_3 cs) ?_
      refine x_callV0 (mc1 := 0) (ms1 := 0) dX11_years_59 cv_RX11_155 (ci := 0) (k_ob_282 cs) rfl (Nat.le_of_ble_eq_true rfl) (n1 := n - 1) (by omega) (by omega) (by omega) ?_
      refine sp_X0_liveByDraw cs hv (by omega) (fun I59 hI59 hF59 => ?_)
      refine x_iinc (lv2 := [(3, _), (0, _), (1, _), (2, _)]) dX11_years_62 rfl (by decide) rfl ?_
      refine x_goto 50 dX11_years_65 (by decide) ?_
      refine x_sub [1, 2, 3, 0] rfl ?_
      exact ih _ (by omega) (k + 1) I59 (by omega) rfl hI59 (hF.tr hF59)
theorem sp_X11_years {s m : Int} (cs : CS S R) (hv : CIv S R I A tx) (hs : Rg s) (hm : Rg m) (hn : 6 ≤ n) (hp : ∀ I', CIv S R I' (f_years A tx s m).2 tx → Fc I I' → Post (some (.int (iI (f_years A tx s m).1))) S I' R) : Call n 0 0 mX11_years [.ref (S.2.1 0), .int (iI s), .int (iI m)] S I R Post := by
  refine Call.of (by decide +kernel) (Nat.le_of_ble_eq_true rfl) ?_
  show WP _ _ _ _ _ 0 [(0, _), (1, _), (2, _)] [] 0 0 _ _ _
  refine x_iload_n dX11_years_0 rfl ?_
  refine x_if_lt 22 dX11_years_1 (by decide) (by omega) (fun w1 => ?_) (fun w1 => ?_)
  · refine x_iconst dX11_years_22 ?_
    exact x_ireturn dX11_years_23 rfl (by omega) (by omega) (by rw [show f_years A tx s m = (-1, A) from if_neg (by omega)] at hp; exact hp _ hv Fc.rf)
  · refine x_iload_n dX11_years_4 rfl ?_
    refine x_sipush dX11_years_5 (by decide) ?_
    refine x_icmp_gt 22 dX11_years_8 (by decide) ⟨(by omega), (by omega)⟩ (fun w8 => ?_) (fun w8 => ?_)
    · refine x_iconst dX11_years_22 ?_
      exact x_ireturn dX11_years_23 rfl (by omega) (by omega) (by rw [show f_years A tx s m = (-1, A) from if_neg (by omega)] at hp; exact hp _ hv Fc.rf)
    · refine x_iload_n dX11_years_11 rfl ?_
      refine x_iconst dX11_years_12 ?_
      refine x_icmp_lt 22 dX11_years_13 (by decide) ⟨(by omega), (by omega)⟩ (fun w13 => ?_) (fun w13 => ?_)
      · refine x_iconst dX11_years_22 ?_
        exact x_ireturn dX11_years_23 rfl (by omega) (by omega) (by rw [show f_years A tx s m = (-1, A) from if_neg (by omega)] at hp; exact hp _ hv Fc.rf)
      · refine x_iload_n dX11_years_16 rfl ?_
        refine x_bipush dX11_years_17 (by decide) ?_
        refine x_icmp_le 24 dX11_years_19 (by decide) ⟨(by omega), (by omega)⟩ (fun w19 => ?_) (fun w19 => ?_)
        · refine x_aload_n dX11_years_24 rfl ?_
          refine x_getR (b := 1) dX11_years_25 gf_RX11_10 (k_ob_0 cs) (fun _ _ => rfl) (k_r_0_0 cs) ?_
          refine x_callV0 (mc1 := 0) (ms1 := 0) dX11_years_28 cv_RX11_149 (ci := 10) (k_ob_1 cs) rfl (Nat.le_of_ble_eq_true rfl) (n1 := n - 1) (by omega) (by omega) (by omega) ?_
          refine sp_X10_keepStep cs hv.1 hv.2.1 (by omega) (fun I28 hI28 hF28 => ?_)
          have hv28 := hv.w hF28 hI28 (BA_keep hv.2.1) (kp_lo (by decide) (by decide))
          refine x_aload_n dX11_years_31 rfl ?_
          refine x_getR (b := 1) dX11_years_32 gf_RX11_10 (k_ob_0 cs) (fun _ _ => rfl) (k_r_0_0 cs) ?_
          refine x_getR (b := 6) dX11_years_35 gf_RX11_127 (k_ob_1 cs) (fun _ _ => rfl) (k_r_1_4 cs) ?_
          refine x_iload_n dX11_years_38 rfl ?_
          refine x_iconst dX11_years_39 ?_
          refine x_imul dX11_years_40 ?_
          refine x_sipush dX11_years_41 (by decide) ?_
          refine x_iadd dX11_years_44 ?_
          refine x_putI dX11_years_45 gf_RX11_152 (k_ob_6 cs) rfl ?_
          refine x_iconst dX11_years_48 ?_
          refine x_istore_n (lv2 := [(3, _), (0, _), (1, _), (2, _)]) dX11_years_49 (by decide) rfl ?_
          refine x_sub [1, 2, 3, 0] rfl ?_
          rw [show f_years A tx s m = (lvL (upA (keepA A) 8 (s * 2 + 373)) tx m.toNat 7, lvL (upA (keepA A) 8 (s * 2 + 373)) tx m.toNat) from if_pos (by omega)] at hp
          have hv2 : CIv S R (uI I28 6 7 (s * 2 + 373)) (upA (keepA A) 8 (s * 2 + 373)) tx := hv28.w (Fw.rf.u (by omega)) (cu_x _ hI28) (BA_x hv28.2.1 (by omega)) (upA_o (by omega))
          exact lp_X11_years cs (by omega) hn hp _ 0 _ (by omega) rfl hv2 (hF28.c.tr (Fw.rf.u (by omega)).c)
        · refine x_iconst dX11_years_22 ?_
          exact x_ireturn dX11_years_23 rfl (by omega) (by omega) (by rw [show f_years A tx s m = (-1, A) from if_neg (by omega)] at hp; exact hp _ hv Fc.rf)
def f_of (A : Nat → Int) (tx : Nat → Nat → Int) (q w : Int) : Int := if 0 ≤ q ∧ q < A 0 then (if w = 0 then A (36 + 2 * q.toNat) else if w = 1 then A (37 + 2 * q.toNat) else if w = 2 then A (52 + q.toNat) else if w = 3 then A (14 + 3 * q.toNat) else if w = 4 then A (12 + 3 * q.toNat) else if w = 5 then (if A (12 + 3 * q.toNat) = 1 then A 7 - A (13 + 3 * q.toNat) else 0) else if w = 6 then duesP A tx (A 2) q.toNat 0 (A 9) else if w = 7 then sellsP A tx q.toNat else -10000) else -10000
theorem dX11_of_0 : decode prog_1_method_15_code 0 = .ok (.aload_n 0, 1) := by decide +kernel
theorem dX11_of_1 : decode prog_1_method_15_code 1 = .ok (.getfield 10, 3) := by decide +kernel
theorem dX11_of_4 : decode prog_1_method_15_code 4 = .ok (.getfield 127, 3) := by decide +kernel
theorem dX11_of_7 : decode prog_1_method_15_code 7 = .ok (.astore_n 3, 1) := by decide +kernel
theorem dX11_of_8 : decode prog_1_method_15_code 8 = .ok (.aload_n 3, 1) := by decide +kernel
theorem dX11_of_9 : decode prog_1_method_15_code 9 = .ok (.iload_n 1, 1) := by decide +kernel
theorem dX11_of_10 : decode prog_1_method_15_code 10 = .ok (.invokevirtual 165, 3) := by decide +kernel
theorem dX11_of_13 : decode prog_1_method_15_code 13 = .ok (.ifCond .ne 7, 3) := by decide +kernel
theorem dX11_of_16 : decode prog_1_method_15_code 16 = .ok (.sipush (-10000), 3) := by decide +kernel
theorem dX11_of_19 : decode prog_1_method_15_code 19 = .ok (.ireturn, 1) := by decide +kernel
theorem dX11_of_20 : decode prog_1_method_15_code 20 = .ok (.iload_n 2, 1) := by decide +kernel
theorem dX11_of_21 : decode prog_1_method_15_code 21 = .ok (.tableswitch 115 0 7 #[47, 57, 67, 77, 84, 91, 97, 106], 47) := by decide +kernel
theorem dX11_of_68 : decode prog_1_method_15_code 68 = .ok (.aload_n 0, 1) := by decide +kernel
theorem dX11_of_69 : decode prog_1_method_15_code 69 = .ok (.getfield 10, 3) := by decide +kernel
theorem dX11_of_72 : decode prog_1_method_15_code 72 = .ok (.getfield 168, 3) := by decide +kernel
theorem dX11_of_75 : decode prog_1_method_15_code 75 = .ok (.iload_n 1, 1) := by decide +kernel
theorem dX11_of_76 : decode prog_1_method_15_code 76 = .ok (.iaload, 1) := by decide +kernel
theorem dX11_of_77 : decode prog_1_method_15_code 77 = .ok (.ireturn, 1) := by decide +kernel
theorem dX11_of_78 : decode prog_1_method_15_code 78 = .ok (.aload_n 0, 1) := by decide +kernel
theorem dX11_of_79 : decode prog_1_method_15_code 79 = .ok (.getfield 10, 3) := by decide +kernel
theorem dX11_of_82 : decode prog_1_method_15_code 82 = .ok (.getfield 172, 3) := by decide +kernel
theorem dX11_of_85 : decode prog_1_method_15_code 85 = .ok (.iload_n 1, 1) := by decide +kernel
theorem dX11_of_86 : decode prog_1_method_15_code 86 = .ok (.iaload, 1) := by decide +kernel
theorem dX11_of_87 : decode prog_1_method_15_code 87 = .ok (.ireturn, 1) := by decide +kernel
theorem dX11_of_88 : decode prog_1_method_15_code 88 = .ok (.aload_n 0, 1) := by decide +kernel
theorem dX11_of_89 : decode prog_1_method_15_code 89 = .ok (.getfield 10, 3) := by decide +kernel
theorem dX11_of_92 : decode prog_1_method_15_code 92 = .ok (.getfield 175, 3) := by decide +kernel
theorem dX11_of_95 : decode prog_1_method_15_code 95 = .ok (.iload_n 1, 1) := by decide +kernel
theorem dX11_of_96 : decode prog_1_method_15_code 96 = .ok (.iaload, 1) := by decide +kernel
theorem dX11_of_97 : decode prog_1_method_15_code 97 = .ok (.ireturn, 1) := by decide +kernel
theorem dX11_of_98 : decode prog_1_method_15_code 98 = .ok (.aload_n 3, 1) := by decide +kernel
theorem dX11_of_99 : decode prog_1_method_15_code 99 = .ok (.getfield 178, 3) := by decide +kernel
theorem dX11_of_102 : decode prog_1_method_15_code 102 = .ok (.iload_n 1, 1) := by decide +kernel
theorem dX11_of_103 : decode prog_1_method_15_code 103 = .ok (.iaload, 1) := by decide +kernel
theorem dX11_of_104 : decode prog_1_method_15_code 104 = .ok (.ireturn, 1) := by decide +kernel
theorem dX11_of_105 : decode prog_1_method_15_code 105 = .ok (.aload_n 3, 1) := by decide +kernel
theorem dX11_of_106 : decode prog_1_method_15_code 106 = .ok (.getfield 181, 3) := by decide +kernel
theorem dX11_of_109 : decode prog_1_method_15_code 109 = .ok (.iload_n 1, 1) := by decide +kernel
theorem dX11_of_110 : decode prog_1_method_15_code 110 = .ok (.iaload, 1) := by decide +kernel
theorem dX11_of_111 : decode prog_1_method_15_code 111 = .ok (.ireturn, 1) := by decide +kernel
theorem dX11_of_112 : decode prog_1_method_15_code 112 = .ok (.aload_n 3, 1) := by decide +kernel
theorem dX11_of_113 : decode prog_1_method_15_code 113 = .ok (.iload_n 1, 1) := by decide +kernel
theorem dX11_of_114 : decode prog_1_method_15_code 114 = .ok (.invokevirtual 184, 3) := by decide +kernel
theorem dX11_of_117 : decode prog_1_method_15_code 117 = .ok (.ireturn, 1) := by decide +kernel
theorem dX11_of_118 : decode prog_1_method_15_code 118 = .ok (.aload_n 0, 1) := by decide +kernel
theorem dX11_of_119 : decode prog_1_method_15_code 119 = .ok (.getfield 24, 3) := by decide +kernel
theorem dX11_of_122 : decode prog_1_method_15_code 122 = .ok (.iload_n 1, 1) := by decide +kernel
theorem dX11_of_123 : decode prog_1_method_15_code 123 = .ok (.invokevirtual 187, 3) := by decide +kernel
theorem dX11_of_126 : decode prog_1_method_15_code 126 = .ok (.ireturn, 1) := by decide +kernel
theorem dX11_of_127 : decode prog_1_method_15_code 127 = .ok (.aload_n 0, 1) := by decide +kernel
theorem dX11_of_128 : decode prog_1_method_15_code 128 = .ok (.getfield 24, 3) := by decide +kernel
theorem dX11_of_131 : decode prog_1_method_15_code 131 = .ok (.iload_n 1, 1) := by decide +kernel
theorem dX11_of_132 : decode prog_1_method_15_code 132 = .ok (.invokevirtual 190, 3) := by decide +kernel
theorem dX11_of_135 : decode prog_1_method_15_code 135 = .ok (.ireturn, 1) := by decide +kernel
theorem dX11_of_136 : decode prog_1_method_15_code 136 = .ok (.sipush (-10000), 3) := by decide +kernel
theorem dX11_of_139 : decode prog_1_method_15_code 139 = .ok (.ireturn, 1) := by decide +kernel
theorem sp_X11_of {q w : Int} (cs : CS S R) (hv : CIv S R I A tx) (hq : Rg q) (hw2 : Rg w) (hn : 5 ≤ n) (hp : ∀ I', Fl I I' → SK I' → Post (some (.int (iI (f_of A tx q w)))) S I' R) : Call n 0 0 mX11_of [.ref (S.2.1 0), .int (iI q), .int (iI w)] S I R Post := by
  obtain ⟨hc, hb, hw, hk⟩ := id hv
  obtain ⟨⟨⟨c0, c7, c8, c9, c10, c11⟩, cq⟩, ⟨⟨t1, t2, t3, t4, t5, t6, t7, t8, t9⟩, tq, th, tb, ts, td⟩, cb, cp⟩ := id hc
  dsimp only [Nat.reduceAdd] at c0 c7 c8 c9 c10 c11 cq t1 t2 t3 t4 t5 t6 t7 t8 t9 tq th tb ts td
  obtain ⟨⟨b0, b1, b2, b3, b4, bq, bl⟩, ⟨d1, d2, d3, d4, d5, d6, d7⟩, dq, dh, db, ds, dd, dp⟩ := id hb
  have b7 : 0 ≤ A 7 ∧ A 7 ≤ 9999 := b1
  have b8 : 0 ≤ A 8 ∧ A 8 ≤ 30870 := b2
  have b9 : 0 ≤ A 9 ∧ A 9 ≤ 9999 := b3
  have b10 : 0 ≤ A 10 ∧ A 10 ≤ 1 := b4
  have b11 : 0 ≤ A 11 ∧ A 11 ≤ 16 := by have h1 := lns_b (fun q => A (6 + 6 + 3 * q)) (A 0).toNat; have h2 : A 11 = _ := bl; omega
  have w1 : 0 ≤ q ∧ q < A 0 → _ := fun h => tq q.toNat (by omega)
  have w2 : 0 ≤ q ∧ q < A 0 → _ := fun h => cq q.toNat (by omega)
  have w3 : 0 ≤ q ∧ q < A 0 → _ := fun h => bq q.toNat (by omega)
  have hsb : SB I 6 := SB_now hc hb
  unfold f_of at hp
  refine Call.of (by decide +kernel) (Nat.le_of_ble_eq_true rfl) ?_
  show WP _ _ _ _ _ 0 [(0, _), (1, _), (2, _)] [] 0 0 _ _ _
  refine x_aload_n dX11_of_0 rfl ?_
  refine x_getR (b := 1) dX11_of_1 gf_RX11_10 (k_ob_0 cs) (fun _ _ => rfl) (k_r_0_0 cs) ?_
  refine x_getR (b := 6) dX11_of_4 gf_RX11_127 (k_ob_1 cs) (fun _ _ => rfl) (k_r_1_4 cs) ?_
  refine x_astore_n (lv2 := [(3, _), (0, _), (1, _), (2, _)]) dX11_of_7 (by decide) rfl ?_
  refine x_aload_n dX11_of_8 rfl ?_
  refine x_iload_n dX11_of_9 rfl ?_
  refine x_callV1 (mc1 := 0) (ms1 := 0) dX11_of_10 cv_RX11_165 (ci := 6) (k_ob_6 cs) rfl (Nat.le_of_ble_eq_true rfl) (n1 := n - 1) (by omega) (by omega) (by omega) ?_
  refine sp_X6_has (k_st_6 cs) (by omega) hsb (fun r10 hr10 => ?_)
  refine x_if_ne 20 dX11_of_13 (by decide) (by omega) (fun w13 => ?_) (fun w13 => ?_)
  · refine x_iload_n dX11_of_20 rfl ?_
    by_cases t21_0 : w = 0
    · refine x_tableIn 68 dX11_of_21 (by omega) (by omega) (by rw [t21_0]; rfl) (by decide) ?_
      refine x_aload_n dX11_of_68 rfl ?_
      refine x_getR (b := 1) dX11_of_69 gf_RX11_10 (k_ob_0 cs) (fun _ _ => rfl) (k_r_0_0 cs) ?_
      refine x_getR (b := 2) dX11_of_72 gf_RX11_168 (k_ob_1 cs) (fun _ _ => rfl) (k_r_1_0 cs) ?_
      refine x_iload_n dX11_of_75 rfl ?_
      refine x_iaload dX11_of_76 (k_ar_2 cs) (by omega) (by omega) ?_
      exact x_ireturn dX11_of_77 rfl (by omega) (by omega) (by first | (rw [if_pos (by omega), if_pos (by omega), (w1 (by omega)).1] at hp; exact hp _ Fl.rf hk) | (rw [if_pos (by omega), if_neg (by omega), if_pos (by omega), (w1 (by omega)).2.1] at hp; exact hp _ Fl.rf hk) | (rw [if_pos (by omega), if_neg (by omega), if_neg (by omega), if_pos (by omega), (w1 (by omega)).2.2.1] at hp; exact hp _ Fl.rf hk) | (rw [if_pos (by omega), if_neg (by omega), if_neg (by omega), if_neg (by omega), if_pos (by omega), (w2 (by omega)).2.2] at hp; exact hp _ Fl.rf hk) | (rw [if_pos (by omega), if_neg (by omega), if_neg (by omega), if_neg (by omega), if_neg (by omega), if_pos (by omega), (w2 (by omega)).1] at hp; exact hp _ Fl.rf hk) | (rw [if_pos (by omega), if_neg (by omega), if_neg (by omega), if_neg (by omega), if_neg (by omega), if_neg (by omega), if_pos (by omega)] at hp; rw [show (if A (12 + 3 * q.toNat) = 1 then A 7 - A (13 + 3 * q.toNat) else 0) = r114 by (rw [(w2 (by omega)).1, (w2 (by omega)).2.1, c7]; split <;> omega)] at hp; exact hp _ Fl.rf hk) | (rw [if_pos (by omega), if_neg (by omega), if_neg (by omega), if_neg (by omega), if_neg (by omega), if_neg (by omega), if_neg (by omega), if_pos (by omega)] at hp; exact hp _ hF123 hS123) | (rw [if_pos (by omega), if_neg (by omega), if_neg (by omega), if_neg (by omega), if_neg (by omega), if_neg (by omega), if_neg (by omega), if_neg (by omega), if_pos (by omega)] at hp; exact hp _ hF132 hS132) | (rw [if_pos (by omega), if_neg (by omega), if_neg (by omega), if_neg (by omega), if_neg (by omega), if_neg (by omega), if_neg (by omega), if_neg (by omega), if_neg (by omega)] at hp; exact hp _ Fl.rf hk) | (rw [if_neg (by omega)] at hp; exact hp _ Fl.rf hk))
    by_cases t21_1 : w = 1
    · refine x_tableIn 78 dX11_of_21 (by omega) (by omega) (by rw [t21_1]; rfl) (by decide) ?_
      refine x_aload_n dX11_of_78 rfl ?_
      refine x_getR (b := 1) dX11_of_79 gf_RX11_10 (k_ob_0 cs) (fun _ _ => rfl) (k_r_0_0 cs) ?_
      refine x_getR (b := 3) dX11_of_82 gf_RX11_172 (k_ob_1 cs) (fun _ _ => rfl) (k_r_1_1 cs) ?_
      refine x_iload_n dX11_of_85 rfl ?_
      refine x_iaload dX11_of_86 (k_ar_3 cs) (by omega) (by omega) ?_
      exact x_ireturn dX11_of_87 rfl (by omega) (by omega) (by first | (rw [if_pos (by omega), if_pos (by omega), (w1 (by omega)).1] at hp; exact hp _ Fl.rf hk) | (rw [if_pos (by omega), if_neg (by omega), if_pos (by omega), (w1 (by omega)).2.1] at hp; exact hp _ Fl.rf hk) | (rw [if_pos (by omega), if_neg (by omega), if_neg (by omega), if_pos (by omega), (w1 (by omega)).2.2.1] at hp; exact hp _ Fl.rf hk) | (rw [if_pos (by omega), if_neg (by omega), if_neg (by omega), if_neg (by omega), if_pos (by omega), (w2 (by omega)).2.2] at hp; exact hp _ Fl.rf hk) | (rw [if_pos (by omega), if_neg (by omega), if_neg (by omega), if_neg (by omega), if_neg (by omega), if_pos (by omega), (w2 (by omega)).1] at hp; exact hp _ Fl.rf hk) | (rw [if_pos (by omega), if_neg (by omega), if_neg (by omega), if_neg (by omega), if_neg (by omega), if_neg (by omega), if_pos (by omega)] at hp; rw [show (if A (12 + 3 * q.toNat) = 1 then A 7 - A (13 + 3 * q.toNat) else 0) = r114 by (rw [(w2 (by omega)).1, (w2 (by omega)).2.1, c7]; split <;> omega)] at hp; exact hp _ Fl.rf hk) | (rw [if_pos (by omega), if_neg (by omega), if_neg (by omega), if_neg (by omega), if_neg (by omega), if_neg (by omega), if_neg (by omega), if_pos (by omega)] at hp; exact hp _ hF123 hS123) | (rw [if_pos (by omega), if_neg (by omega), if_neg (by omega), if_neg (by omega), if_neg (by omega), if_neg (by omega), if_neg (by omega), if_neg (by omega), if_pos (by omega)] at hp; exact hp _ hF132 hS132) | (rw [if_pos (by omega), if_neg (by omega), if_neg (by omega), if_neg (by omega), if_neg (by omega), if_neg (by omega), if_neg (by omega), if_neg (by omega), if_neg (by omega)] at hp; exact hp _ Fl.rf hk) | (rw [if_neg (by omega)] at hp; exact hp _ Fl.rf hk))
    by_cases t21_2 : w = 2
    · refine x_tableIn 88 dX11_of_21 (by omega) (by omega) (by rw [t21_2]; rfl) (by decide) ?_
      refine x_aload_n dX11_of_88 rfl ?_
      refine x_getR (b := 1) dX11_of_89 gf_RX11_10 (k_ob_0 cs) (fun _ _ => rfl) (k_r_0_0 cs) ?_
      refine x_getR (b := 4) dX11_of_92 gf_RX11_175 (k_ob_1 cs) (fun _ _ => rfl) (k_r_1_2 cs) ?_
      refine x_iload_n dX11_of_95 rfl ?_
      refine x_iaload dX11_of_96 (k_ar_4 cs) (by omega) (by omega) ?_
      exact x_ireturn dX11_of_97 rfl (by omega) (by omega) (by first | (rw [if_pos (by omega), if_pos (by omega), (w1 (by omega)).1] at hp; exact hp _ Fl.rf hk) | (rw [if_pos (by omega), if_neg (by omega), if_pos (by omega), (w1 (by omega)).2.1] at hp; exact hp _ Fl.rf hk) | (rw [if_pos (by omega), if_neg (by omega), if_neg (by omega), if_pos (by omega), (w1 (by omega)).2.2.1] at hp; exact hp _ Fl.rf hk) | (rw [if_pos (by omega), if_neg (by omega), if_neg (by omega), if_neg (by omega), if_pos (by omega), (w2 (by omega)).2.2] at hp; exact hp _ Fl.rf hk) | (rw [if_pos (by omega), if_neg (by omega), if_neg (by omega), if_neg (by omega), if_neg (by omega), if_pos (by omega), (w2 (by omega)).1] at hp; exact hp _ Fl.rf hk) | (rw [if_pos (by omega), if_neg (by omega), if_neg (by omega), if_neg (by omega), if_neg (by omega), if_neg (by omega), if_pos (by omega)] at hp; rw [show (if A (12 + 3 * q.toNat) = 1 then A 7 - A (13 + 3 * q.toNat) else 0) = r114 by (rw [(w2 (by omega)).1, (w2 (by omega)).2.1, c7]; split <;> omega)] at hp; exact hp _ Fl.rf hk) | (rw [if_pos (by omega), if_neg (by omega), if_neg (by omega), if_neg (by omega), if_neg (by omega), if_neg (by omega), if_neg (by omega), if_pos (by omega)] at hp; exact hp _ hF123 hS123) | (rw [if_pos (by omega), if_neg (by omega), if_neg (by omega), if_neg (by omega), if_neg (by omega), if_neg (by omega), if_neg (by omega), if_neg (by omega), if_pos (by omega)] at hp; exact hp _ hF132 hS132) | (rw [if_pos (by omega), if_neg (by omega), if_neg (by omega), if_neg (by omega), if_neg (by omega), if_neg (by omega), if_neg (by omega), if_neg (by omega), if_neg (by omega)] at hp; exact hp _ Fl.rf hk) | (rw [if_neg (by omega)] at hp; exact hp _ Fl.rf hk))
    by_cases t21_3 : w = 3
    · refine x_tableIn 98 dX11_of_21 (by omega) (by omega) (by rw [t21_3]; rfl) (by decide) ?_
      refine x_aload_n dX11_of_98 rfl ?_
      refine x_getR (b := 9) dX11_of_99 gf_RX11_178 (k_ob_6 cs) (fun _ _ => rfl) (k_r_6_2 cs) ?_
      refine x_iload_n dX11_of_102 rfl ?_
      refine x_iaload dX11_of_103 (k_ar_9 cs) (by omega) (by omega) ?_
      exact x_ireturn dX11_of_104 rfl (by omega) (by omega) (by first | (rw [if_pos (by omega), if_pos (by omega), (w1 (by omega)).1] at hp; exact hp _ Fl.rf hk) | (rw [if_pos (by omega), if_neg (by omega), if_pos (by omega), (w1 (by omega)).2.1] at hp; exact hp _ Fl.rf hk) | (rw [if_pos (by omega), if_neg (by omega), if_neg (by omega), if_pos (by omega), (w1 (by omega)).2.2.1] at hp; exact hp _ Fl.rf hk) | (rw [if_pos (by omega), if_neg (by omega), if_neg (by omega), if_neg (by omega), if_pos (by omega), (w2 (by omega)).2.2] at hp; exact hp _ Fl.rf hk) | (rw [if_pos (by omega), if_neg (by omega), if_neg (by omega), if_neg (by omega), if_neg (by omega), if_pos (by omega), (w2 (by omega)).1] at hp; exact hp _ Fl.rf hk) | (rw [if_pos (by omega), if_neg (by omega), if_neg (by omega), if_neg (by omega), if_neg (by omega), if_neg (by omega), if_pos (by omega)] at hp; rw [show (if A (12 + 3 * q.toNat) = 1 then A 7 - A (13 + 3 * q.toNat) else 0) = r114 by (rw [(w2 (by omega)).1, (w2 (by omega)).2.1, c7]; split <;> omega)] at hp; exact hp _ Fl.rf hk) | (rw [if_pos (by omega), if_neg (by omega), if_neg (by omega), if_neg (by omega), if_neg (by omega), if_neg (by omega), if_neg (by omega), if_pos (by omega)] at hp; exact hp _ hF123 hS123) | (rw [if_pos (by omega), if_neg (by omega), if_neg (by omega), if_neg (by omega), if_neg (by omega), if_neg (by omega), if_neg (by omega), if_neg (by omega), if_pos (by omega)] at hp; exact hp _ hF132 hS132) | (rw [if_pos (by omega), if_neg (by omega), if_neg (by omega), if_neg (by omega), if_neg (by omega), if_neg (by omega), if_neg (by omega), if_neg (by omega), if_neg (by omega)] at hp; exact hp _ Fl.rf hk) | (rw [if_neg (by omega)] at hp; exact hp _ Fl.rf hk))
    by_cases t21_4 : w = 4
    · refine x_tableIn 105 dX11_of_21 (by omega) (by omega) (by rw [t21_4]; rfl) (by decide) ?_
      refine x_aload_n dX11_of_105 rfl ?_
      refine x_getR (b := 7) dX11_of_106 gf_RX11_181 (k_ob_6 cs) (fun _ _ => rfl) (k_r_6_0 cs) ?_
      refine x_iload_n dX11_of_109 rfl ?_
      refine x_iaload dX11_of_110 (k_ar_7 cs) (by omega) (by omega) ?_
      exact x_ireturn dX11_of_111 rfl (by omega) (by omega) (by first | (rw [if_pos (by omega), if_pos (by omega), (w1 (by omega)).1] at hp; exact hp _ Fl.rf hk) | (rw [if_pos (by omega), if_neg (by omega), if_pos (by omega), (w1 (by omega)).2.1] at hp; exact hp _ Fl.rf hk) | (rw [if_pos (by omega), if_neg (by omega), if_neg (by omega), if_pos (by omega), (w1 (by omega)).2.2.1] at hp; exact hp _ Fl.rf hk) | (rw [if_pos (by omega), if_neg (by omega), if_neg (by omega), if_neg (by omega), if_pos (by omega), (w2 (by omega)).2.2] at hp; exact hp _ Fl.rf hk) | (rw [if_pos (by omega), if_neg (by omega), if_neg (by omega), if_neg (by omega), if_neg (by omega), if_pos (by omega), (w2 (by omega)).1] at hp; exact hp _ Fl.rf hk) | (rw [if_pos (by omega), if_neg (by omega), if_neg (by omega), if_neg (by omega), if_neg (by omega), if_neg (by omega), if_pos (by omega)] at hp; rw [show (if A (12 + 3 * q.toNat) = 1 then A 7 - A (13 + 3 * q.toNat) else 0) = r114 by (rw [(w2 (by omega)).1, (w2 (by omega)).2.1, c7]; split <;> omega)] at hp; exact hp _ Fl.rf hk) | (rw [if_pos (by omega), if_neg (by omega), if_neg (by omega), if_neg (by omega), if_neg (by omega), if_neg (by omega), if_neg (by omega), if_pos (by omega)] at hp; exact hp _ hF123 hS123) | (rw [if_pos (by omega), if_neg (by omega), if_neg (by omega), if_neg (by omega), if_neg (by omega), if_neg (by omega), if_neg (by omega), if_neg (by omega), if_pos (by omega)] at hp; exact hp _ hF132 hS132) | (rw [if_pos (by omega), if_neg (by omega), if_neg (by omega), if_neg (by omega), if_neg (by omega), if_neg (by omega), if_neg (by omega), if_neg (by omega), if_neg (by omega)] at hp; exact hp _ Fl.rf hk) | (rw [if_neg (by omega)] at hp; exact hp _ Fl.rf hk))
    by_cases t21_5 : w = 5
    · refine x_tableIn 112 dX11_of_21 (by omega) (by omega) (by rw [t21_5]; rfl) (by decide) ?_
      refine x_aload_n dX11_of_112 rfl ?_
      refine x_iload_n dX11_of_113 rfl ?_
      refine x_callV1 (mc1 := 0) (ms1 := 0) dX11_of_114 cv_RX11_184 (ci := 6) (k_ob_6 cs) rfl (Nat.le_of_ble_eq_true rfl) (n1 := n - 1) (by omega) (by omega) (by omega) ?_
      refine sp_X6_held (k_st_6 cs) (by omega) hsb (by omega) (fun r114 hr114 => ?_)
      dsimp only [Nat.reduceAdd] at hr114
      exact x_ireturn dX11_of_117 rfl (by omega) (by omega) (by first | (rw [if_pos (by omega), if_pos (by omega), (w1 (by omega)).1] at hp; exact hp _ Fl.rf hk) | (rw [if_pos (by omega), if_neg (by omega), if_pos (by omega), (w1 (by omega)).2.1] at hp; exact hp _ Fl.rf hk) | (rw [if_pos (by omega), if_neg (by omega), if_neg (by omega), if_pos (by omega), (w1 (by omega)).2.2.1] at hp; exact hp _ Fl.rf hk) | (rw [if_pos (by omega), if_neg (by omega), if_neg (by omega), if_neg (by omega), if_pos (by omega), (w2 (by omega)).2.2] at hp; exact hp _ Fl.rf hk) | (rw [if_pos (by omega), if_neg (by omega), if_neg (by omega), if_neg (by omega), if_neg (by omega), if_pos (by omega), (w2 (by omega)).1] at hp; exact hp _ Fl.rf hk) | (rw [if_pos (by omega), if_neg (by omega), if_neg (by omega), if_neg (by omega), if_neg (by omega), if_neg (by omega), if_pos (by omega)] at hp; rw [show (if A (12 + 3 * q.toNat) = 1 then A 7 - A (13 + 3 * q.toNat) else 0) = r114 by (rw [(w2 (by omega)).1, (w2 (by omega)).2.1, c7]; split <;> omega)] at hp; exact hp _ Fl.rf hk) | (rw [if_pos (by omega), if_neg (by omega), if_neg (by omega), if_neg (by omega), if_neg (by omega), if_neg (by omega), if_neg (by omega), if_pos (by omega)] at hp; exact hp _ hF123 hS123) | (rw [if_pos (by omega), if_neg (by omega), if_neg (by omega), if_neg (by omega), if_neg (by omega), if_neg (by omega), if_neg (by omega), if_neg (by omega), if_pos (by omega)] at hp; exact hp _ hF132 hS132) | (rw [if_pos (by omega), if_neg (by omega), if_neg (by omega), if_neg (by omega), if_neg (by omega), if_neg (by omega), if_neg (by omega), if_neg (by omega), if_neg (by omega)] at hp; exact hp _ Fl.rf hk) | (rw [if_neg (by omega)] at hp; exact hp _ Fl.rf hk))
    by_cases t21_6 : w = 6
    · refine x_tableIn 118 dX11_of_21 (by omega) (by omega) (by rw [t21_6]; rfl) (by decide) ?_
      refine x_aload_n dX11_of_118 rfl ?_
      refine x_getR (b := 279) dX11_of_119 gf_RX11_24 (k_ob_0 cs) (fun _ _ => rfl) (k_r_0_2 cs) ?_
      refine x_iload_n dX11_of_122 rfl ?_
      refine x_callV1 (mc1 := 0) (ms1 := 0) dX11_of_123 cv_RX11_187 (ci := 3) (k_ob_279 cs) rfl (Nat.le_of_ble_eq_true rfl) (n1 := n - 1) (by omega) (by omega) (by omega) ?_
      refine sp_X3_dues cs hc hb hw hk (by omega) (by omega) (fun I123 hF123 hS123 => ?_)
      exact x_ireturn dX11_of_126 rfl (by omega) (by omega) (by first | (rw [if_pos (by omega), if_pos (by omega), (w1 (by omega)).1] at hp; exact hp _ Fl.rf hk) | (rw [if_pos (by omega), if_neg (by omega), if_pos (by omega), (w1 (by omega)).2.1] at hp; exact hp _ Fl.rf hk) | (rw [if_pos (by omega), if_neg (by omega), if_neg (by omega), if_pos (by omega), (w1 (by omega)).2.2.1] at hp; exact hp _ Fl.rf hk) | (rw [if_pos (by omega), if_neg (by omega), if_neg (by omega), if_neg (by omega), if_pos (by omega), (w2 (by omega)).2.2] at hp; exact hp _ Fl.rf hk) | (rw [if_pos (by omega), if_neg (by omega), if_neg (by omega), if_neg (by omega), if_neg (by omega), if_pos (by omega), (w2 (by omega)).1] at hp; exact hp _ Fl.rf hk) | (rw [if_pos (by omega), if_neg (by omega), if_neg (by omega), if_neg (by omega), if_neg (by omega), if_neg (by omega), if_pos (by omega)] at hp; rw [show (if A (12 + 3 * q.toNat) = 1 then A 7 - A (13 + 3 * q.toNat) else 0) = r114 by (rw [(w2 (by omega)).1, (w2 (by omega)).2.1, c7]; split <;> omega)] at hp; exact hp _ Fl.rf hk) | (rw [if_pos (by omega), if_neg (by omega), if_neg (by omega), if_neg (by omega), if_neg (by omega), if_neg (by omega), if_neg (by omega), if_pos (by omega)] at hp; exact hp _ hF123 hS123) | (rw [if_pos (by omega), if_neg (by omega), if_neg (by omega), if_neg (by omega), if_neg (by omega), if_neg (by omega), if_neg (by omega), if_neg (by omega), if_pos (by omega)] at hp; exact hp _ hF132 hS132) | (rw [if_pos (by omega), if_neg (by omega), if_neg (by omega), if_neg (by omega), if_neg (by omega), if_neg (by omega), if_neg (by omega), if_neg (by omega), if_neg (by omega)] at hp; exact hp _ Fl.rf hk) | (rw [if_neg (by omega)] at hp; exact hp _ Fl.rf hk))
    by_cases t21_7 : w = 7
    · refine x_tableIn 127 dX11_of_21 (by omega) (by omega) (by rw [t21_7]; rfl) (by decide) ?_
      refine x_aload_n dX11_of_127 rfl ?_
      refine x_getR (b := 279) dX11_of_128 gf_RX11_24 (k_ob_0 cs) (fun _ _ => rfl) (k_r_0_2 cs) ?_
      refine x_iload_n dX11_of_131 rfl ?_
      refine x_callV1 (mc1 := 0) (ms1 := 0) dX11_of_132 cv_RX11_190 (ci := 3) (k_ob_279 cs) rfl (Nat.le_of_ble_eq_true rfl) (n1 := n - 1) (by omega) (by omega) (by omega) ?_
      refine sp_X3_sells cs hc hb hw hk (by omega) (by omega) (fun I132 hF132 hS132 => ?_)
      exact x_ireturn dX11_of_135 rfl (by omega) (by omega) (by first | (rw [if_pos (by omega), if_pos (by omega), (w1 (by omega)).1] at hp; exact hp _ Fl.rf hk) | (rw [if_pos (by omega), if_neg (by omega), if_pos (by omega), (w1 (by omega)).2.1] at hp; exact hp _ Fl.rf hk) | (rw [if_pos (by omega), if_neg (by omega), if_neg (by omega), if_pos (by omega), (w1 (by omega)).2.2.1] at hp; exact hp _ Fl.rf hk) | (rw [if_pos (by omega), if_neg (by omega), if_neg (by omega), if_neg (by omega), if_pos (by omega), (w2 (by omega)).2.2] at hp; exact hp _ Fl.rf hk) | (rw [if_pos (by omega), if_neg (by omega), if_neg (by omega), if_neg (by omega), if_neg (by omega), if_pos (by omega), (w2 (by omega)).1] at hp; exact hp _ Fl.rf hk) | (rw [if_pos (by omega), if_neg (by omega), if_neg (by omega), if_neg (by omega), if_neg (by omega), if_neg (by omega), if_pos (by omega)] at hp; rw [show (if A (12 + 3 * q.toNat) = 1 then A 7 - A (13 + 3 * q.toNat) else 0) = r114 by (rw [(w2 (by omega)).1, (w2 (by omega)).2.1, c7]; split <;> omega)] at hp; exact hp _ Fl.rf hk) | (rw [if_pos (by omega), if_neg (by omega), if_neg (by omega), if_neg (by omega), if_neg (by omega), if_neg (by omega), if_neg (by omega), if_pos (by omega)] at hp; exact hp _ hF123 hS123) | (rw [if_pos (by omega), if_neg (by omega), if_neg (by omega), if_neg (by omega), if_neg (by omega), if_neg (by omega), if_neg (by omega), if_neg (by omega), if_pos (by omega)] at hp; exact hp _ hF132 hS132) | (rw [if_pos (by omega), if_neg (by omega), if_neg (by omega), if_neg (by omega), if_neg (by omega), if_neg (by omega), if_neg (by omega), if_neg (by omega), if_neg (by omega)] at hp; exact hp _ Fl.rf hk) | (rw [if_neg (by omega)] at hp; exact hp _ Fl.rf hk))
    refine x_tableOut 136 dX11_of_21 (by omega) (by omega) (by decide) ?_
    refine x_sipush dX11_of_136 (by decide) ?_
    exact x_ireturn dX11_of_139 rfl (by omega) (by omega) (by first | (rw [if_pos (by omega), if_pos (by omega), (w1 (by omega)).1] at hp; exact hp _ Fl.rf hk) | (rw [if_pos (by omega), if_neg (by omega), if_pos (by omega), (w1 (by omega)).2.1] at hp; exact hp _ Fl.rf hk) | (rw [if_pos (by omega), if_neg (by omega), if_neg (by omega), if_pos (by omega), (w1 (by omega)).2.2.1] at hp; exact hp _ Fl.rf hk) | (rw [if_pos (by omega), if_neg (by omega), if_neg (by omega), if_neg (by omega), if_pos (by omega), (w2 (by omega)).2.2] at hp; exact hp _ Fl.rf hk) | (rw [if_pos (by omega), if_neg (by omega), if_neg (by omega), if_neg (by omega), if_neg (by omega), if_pos (by omega), (w2 (by omega)).1] at hp; exact hp _ Fl.rf hk) | (rw [if_pos (by omega), if_neg (by omega), if_neg (by omega), if_neg (by omega), if_neg (by omega), if_neg (by omega), if_pos (by omega)] at hp; rw [show (if A (12 + 3 * q.toNat) = 1 then A 7 - A (13 + 3 * q.toNat) else 0) = r114 by (rw [(w2 (by omega)).1, (w2 (by omega)).2.1, c7]; split <;> omega)] at hp; exact hp _ Fl.rf hk) | (rw [if_pos (by omega), if_neg (by omega), if_neg (by omega), if_neg (by omega), if_neg (by omega), if_neg (by omega), if_neg (by omega), if_pos (by omega)] at hp; exact hp _ hF123 hS123) | (rw [if_pos (by omega), if_neg (by omega), if_neg (by omega), if_neg (by omega), if_neg (by omega), if_neg (by omega), if_neg (by omega), if_neg (by omega), if_pos (by omega)] at hp; exact hp _ hF132 hS132) | (rw [if_pos (by omega), if_neg (by omega), if_neg (by omega), if_neg (by omega), if_neg (by omega), if_neg (by omega), if_neg (by omega), if_neg (by omega), if_neg (by omega)] at hp; exact hp _ Fl.rf hk) | (rw [if_neg (by omega)] at hp; exact hp _ Fl.rf hk))
  · refine x_sipush dX11_of_16 (by decide) ?_
    exact x_ireturn dX11_of_19 rfl (by omega) (by omega) (by first | (rw [if_pos (by omega), if_pos (by omega), (w1 (by omega)).1] at hp; exact hp _ Fl.rf hk) | (rw [if_pos (by omega), if_neg (by omega), if_pos (by omega), (w1 (by omega)).2.1] at hp; exact hp _ Fl.rf hk) | (rw [if_pos (by omega), if_neg (by omega), if_neg (by omega), if_pos (by omega), (w1 (by omega)).2.2.1] at hp; exact hp _ Fl.rf hk) | (rw [if_pos (by omega), if_neg (by omega), if_neg (by omega), if_neg (by omega), if_pos (by omega), (w2 (by omega)).2.2] at hp; exact hp _ Fl.rf hk) | (rw [if_pos (by omega), if_neg (by omega), if_neg (by omega), if_neg (by omega), if_neg (by omega), if_pos (by omega), (w2 (by omega)).1] at hp; exact hp _ Fl.rf hk) | (rw [if_pos (by omega), if_neg (by omega), if_neg (by omega), if_neg (by omega), if_neg (by omega), if_neg (by omega), if_pos (by omega)] at hp; rw [show (if A (12 + 3 * q.toNat) = 1 then A 7 - A (13 + 3 * q.toNat) else 0) = r114 by (rw [(w2 (by omega)).1, (w2 (by omega)).2.1, c7]; split <;> omega)] at hp; exact hp _ Fl.rf hk) | (rw [if_pos (by omega), if_neg (by omega), if_neg (by omega), if_neg (by omega), if_neg (by omega), if_neg (by omega), if_neg (by omega), if_pos (by omega)] at hp; exact hp _ hF123 hS123) | (rw [if_pos (by omega), if_neg (by omega), if_neg (by omega), if_neg (by omega), if_neg (by omega), if_neg (by omega), if_neg (by omega), if_neg (by omega), if_pos (by omega)] at hp; exact hp _ hF132 hS132) | (rw [if_pos (by omega), if_neg (by omega), if_neg (by omega), if_neg (by omega), if_neg (by omega), if_neg (by omega), if_neg (by omega), if_neg (by omega), if_neg (by omega)] at hp; exact hp _ Fl.rf hk) | (rw [if_neg (by omega)] at hp; exact hp _ Fl.rf hk))
def dopL (A : Nat → Int) (tx : Nat → Nat → Int) : Nat → Int
  | 0 => 0
  | k + 1 => dopL A tx k + (if A (12 + 3 * k) = 1 then duesP A tx (A 2) k 0 (A 9) else 0)
theorem dX3_duesOfPawned_0 : decode prog_5_method_4_code 0 = .ok (.iconst 0, 1) := by decide +kernel
theorem dX3_duesOfPawned_1 : decode prog_5_method_4_code 1 = .ok (.istore_n 1, 1) := by decide +kernel
theorem dX3_duesOfPawned_2 : decode prog_5_method_4_code 2 = .ok (.iconst 0, 1) := by decide +kernel
theorem dX3_duesOfPawned_3 : decode prog_5_method_4_code 3 = .ok (.istore_n 2, 1) := by decide +kernel
theorem dX3_duesOfPawned_4 : decode prog_5_method_4_code 4 = .ok (.iload_n 2, 1) := by decide +kernel
theorem dX3_duesOfPawned_5 : decode prog_5_method_4_code 5 = .ok (.aload_n 0, 1) := by decide +kernel
theorem dX3_duesOfPawned_6 : decode prog_5_method_4_code 6 = .ok (.getfield 18, 3) := by decide +kernel
theorem dX3_duesOfPawned_9 : decode prog_5_method_4_code 9 = .ok (.getfield 28, 3) := by decide +kernel
theorem dX3_duesOfPawned_12 : decode prog_5_method_4_code 12 = .ok (.getfield 81, 3) := by decide +kernel
theorem dX3_duesOfPawned_15 : decode prog_5_method_4_code 15 = .ok (.if_icmp .ge 33, 3) := by decide +kernel
theorem dX3_duesOfPawned_18 : decode prog_5_method_4_code 18 = .ok (.aload_n 0, 1) := by decide +kernel
theorem dX3_duesOfPawned_19 : decode prog_5_method_4_code 19 = .ok (.getfield 18, 3) := by decide +kernel
theorem dX3_duesOfPawned_22 : decode prog_5_method_4_code 22 = .ok (.getfield 28, 3) := by decide +kernel
theorem dX3_duesOfPawned_25 : decode prog_5_method_4_code 25 = .ok (.getfield 84, 3) := by decide +kernel
theorem dX3_duesOfPawned_28 : decode prog_5_method_4_code 28 = .ok (.iload_n 2, 1) := by decide +kernel
theorem dX3_duesOfPawned_29 : decode prog_5_method_4_code 29 = .ok (.iaload, 1) := by decide +kernel
theorem dX3_duesOfPawned_30 : decode prog_5_method_4_code 30 = .ok (.iconst 1, 1) := by decide +kernel
theorem dX3_duesOfPawned_31 : decode prog_5_method_4_code 31 = .ok (.if_icmp .ne 11, 3) := by decide +kernel
theorem dX3_duesOfPawned_34 : decode prog_5_method_4_code 34 = .ok (.iload_n 1, 1) := by decide +kernel
theorem dX3_duesOfPawned_35 : decode prog_5_method_4_code 35 = .ok (.aload_n 0, 1) := by decide +kernel
theorem dX3_duesOfPawned_36 : decode prog_5_method_4_code 36 = .ok (.iload_n 2, 1) := by decide +kernel
theorem dX3_duesOfPawned_37 : decode prog_5_method_4_code 37 = .ok (.invokevirtual 87, 3) := by decide +kernel
theorem dX3_duesOfPawned_40 : decode prog_5_method_4_code 40 = .ok (.iadd, 1) := by decide +kernel
theorem dX3_duesOfPawned_41 : decode prog_5_method_4_code 41 = .ok (.istore_n 1, 1) := by decide +kernel
theorem dX3_duesOfPawned_42 : decode prog_5_method_4_code 42 = .ok (.iinc 2 1, 3) := by decide +kernel
theorem dX3_duesOfPawned_45 : decode prog_5_method_4_code 45 = .ok (.goto (-41), 3) := by decide +kernel
theorem dX3_duesOfPawned_48 : decode prog_5_method_4_code 48 = .ok (.iload_n 1, 1) := by decide +kernel
theorem dX3_duesOfPawned_49 : decode prog_5_method_4_code 49 = .ok (.ireturn, 1) := by decide +kernel
theorem lp_X3_duesOfPawned (cs : CS S R) (hn : 5 ≤ n) (hp : ∀ I', Fl I I' → SK I' → Post (some (.int (iI (dopL A tx (A 0).toNat)))) S I' R) : ∀ (d k : Nat) (J : CI), (k : Int) ≤ A 0 → (A 0).toNat - k = d → CIv S R J A tx → Fl I J → WP n 0 0 mX3_duesOfPawned Post 4 [(0, .ref (S.2.1 279)), (1, .int (iI (dopL A tx k))), (2, .int (iI (k : Int)))] [] 0 0 S J R := by
  intro d
  induction d using Nat.strongRecOn with
  | ind d ih =>
    intro k J k1 k2 hv hF
    obtain ⟨hc, hb, hw, hk⟩ := id hv
    obtain ⟨⟨⟨c0, c7, c8, c9, c10, c11⟩, cq⟩, ⟨⟨t1, t2, t3, t4, t5, t6, t7, t8, t9⟩, tq, th, tb, ts, td⟩, cb, cp⟩ := id hc
    dsimp only [Nat.reduceAdd] at c0 c7 c8 c9 c10 c11 cq t1 t2 t3 t4 t5 t6 t7 t8 t9 tq th tb ts td
    obtain ⟨⟨b0, b1, b2, b3, b4, bq, bl⟩, ⟨d1, d2, d3, d4, d5, d6, d7⟩, dq, dh, db, ds, dd, dp⟩ := id hb
    have b7 : 0 ≤ A 7 ∧ A 7 ≤ 9999 := b1
    have b8 : 0 ≤ A 8 ∧ A 8 ≤ 30870 := b2
    have b9 : 0 ≤ A 9 ∧ A 9 ≤ 9999 := b3
    have b10 : 0 ≤ A 10 ∧ A 10 ≤ 1 := b4
    have b11 : 0 ≤ A 11 ∧ A 11 ≤ 16 := by have h1 := lns_b (fun q => A (6 + 6 + 3 * q)) (A 0).toNat; have h2 : A 11 = _ := bl; omega
    refine x_iload_n dX3_duesOfPawned_4 rfl ?_
    refine x_aload_n dX3_duesOfPawned_5 rfl ?_
    refine x_getR (b := 1) dX3_duesOfPawned_6 gf_RX3_18 (k_ob_279 cs) (fun _ _ => rfl) (k_r_279_0 cs) ?_
    refine x_getR (b := 6) dX3_duesOfPawned_9 gf_RX3_28 (k_ob_1 cs) (fun _ _ => rfl) (k_r_1_4 cs) ?_
    refine x_getI dX3_duesOfPawned_12 gf_RX3_81 (k_ob_6 cs) (fun _ _ => rfl) ?_
    refine x_icmp_ge 48 dX3_duesOfPawned_15 (by decide) ⟨(by omega), (by omega)⟩ (fun w15 => ?_) (fun w15 => ?_)
    · refine x_iload_n dX3_duesOfPawned_48 rfl ?_
      exact x_ireturn dX3_duesOfPawned_49 rfl (by omega) (by omega) (by obtain rfl : k = (A 0).toNat := (by omega); exact hp _ hF hk)
    · refine x_aload_n dX3_duesOfPawned_18 rfl ?_
      refine x_getR (b := 1) dX3_duesOfPawned_19 gf_RX3_18 (k_ob_279 cs) (fun _ _ => rfl) (k_r_279_0 cs) ?_
      refine x_getR (b := 6) dX3_duesOfPawned_22 gf_RX3_28 (k_ob_1 cs) (fun _ _ => rfl) (k_r_1_4 cs) ?_
      refine x_getR (b := 7) dX3_duesOfPawned_25 gf_RX3_84 (k_ob_6 cs) (fun _ _ => rfl) (k_r_6_0 cs) ?_
      refine x_iload_n dX3_duesOfPawned_28 rfl ?_
      refine x_iaload dX3_duesOfPawned_29 (k_ar_7 cs) (by omega) (by omega) ?_
      have g1 := (cq k (by omega)).1
      have g2 := (bq k (by omega)).1
      rw [show 6 + 6 + 3 * k = 12 + 3 * k by omega] at g2
      rw [show ((k : Nat) : Int).toNat = k by omega, ← g1]
      refine x_iconst dX3_duesOfPawned_30 ?_
      refine x_icmp_ne 42 dX3_duesOfPawned_31 (by decide) ⟨(by omega), (by omega)⟩ (fun w31 => ?_) (fun w31 => ?_)
      · refine x_iinc (lv2 := [(2, _), (0, _), (1, _)]) dX3_duesOfPawned_42 rfl (by decide) rfl ?_
        refine x_goto 4 dX3_duesOfPawned_45 (by decide) ?_
        refine x_sub [1, 2, 0] rfl ?_
        first
          | (have es : dopL A tx (k + 1) = dopL A tx k := (by simp only [dopL]; rw [if_neg (by omega)]; omega)
             have hg := ih _ (by omega) (k + 1) J (by omega) rfl hv hF
             rw [es] at hg
             exact hg)
          | (have es : dopL A tx (k + 1) = dopL A tx k + duesP A tx (A 2) k 0 (A 9) := (by simp only [dopL]; rw [if_pos (by omega)])
             have hg := ih _ (by omega) (k + 1) I37 (by omega) rfl (hv.l hF37 hS37) (hF.tr hF37)
             rw [es] at hg
             exact hg)
      · refine x_iload_n dX3_duesOfPawned_34 rfl ?_
        refine x_aload_n dX3_duesOfPawned_35 rfl ?_
        refine x_iload_n dX3_duesOfPawned_36 rfl ?_
        refine x_callV1 (mc1 := 0) (ms1 := 0) dX3_duesOfPawned_37 cv_RX3_87 (ci := 3) (k_ob_279 cs) rfl (Nat.le_of_ble_eq_true rfl) (n1 := n - 1) (by omega) (by omega) (by omega) ?_
        refine sp_X3_dues cs hc hb hw hk (by omega) (by omega) (fun I37 hF37 hS37 => ?_)
        rw [show ((k : Nat) : Int).toNat = k by omega]
        refine x_iadd dX3_duesOfPawned_40 ?_
        refine x_istore_n (lv2 := [(1, _), (0, _), (2, _)]) dX3_duesOfPawned_41 (by decide) rfl ?_
        refine x_iinc (lv2 := [(2, _), (1, _), (0, _)]) dX3_duesOfPawned_42 rfl (by decide) rfl ?_
        refine x_goto 4 dX3_duesOfPawned_45 (by decide) ?_
        refine x_sub [2, 1, 0] rfl ?_
        first
          | (have es : dopL A tx (k + 1) = dopL A tx k := (by simp only [dopL]; rw [if_neg (by omega)]; omega)
             have hg := ih _ (by omega) (k + 1) J (by omega) rfl hv hF
             rw [es] at hg
             exact hg)
          | (have es : dopL A tx (k + 1) = dopL A tx k + duesP A tx (A 2) k 0 (A 9) := (by simp only [dopL]; rw [if_pos (by omega)])
             have hg := ih _ (by omega) (k + 1) I37 (by omega) rfl (hv.l hF37 hS37) (hF.tr hF37)
             rw [es] at hg
             exact hg)
theorem sp_X3_duesOfPawned  (cs : CS S R) (hv : CIv S R I A tx) (hn : 5 ≤ n) (hp : ∀ I', Fl I I' → SK I' → Post (some (.int (iI (dopL A tx (A 0).toNat)))) S I' R) : Call n 0 0 mX3_duesOfPawned [.ref (S.2.1 279)] S I R Post := by
  have b0 := hv.2.1.1.1
  refine Call.of (by decide +kernel) (Nat.le_of_ble_eq_true rfl) ?_
  show WP _ _ _ _ _ 0 [(0, _)] [] 0 0 _ _ _
  refine x_iconst dX3_duesOfPawned_0 ?_
  refine x_istore_n (lv2 := [(1, _), (0, _)]) dX3_duesOfPawned_1 (by decide) rfl ?_
  refine x_iconst dX3_duesOfPawned_2 ?_
  refine x_istore_n (lv2 := [(2, _), (1, _), (0, _)]) dX3_duesOfPawned_3 (by decide) rfl ?_
  refine x_sub [2, 1, 0] rfl ?_
  exact lp_X3_duesOfPawned cs hn hp _ 0 I (by omega) rfl hv Fl.rf
def f_is (A : Nat → Int) (tx : Nat → Nat → Int) (w : Int) : Int := if w = 0 then A 7 else if w = 1 then A 8 else if w = 2 then A 9 else if w = 3 then A 10 else if w = 4 then dopL A tx (A 0).toNat else -2
theorem dX11_is_0 : decode prog_1_method_16_code 0 = .ok (.iload_n 1, 1) := by decide +kernel
theorem dX11_is_1 : decode prog_1_method_16_code 1 = .ok (.tableswitch 87 0 4 #[35, 46, 57, 68, 79], 35) := by decide +kernel
theorem dX11_is_36 : decode prog_1_method_16_code 36 = .ok (.aload_n 0, 1) := by decide +kernel
theorem dX11_is_37 : decode prog_1_method_16_code 37 = .ok (.getfield 10, 3) := by decide +kernel
theorem dX11_is_40 : decode prog_1_method_16_code 40 = .ok (.getfield 127, 3) := by decide +kernel
theorem dX11_is_43 : decode prog_1_method_16_code 43 = .ok (.getfield 131, 3) := by decide +kernel
theorem dX11_is_46 : decode prog_1_method_16_code 46 = .ok (.ireturn, 1) := by decide +kernel
theorem dX11_is_47 : decode prog_1_method_16_code 47 = .ok (.aload_n 0, 1) := by decide +kernel
theorem dX11_is_48 : decode prog_1_method_16_code 48 = .ok (.getfield 10, 3) := by decide +kernel
theorem dX11_is_51 : decode prog_1_method_16_code 51 = .ok (.getfield 127, 3) := by decide +kernel
theorem dX11_is_54 : decode prog_1_method_16_code 54 = .ok (.getfield 152, 3) := by decide +kernel
theorem dX11_is_57 : decode prog_1_method_16_code 57 = .ok (.ireturn, 1) := by decide +kernel
theorem dX11_is_58 : decode prog_1_method_16_code 58 = .ok (.aload_n 0, 1) := by decide +kernel
theorem dX11_is_59 : decode prog_1_method_16_code 59 = .ok (.getfield 10, 3) := by decide +kernel
theorem dX11_is_62 : decode prog_1_method_16_code 62 = .ok (.getfield 127, 3) := by decide +kernel
theorem dX11_is_65 : decode prog_1_method_16_code 65 = .ok (.getfield 193, 3) := by decide +kernel
theorem dX11_is_68 : decode prog_1_method_16_code 68 = .ok (.ireturn, 1) := by decide +kernel
theorem dX11_is_69 : decode prog_1_method_16_code 69 = .ok (.aload_n 0, 1) := by decide +kernel
theorem dX11_is_70 : decode prog_1_method_16_code 70 = .ok (.getfield 10, 3) := by decide +kernel
theorem dX11_is_73 : decode prog_1_method_16_code 73 = .ok (.getfield 127, 3) := by decide +kernel
theorem dX11_is_76 : decode prog_1_method_16_code 76 = .ok (.getfield 196, 3) := by decide +kernel
theorem dX11_is_79 : decode prog_1_method_16_code 79 = .ok (.ireturn, 1) := by decide +kernel
theorem dX11_is_80 : decode prog_1_method_16_code 80 = .ok (.aload_n 0, 1) := by decide +kernel
theorem dX11_is_81 : decode prog_1_method_16_code 81 = .ok (.getfield 24, 3) := by decide +kernel
theorem dX11_is_84 : decode prog_1_method_16_code 84 = .ok (.invokevirtual 199, 3) := by decide +kernel
theorem dX11_is_87 : decode prog_1_method_16_code 87 = .ok (.ireturn, 1) := by decide +kernel
theorem dX11_is_88 : decode prog_1_method_16_code 88 = .ok (.bipush (-2), 2) := by decide +kernel
theorem dX11_is_90 : decode prog_1_method_16_code 90 = .ok (.ireturn, 1) := by decide +kernel
theorem sp_X11_is {w : Int} (cs : CS S R) (hv : CIv S R I A tx) (hw2 : Rg w) (hn : 6 ≤ n) (hp : ∀ I', Fl I I' → SK I' → Post (some (.int (iI (f_is A tx w)))) S I' R) : Call n 0 0 mX11_is [.ref (S.2.1 0), .int (iI w)] S I R Post := by
  obtain ⟨hc, hb, hw, hk⟩ := id hv
  obtain ⟨⟨⟨c0, c7, c8, c9, c10, c11⟩, cq⟩, ⟨⟨t1, t2, t3, t4, t5, t6, t7, t8, t9⟩, tq, th, tb, ts, td⟩, cb, cp⟩ := id hc
  dsimp only [Nat.reduceAdd] at c0 c7 c8 c9 c10 c11 cq t1 t2 t3 t4 t5 t6 t7 t8 t9 tq th tb ts td
  obtain ⟨⟨b0, b1, b2, b3, b4, bq, bl⟩, ⟨d1, d2, d3, d4, d5, d6, d7⟩, dq, dh, db, ds, dd, dp⟩ := id hb
  have b7 : 0 ≤ A 7 ∧ A 7 ≤ 9999 := b1
  have b8 : 0 ≤ A 8 ∧ A 8 ≤ 30870 := b2
  have b9 : 0 ≤ A 9 ∧ A 9 ≤ 9999 := b3
  have b10 : 0 ≤ A 10 ∧ A 10 ≤ 1 := b4
  have b11 : 0 ≤ A 11 ∧ A 11 ≤ 16 := by have h1 := lns_b (fun q => A (6 + 6 + 3 * q)) (A 0).toNat; have h2 : A 11 = _ := bl; omega
  unfold f_is at hp
  refine Call.of (by decide +kernel) (Nat.le_of_ble_eq_true rfl) ?_
  show WP _ _ _ _ _ 0 [(0, _), (1, _)] [] 0 0 _ _ _
  refine x_iload_n dX11_is_0 rfl ?_
  by_cases t1_0 : w = 0
  · refine x_tableIn 36 dX11_is_1 (by omega) (by omega) (by rw [t1_0]; rfl) (by decide) ?_
    refine x_aload_n dX11_is_36 rfl ?_
    refine x_getR (b := 1) dX11_is_37 gf_RX11_10 (k_ob_0 cs) (fun _ _ => rfl) (k_r_0_0 cs) ?_
    refine x_getR (b := 6) dX11_is_40 gf_RX11_127 (k_ob_1 cs) (fun _ _ => rfl) (k_r_1_4 cs) ?_
    refine x_getI dX11_is_43 gf_RX11_131 (k_ob_6 cs) (fun _ _ => rfl) ?_
    exact x_ireturn dX11_is_46 rfl (by omega) (by omega) (by first | (rw [if_pos (by omega), c7] at hp; exact hp _ Fl.rf hk) | (rw [if_neg (by omega), if_pos (by omega), c8] at hp; exact hp _ Fl.rf hk) | (rw [if_neg (by omega), if_neg (by omega), if_pos (by omega), c9] at hp; exact hp _ Fl.rf hk) | (rw [if_neg (by omega), if_neg (by omega), if_neg (by omega), if_pos (by omega), c10] at hp; exact hp _ Fl.rf hk) | (rw [if_neg (by omega), if_neg (by omega), if_neg (by omega), if_neg (by omega), if_pos (by omega)] at hp; exact hp _ hF84 hS84) | (rw [if_neg (by omega), if_neg (by omega), if_neg (by omega), if_neg (by omega), if_neg (by omega)] at hp; exact hp _ Fl.rf hk))
  by_cases t1_1 : w = 1
  · refine x_tableIn 47 dX11_is_1 (by omega) (by omega) (by rw [t1_1]; rfl) (by decide) ?_
    refine x_aload_n dX11_is_47 rfl ?_
    refine x_getR (b := 1) dX11_is_48 gf_RX11_10 (k_ob_0 cs) (fun _ _ => rfl) (k_r_0_0 cs) ?_
    refine x_getR (b := 6) dX11_is_51 gf_RX11_127 (k_ob_1 cs) (fun _ _ => rfl) (k_r_1_4 cs) ?_
    refine x_getI dX11_is_54 gf_RX11_152 (k_ob_6 cs) (fun _ _ => rfl) ?_
    exact x_ireturn dX11_is_57 rfl (by omega) (by omega) (by first | (rw [if_pos (by omega), c7] at hp; exact hp _ Fl.rf hk) | (rw [if_neg (by omega), if_pos (by omega), c8] at hp; exact hp _ Fl.rf hk) | (rw [if_neg (by omega), if_neg (by omega), if_pos (by omega), c9] at hp; exact hp _ Fl.rf hk) | (rw [if_neg (by omega), if_neg (by omega), if_neg (by omega), if_pos (by omega), c10] at hp; exact hp _ Fl.rf hk) | (rw [if_neg (by omega), if_neg (by omega), if_neg (by omega), if_neg (by omega), if_pos (by omega)] at hp; exact hp _ hF84 hS84) | (rw [if_neg (by omega), if_neg (by omega), if_neg (by omega), if_neg (by omega), if_neg (by omega)] at hp; exact hp _ Fl.rf hk))
  by_cases t1_2 : w = 2
  · refine x_tableIn 58 dX11_is_1 (by omega) (by omega) (by rw [t1_2]; rfl) (by decide) ?_
    refine x_aload_n dX11_is_58 rfl ?_
    refine x_getR (b := 1) dX11_is_59 gf_RX11_10 (k_ob_0 cs) (fun _ _ => rfl) (k_r_0_0 cs) ?_
    refine x_getR (b := 6) dX11_is_62 gf_RX11_127 (k_ob_1 cs) (fun _ _ => rfl) (k_r_1_4 cs) ?_
    refine x_getI dX11_is_65 gf_RX11_193 (k_ob_6 cs) (fun _ _ => rfl) ?_
    exact x_ireturn dX11_is_68 rfl (by omega) (by omega) (by first | (rw [if_pos (by omega), c7] at hp; exact hp _ Fl.rf hk) | (rw [if_neg (by omega), if_pos (by omega), c8] at hp; exact hp _ Fl.rf hk) | (rw [if_neg (by omega), if_neg (by omega), if_pos (by omega), c9] at hp; exact hp _ Fl.rf hk) | (rw [if_neg (by omega), if_neg (by omega), if_neg (by omega), if_pos (by omega), c10] at hp; exact hp _ Fl.rf hk) | (rw [if_neg (by omega), if_neg (by omega), if_neg (by omega), if_neg (by omega), if_pos (by omega)] at hp; exact hp _ hF84 hS84) | (rw [if_neg (by omega), if_neg (by omega), if_neg (by omega), if_neg (by omega), if_neg (by omega)] at hp; exact hp _ Fl.rf hk))
  by_cases t1_3 : w = 3
  · refine x_tableIn 69 dX11_is_1 (by omega) (by omega) (by rw [t1_3]; rfl) (by decide) ?_
    refine x_aload_n dX11_is_69 rfl ?_
    refine x_getR (b := 1) dX11_is_70 gf_RX11_10 (k_ob_0 cs) (fun _ _ => rfl) (k_r_0_0 cs) ?_
    refine x_getR (b := 6) dX11_is_73 gf_RX11_127 (k_ob_1 cs) (fun _ _ => rfl) (k_r_1_4 cs) ?_
    refine x_getI dX11_is_76 gf_RX11_196 (k_ob_6 cs) (fun _ _ => rfl) ?_
    exact x_ireturn dX11_is_79 rfl (by omega) (by omega) (by first | (rw [if_pos (by omega), c7] at hp; exact hp _ Fl.rf hk) | (rw [if_neg (by omega), if_pos (by omega), c8] at hp; exact hp _ Fl.rf hk) | (rw [if_neg (by omega), if_neg (by omega), if_pos (by omega), c9] at hp; exact hp _ Fl.rf hk) | (rw [if_neg (by omega), if_neg (by omega), if_neg (by omega), if_pos (by omega), c10] at hp; exact hp _ Fl.rf hk) | (rw [if_neg (by omega), if_neg (by omega), if_neg (by omega), if_neg (by omega), if_pos (by omega)] at hp; exact hp _ hF84 hS84) | (rw [if_neg (by omega), if_neg (by omega), if_neg (by omega), if_neg (by omega), if_neg (by omega)] at hp; exact hp _ Fl.rf hk))
  by_cases t1_4 : w = 4
  · refine x_tableIn 80 dX11_is_1 (by omega) (by omega) (by rw [t1_4]; rfl) (by decide) ?_
    refine x_aload_n dX11_is_80 rfl ?_
    refine x_getR (b := 279) dX11_is_81 gf_RX11_24 (k_ob_0 cs) (fun _ _ => rfl) (k_r_0_2 cs) ?_
    refine x_callV0 (mc1 := 0) (ms1 := 0) dX11_is_84 cv_RX11_199 (ci := 3) (k_ob_279 cs) rfl (Nat.le_of_ble_eq_true rfl) (n1 := n - 1) (by omega) (by omega) (by omega) ?_
    refine sp_X3_duesOfPawned cs hv (by omega) (fun I84 hF84 hS84 => ?_)
    exact x_ireturn dX11_is_87 rfl (by omega) (by omega) (by first | (rw [if_pos (by omega), c7] at hp; exact hp _ Fl.rf hk) | (rw [if_neg (by omega), if_pos (by omega), c8] at hp; exact hp _ Fl.rf hk) | (rw [if_neg (by omega), if_neg (by omega), if_pos (by omega), c9] at hp; exact hp _ Fl.rf hk) | (rw [if_neg (by omega), if_neg (by omega), if_neg (by omega), if_pos (by omega), c10] at hp; exact hp _ Fl.rf hk) | (rw [if_neg (by omega), if_neg (by omega), if_neg (by omega), if_neg (by omega), if_pos (by omega)] at hp; exact hp _ hF84 hS84) | (rw [if_neg (by omega), if_neg (by omega), if_neg (by omega), if_neg (by omega), if_neg (by omega)] at hp; exact hp _ Fl.rf hk))
  refine x_tableOut 88 dX11_is_1 (by omega) (by omega) (by decide) ?_
  refine x_bipush dX11_is_88 (by decide) ?_
  exact x_ireturn dX11_is_90 rfl (by omega) (by omega) (by first | (rw [if_pos (by omega), c7] at hp; exact hp _ Fl.rf hk) | (rw [if_neg (by omega), if_pos (by omega), c8] at hp; exact hp _ Fl.rf hk) | (rw [if_neg (by omega), if_neg (by omega), if_pos (by omega), c9] at hp; exact hp _ Fl.rf hk) | (rw [if_neg (by omega), if_neg (by omega), if_neg (by omega), if_pos (by omega), c10] at hp; exact hp _ Fl.rf hk) | (rw [if_neg (by omega), if_neg (by omega), if_neg (by omega), if_neg (by omega), if_pos (by omega)] at hp; exact hp _ hF84 hS84) | (rw [if_neg (by omega), if_neg (by omega), if_neg (by omega), if_neg (by omega), if_neg (by omega)] at hp; exact hp _ Fl.rf hk))
theorem dX3_agrees_0 : decode prog_5_method_6_code 0 = .ok (.aload_n 0, 1) := by decide +kernel
theorem dX3_agrees_1 : decode prog_5_method_6_code 1 = .ok (.getfield 18, 3) := by decide +kernel
theorem dX3_agrees_4 : decode prog_5_method_6_code 4 = .ok (.getfield 100, 3) := by decide +kernel
theorem dX3_agrees_7 : decode prog_5_method_6_code 7 = .ok (.astore_n 2, 1) := by decide +kernel
theorem dX3_agrees_8 : decode prog_5_method_6_code 8 = .ok (.iconst 0, 1) := by decide +kernel
theorem dX3_agrees_9 : decode prog_5_method_6_code 9 = .ok (.istore_n 3, 1) := by decide +kernel
theorem dX3_agrees_10 : decode prog_5_method_6_code 10 = .ok (.iload_n 3, 1) := by decide +kernel
theorem dX3_agrees_11 : decode prog_5_method_6_code 11 = .ok (.aload_n 2, 1) := by decide +kernel
theorem dX3_agrees_12 : decode prog_5_method_6_code 12 = .ok (.getfield 104, 3) := by decide +kernel
theorem dX3_agrees_15 : decode prog_5_method_6_code 15 = .ok (.if_icmp .ge 42, 3) := by decide +kernel
theorem dX3_agrees_18 : decode prog_5_method_6_code 18 = .ok (.aload_n 0, 1) := by decide +kernel
theorem dX3_agrees_19 : decode prog_5_method_6_code 19 = .ok (.iload_n 1, 1) := by decide +kernel
theorem dX3_agrees_20 : decode prog_5_method_6_code 20 = .ok (.aload_n 2, 1) := by decide +kernel
theorem dX3_agrees_21 : decode prog_5_method_6_code 21 = .ok (.getfield 109, 3) := by decide +kernel
theorem dX3_agrees_24 : decode prog_5_method_6_code 24 = .ok (.iload_n 3, 1) := by decide +kernel
theorem dX3_agrees_25 : decode prog_5_method_6_code 25 = .ok (.iaload, 1) := by decide +kernel
theorem dX3_agrees_26 : decode prog_5_method_6_code 26 = .ok (.iconst 0, 1) := by decide +kernel
theorem dX3_agrees_27 : decode prog_5_method_6_code 27 = .ok (.aload_n 0, 1) := by decide +kernel
theorem dX3_agrees_28 : decode prog_5_method_6_code 28 = .ok (.getfield 18, 3) := by decide +kernel
theorem dX3_agrees_31 : decode prog_5_method_6_code 31 = .ok (.getfield 28, 3) := by decide +kernel
theorem dX3_agrees_34 : decode prog_5_method_6_code 34 = .ok (.getfield 32, 3) := by decide +kernel
theorem dX3_agrees_37 : decode prog_5_method_6_code 37 = .ok (.invokevirtual 37, 3) := by decide +kernel
theorem dX3_agrees_40 : decode prog_5_method_6_code 40 = .ok (.aload_n 2, 1) := by decide +kernel
theorem dX3_agrees_41 : decode prog_5_method_6_code 41 = .ok (.getfield 112, 3) := by decide +kernel
theorem dX3_agrees_44 : decode prog_5_method_6_code 44 = .ok (.iload_n 3, 1) := by decide +kernel
theorem dX3_agrees_45 : decode prog_5_method_6_code 45 = .ok (.iaload, 1) := by decide +kernel
theorem dX3_agrees_46 : decode prog_5_method_6_code 46 = .ok (.if_icmp .eq 5, 3) := by decide +kernel
theorem dX3_agrees_49 : decode prog_5_method_6_code 49 = .ok (.iconst 0, 1) := by decide +kernel
theorem dX3_agrees_50 : decode prog_5_method_6_code 50 = .ok (.ireturn, 1) := by decide +kernel
theorem dX3_agrees_51 : decode prog_5_method_6_code 51 = .ok (.iinc 3 1, 3) := by decide +kernel
theorem dX3_agrees_54 : decode prog_5_method_6_code 54 = .ok (.goto (-44), 3) := by decide +kernel
theorem dX3_agrees_57 : decode prog_5_method_6_code 57 = .ok (.iconst 1, 1) := by decide +kernel
theorem dX3_agrees_58 : decode prog_5_method_6_code 58 = .ok (.ireturn, 1) := by decide +kernel
/-- by this text all that was said is so -/
def agP (A : Nat → Int) (tx : Nat → Nat → Int) (t : Int) (k : Nat) : Prop := ∀ i : Nat, i < k → duesP A tx t (A (94 + 2 * i)).toNat 0 (A 9) = A (95 + 2 * i)
theorem lp_X3_agrees {t : Int} (cs : CS S R) (ht : Rg t) (hn : 4 ≤ n) (hp : ∀ I' r, Fl I I' → SK I' → (r = 1 ∧ agP A tx t (A 6).toNat ∨ r = 0 ∧ ¬ agP A tx t (A 6).toNat) → Post (some (.int (iI r))) S I' R) : ∀ (d k : Nat) (J : CI), (k : Int) ≤ A 6 → (A 6).toNat - k = d → CIv S R J A tx → Fl I J → agP A tx t k → WP n 0 0 mX3_agrees Post 10 [(0, .ref (S.2.1 279)), (1, .int (iI t)), (2, .ref (S.2.1 13)), (3, .int (iI (k : Int)))] [] 0 0 S J R := by
  intro d
  induction d using Nat.strongRecOn with
  | ind d ih =>
    intro k J k1 k2 hv hF hag
    obtain ⟨hc, hb, hw, hk⟩ := id hv
    obtain ⟨⟨⟨c0, c7, c8, c9, c10, c11⟩, cq⟩, ⟨⟨t1, t2, t3, t4, t5, t6, t7, t8, t9⟩, tq, th, tb, ts, td⟩, cb, cp⟩ := id hc
    dsimp only [Nat.reduceAdd] at c0 c7 c8 c9 c10 c11 cq t1 t2 t3 t4 t5 t6 t7 t8 t9 tq th tb ts td
    obtain ⟨⟨b0, b1, b2, b3, b4, bq, bl⟩, ⟨d1, d2, d3, d4, d5, d6, d7⟩, dq, dh, db, ds, dd, dp⟩ := id hb
    have b7 : 0 ≤ A 7 ∧ A 7 ≤ 9999 := b1
    have b8 : 0 ≤ A 8 ∧ A 8 ≤ 30870 := b2
    have b9 : 0 ≤ A 9 ∧ A 9 ≤ 9999 := b3
    have b10 : 0 ≤ A 10 ∧ A 10 ≤ 1 := b4
    have b11 : 0 ≤ A 11 ∧ A 11 ≤ 16 := by have h1 := lns_b (fun q => A (6 + 6 + 3 * q)) (A 0).toNat; have h2 : A 11 = _ := bl; omega
    refine x_iload_n dX3_agrees_10 rfl ?_
    refine x_aload_n dX3_agrees_11 rfl ?_
    refine x_getIv (z := A 6) dX3_agrees_12 gf_RX3_104 (k_ob_13 cs) (fun _ _ => rfl) (by exact t6.symm) ?_
    refine x_icmp_ge 57 dX3_agrees_15 (by decide) ⟨(by omega), (by omega)⟩ (fun w15 => ?_) (fun w15 => ?_)
    · refine x_iconst dX3_agrees_57 ?_
      exact x_zreturn (by omega) dX3_agrees_58 rfl (by omega) (by omega) (by first | (obtain rfl : k = (A 6).toNat := (by omega); exact hp _ 1 hF hk (Or.inl ⟨rfl, hag⟩)) | exact hp _ 0 (hF.tr hF37) hS37 (Or.inr ⟨rfl, fun z => by have := z k (by omega); omega⟩))
    · refine x_aload_n dX3_agrees_18 rfl ?_
      refine x_iload_n dX3_agrees_19 rfl ?_
      refine x_aload_n dX3_agrees_20 rfl ?_
      refine x_getR (b := 18) dX3_agrees_21 gf_RX3_109 (k_ob_13 cs) (fun _ _ => rfl) (k_r_13_4 cs) ?_
      refine x_iload_n dX3_agrees_24 rfl ?_
      refine x_iaload dX3_agrees_25 (k_ar_18 cs) (by omega) (by omega) ?_
      have g1 := (ts k (by omega)).1
      have g2 := (ts k (by omega)).2
      have g3 := ds k (by omega)
      rw [show ((k : Nat) : Int).toNat = k by omega, ← g1]
      refine x_iconst dX3_agrees_26 ?_
      refine x_aload_n dX3_agrees_27 rfl ?_
      refine x_getR (b := 1) dX3_agrees_28 gf_RX3_18 (k_ob_279 cs) (fun _ _ => rfl) (k_r_279_0 cs) ?_
      refine x_getR (b := 6) dX3_agrees_31 gf_RX3_28 (k_ob_1 cs) (fun _ _ => rfl) (k_r_1_4 cs) ?_
      refine x_getI dX3_agrees_34 gf_RX3_32 (k_ob_6 cs) (fun _ _ => rfl) ?_
      rw [← c9]
      refine x_callV4 (mc1 := 0) (ms1 := 0) dX3_agrees_37 cv_RX3_37 (ci := 3) (k_ob_279 cs) rfl (Nat.le_of_ble_eq_true rfl) (n1 := n - 1) (by omega) (by omega) (by omega) ?_
      refine sp_X3_duesBy cs hc hb hw hk (by omega) (by omega) (by omega) (by omega) (by omega) (fun I37 hF37 hS37 => ?_)
      refine x_aload_n dX3_agrees_40 rfl ?_
      refine x_getR (b := 19) dX3_agrees_41 gf_RX3_112 (k_ob_13 cs) (fun _ _ => rfl) (k_r_13_5 cs) ?_
      refine x_iload_n dX3_agrees_44 rfl ?_
      refine x_iaload dX3_agrees_45 (k_ar_19 cs) (by omega) (by omega) ?_
      rw [hF37 19 (by omega) (by omega), show ((k : Nat) : Int).toNat = k by omega, ← g2]
      have db2 := duesP_b A tx t (A (94 + 2 * k)).toNat 0 (A 9)
      refine x_icmp_eq 51 dX3_agrees_46 (by decide) ⟨(by omega), (by omega)⟩ (fun w46 => ?_) (fun w46 => ?_)
      · refine x_iinc (lv2 := [(3, _), (0, _), (1, _), (2, _)]) dX3_agrees_51 rfl (by decide) rfl ?_
        refine x_goto 10 dX3_agrees_54 (by decide) ?_
        refine x_sub [1, 2, 3, 0] rfl ?_
        exact ih _ (by omega) (k + 1) I37 (by omega) rfl (hv.l hF37 hS37) (hF.tr hF37) (fun i hi => by
          by_cases e : i = k
          · subst e; omega
          · exact hag i (by omega))
      · refine x_iconst dX3_agrees_49 ?_
        exact x_zreturn (by omega) dX3_agrees_50 rfl (by omega) (by omega) (by first | (obtain rfl : k = (A 6).toNat := (by omega); exact hp _ 1 hF hk (Or.inl ⟨rfl, hag⟩)) | exact hp _ 0 (hF.tr hF37) hS37 (Or.inr ⟨rfl, fun z => by have := z k (by omega); omega⟩))
theorem sp_X3_agrees {t : Int} (cs : CS S R) (hv : CIv S R I A tx) (ht : Rg t) (hn : 4 ≤ n) (hp : ∀ I' r, Fl I I' → SK I' → (r = 1 ∧ agP A tx t (A 6).toNat ∨ r = 0 ∧ ¬ agP A tx t (A 6).toNat) → Post (some (.int (iI r))) S I' R) : Call n 0 0 mX3_agrees [.ref (S.2.1 279), .int (iI t)] S I R Post := by
  have b6 := hv.2.1.2.1.2.2.2.2.2.1
  refine Call.of (by decide +kernel) (Nat.le_of_ble_eq_true rfl) ?_
  show WP _ _ _ _ _ 0 [(0, _), (1, _)] [] 0 0 _ _ _
  refine x_aload_n dX3_agrees_0 rfl ?_
  refine x_getR (b := 1) dX3_agrees_1 gf_RX3_18 (k_ob_279 cs) (fun _ _ => rfl) (k_r_279_0 cs) ?_
  refine x_getR (b := 13) dX3_agrees_4 gf_RX3_100 (k_ob_1 cs) (fun _ _ => rfl) (k_r_1_8 cs) ?_
  refine x_astore_n (lv2 := [(2, _), (0, _), (1, _)]) dX3_agrees_7 (by decide) rfl ?_
  refine x_iconst dX3_agrees_8 ?_
  refine x_istore_n (lv2 := [(3, _), (2, _), (0, _), (1, _)]) dX3_agrees_9 (by decide) rfl ?_
  refine x_sub [2, 3, 1, 0] rfl ?_
  exact lp_X3_agrees cs ht hn hp _ 0 I (by omega) rfl hv Fl.rf (fun i hi => by omega)
end Cls8
