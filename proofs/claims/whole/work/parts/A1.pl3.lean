section Pl3s
variable {n mc ms : Nat} {M : Md} {pc : Nat} {lv : List (Nat × Value)} {st : List Value} {k j : Nat} {Post : PT} {S : Sh} {I : CI} {R : CR} {A : Nat → Int} {tx : Nat → Nat → Int}
theorem dX12_layPlan_0 : decode prog_14_method_126_code 0 = .ok (.iload_n 1, 1) := by decide +kernel
theorem dX12_layPlan_1 : decode prog_14_method_126_code 1 = .ok (.invokestatic 327, 3) := by decide +kernel
theorem dX12_layPlan_4 : decode prog_14_method_126_code 4 = .ok (.istore_n 2, 1) := by decide +kernel
theorem dX12_layPlan_5 : decode prog_14_method_126_code 5 = .ok (.aload_n 0, 1) := by decide +kernel
theorem dX12_layPlan_6 : decode prog_14_method_126_code 6 = .ok (.iconst (-1), 1) := by decide +kernel
theorem dX12_layPlan_7 : decode prog_14_method_126_code 7 = .ok (.putfield 445, 3) := by decide +kernel
theorem dX12_layPlan_10 : decode prog_14_method_126_code 10 = .ok (.iconst 0, 1) := by decide +kernel
theorem dX12_layPlan_11 : decode prog_14_method_126_code 11 = .ok (.istore_n 3, 1) := by decide +kernel
theorem dX12_layPlan_12 : decode prog_14_method_126_code 12 = .ok (.iload_n 3, 1) := by decide +kernel
theorem dX12_layPlan_13 : decode prog_14_method_126_code 13 = .ok (.iload_n 2, 1) := by decide +kernel
theorem dX12_layPlan_14 : decode prog_14_method_126_code 14 = .ok (.invokestatic 442, 3) := by decide +kernel
theorem dX12_layPlan_17 : decode prog_14_method_126_code 17 = .ok (.if_icmp .ge 112, 3) := by decide +kernel
theorem dX12_layPlan_20 : decode prog_14_method_126_code 20 = .ok (.aload_n 0, 1) := by decide +kernel
theorem dX12_layPlan_21 : decode prog_14_method_126_code 21 = .ok (.iload_n 1, 1) := by decide +kernel
theorem dX12_layPlan_22 : decode prog_14_method_126_code 22 = .ok (.iload_n 3, 1) := by decide +kernel
theorem dX12_layPlan_23 : decode prog_14_method_126_code 23 = .ok (.iload_n 2, 1) := by decide +kernel
theorem dX12_layPlan_24 : decode prog_14_method_126_code 24 = .ok (.invokevirtual 448, 3) := by decide +kernel
theorem dX12_layPlan_27 : decode prog_14_method_126_code 27 = .ok (.aload_n 0, 1) := by decide +kernel
theorem dX12_layPlan_28 : decode prog_14_method_126_code 28 = .ok (.iload_n 2, 1) := by decide +kernel
theorem dX12_layPlan_29 : decode prog_14_method_126_code 29 = .ok (.invokevirtual 452, 3) := by decide +kernel
theorem dX12_layPlan_32 : decode prog_14_method_126_code 32 = .ok (.istore 4, 2) := by decide +kernel
theorem dX12_layPlan_34 : decode prog_14_method_126_code 34 = .ok (.iload 4, 2) := by decide +kernel
theorem dX12_layPlan_36 : decode prog_14_method_126_code 36 = .ok (.iconst (-1), 1) := by decide +kernel
theorem dX12_layPlan_37 : decode prog_14_method_126_code 37 = .ok (.if_icmp .eq 86, 3) := by decide +kernel
theorem dX12_layPlan_40 : decode prog_14_method_126_code 40 = .ok (.aload_n 0, 1) := by decide +kernel
theorem dX12_layPlan_41 : decode prog_14_method_126_code 41 = .ok (.getfield 445, 3) := by decide +kernel
theorem dX12_layPlan_44 : decode prog_14_method_126_code 44 = .ok (.iconst (-1), 1) := by decide +kernel
theorem dX12_layPlan_45 : decode prog_14_method_126_code 45 = .ok (.if_icmp .eq 35, 3) := by decide +kernel
theorem dX12_layPlan_48 : decode prog_14_method_126_code 48 = .ok (.iload 4, 2) := by decide +kernel
theorem dX12_layPlan_50 : decode prog_14_method_126_code 50 = .ok (.aload_n 0, 1) := by decide +kernel
theorem dX12_layPlan_51 : decode prog_14_method_126_code 51 = .ok (.getfield 445, 3) := by decide +kernel
theorem dX12_layPlan_54 : decode prog_14_method_126_code 54 = .ok (.if_icmp .gt 69, 3) := by decide +kernel
theorem dX12_layPlan_57 : decode prog_14_method_126_code 57 = .ok (.iload 4, 2) := by decide +kernel
theorem dX12_layPlan_59 : decode prog_14_method_126_code 59 = .ok (.aload_n 0, 1) := by decide +kernel
theorem dX12_layPlan_60 : decode prog_14_method_126_code 60 = .ok (.getfield 445, 3) := by decide +kernel
theorem dX12_layPlan_63 : decode prog_14_method_126_code 63 = .ok (.if_icmp .ne 17, 3) := by decide +kernel
theorem dX12_layPlan_66 : decode prog_14_method_126_code 66 = .ok (.aload_n 0, 1) := by decide +kernel
theorem dX12_layPlan_67 : decode prog_14_method_126_code 67 = .ok (.getfield 439, 3) := by decide +kernel
theorem dX12_layPlan_70 : decode prog_14_method_126_code 70 = .ok (.aload_n 0, 1) := by decide +kernel
theorem dX12_layPlan_71 : decode prog_14_method_126_code 71 = .ok (.getfield 455, 3) := by decide +kernel
theorem dX12_layPlan_74 : decode prog_14_method_126_code 74 = .ok (.if_icmp .lt 6, 3) := by decide +kernel
theorem dX12_layPlan_77 : decode prog_14_method_126_code 77 = .ok (.goto 46, 3) := by decide +kernel
theorem dX12_layPlan_80 : decode prog_14_method_126_code 80 = .ok (.aload_n 0, 1) := by decide +kernel
theorem dX12_layPlan_81 : decode prog_14_method_126_code 81 = .ok (.iload 4, 2) := by decide +kernel
theorem dX12_layPlan_83 : decode prog_14_method_126_code 83 = .ok (.putfield 445, 3) := by decide +kernel
theorem dX12_layPlan_86 : decode prog_14_method_126_code 86 = .ok (.aload_n 0, 1) := by decide +kernel
theorem dX12_layPlan_87 : decode prog_14_method_126_code 87 = .ok (.aload_n 0, 1) := by decide +kernel
theorem dX12_layPlan_88 : decode prog_14_method_126_code 88 = .ok (.getfield 439, 3) := by decide +kernel
theorem dX12_layPlan_91 : decode prog_14_method_126_code 91 = .ok (.putfield 455, 3) := by decide +kernel
theorem dX12_layPlan_94 : decode prog_14_method_126_code 94 = .ok (.iconst 0, 1) := by decide +kernel
theorem dX12_layPlan_95 : decode prog_14_method_126_code 95 = .ok (.istore 5, 2) := by decide +kernel
theorem dX12_layPlan_97 : decode prog_14_method_126_code 97 = .ok (.iload 5, 2) := by decide +kernel
theorem dX12_layPlan_99 : decode prog_14_method_126_code 99 = .ok (.iload_n 2, 1) := by decide +kernel
theorem dX12_layPlan_100 : decode prog_14_method_126_code 100 = .ok (.if_icmp .ge 23, 3) := by decide +kernel
theorem dX12_layPlan_103 : decode prog_14_method_126_code 103 = .ok (.aload_n 0, 1) := by decide +kernel
theorem dX12_layPlan_104 : decode prog_14_method_126_code 104 = .ok (.getfield 59, 3) := by decide +kernel
theorem dX12_layPlan_107 : decode prog_14_method_126_code 107 = .ok (.iload 5, 2) := by decide +kernel
theorem dX12_layPlan_109 : decode prog_14_method_126_code 109 = .ok (.aload_n 0, 1) := by decide +kernel
theorem dX12_layPlan_110 : decode prog_14_method_126_code 110 = .ok (.getfield 56, 3) := by decide +kernel
theorem dX12_layPlan_113 : decode prog_14_method_126_code 113 = .ok (.iload 5, 2) := by decide +kernel
theorem dX12_layPlan_115 : decode prog_14_method_126_code 115 = .ok (.iaload, 1) := by decide +kernel
theorem dX12_layPlan_116 : decode prog_14_method_126_code 116 = .ok (.iastore, 1) := by decide +kernel
theorem dX12_layPlan_117 : decode prog_14_method_126_code 117 = .ok (.iinc 5 1, 3) := by decide +kernel
theorem dX12_layPlan_120 : decode prog_14_method_126_code 120 = .ok (.goto (-23), 3) := by decide +kernel
theorem dX12_layPlan_123 : decode prog_14_method_126_code 123 = .ok (.iinc 3 1, 3) := by decide +kernel
theorem dX12_layPlan_126 : decode prog_14_method_126_code 126 = .ok (.goto (-114), 3) := by decide +kernel
theorem dX12_layPlan_129 : decode prog_14_method_126_code 129 = .ok (.return_, 1) := by decide +kernel
def RlR (n0 : Nat) (J : CI) (b : BST) : Prop := match b with
  | none => J 306 31 = -1
  | some (d, p, o) => J 306 31 = d ∧ (0 ≤ d ∧ d ≤ 60) ∧ J 306 32 = p ∧ (0 ≤ p ∧ p ≤ 50000) ∧ o.length = n0 ∧ ∀ k, k < n0 → J 319 k = ((o.getD k 0 : Nat) : Int)
theorem RlR.w {n0 : Nat} {J K : CI} {b : BST} (h : RlR n0 J b) (e1 : K 306 31 = J 306 31) (e2 : K 306 32 = J 306 32) (e3 : K 319 = J 319) : RlR n0 K b := by
  cases b with
  | none => exact e1.trans h
  | some x =>
    obtain ⟨d, p, o⟩ := x
    obtain ⟨h1, h2, h3, h4, h5, h6⟩ := h
    exact ⟨e1.trans h1, h2, e2.trans h3, h4, h5, fun k hk => by rw [e3]; exact h6 k hk⟩
def Fpl (I J : CI) : Prop := (∀ c, c ≠ 306 → c ≠ 312 → c ≠ 313 → c ≠ 314 → c ≠ 318 → c ≠ 319 → J c = I c) ∧ ∀ q, (q < 30 ∨ 32 < q) → J 306 q = I 306 q
theorem Fpl.rf : Fpl I I := ⟨fun _ _ _ _ _ _ _ => rfl, fun _ _ => rfl⟩
theorem Fpl.tr {J K : CI} (h : Fpl I J) (h2 : Fpl J K) : Fpl I K := ⟨fun c a b d e f g => (h2.1 c a b d e f g).trans (h.1 c a b d e f g), fun q a => (h2.2 q a).trans (h.2 q a)⟩
theorem Fdn.fpl {J : CI} (h : Fdn I J) : Fpl I J := ⟨fun c a b d e _ _ => h.1 c a b d e, fun q _ => h.2 q (by omega)⟩
theorem Fpl.u6 {J : CI} {q : Nat} {v : Int} (h : Fpl I J) (hq : 30 ≤ q ∧ q ≤ 32) : Fpl I (uI J 306 q v) := ⟨fun c a b d e f g => by rw [uI_row a]; exact h.1 c a b d e f g, fun i a => by rw [uI_o (by omega)]; exact h.2 i a⟩
theorem lp_cpo {s c n0 : Nat} (cs : CS S R) (h5 : n0 ≤ 5) (hK : ∀ K, (∀ x, x ≠ 319 → K x = I x) → (∀ i, i < n0 → K 319 i = I 318 i) → WP n 0 0 mX12_layPlan Post 123 [(0, .ref (S.2.1 306)), (1, .int (iI (s : Int))), (2, .int (iI (n0 : Int))), (3, .int (iI (c : Int)))] [] 0 0 S K R) : ∀ (d q : Nat) (K : CI), q ≤ n0 → n0 - q = d → (∀ x, x ≠ 319 → K x = I x) → (∀ i, i < q → K 319 i = I 318 i) → WP n 0 0 mX12_layPlan Post 97 [(0, .ref (S.2.1 306)), (1, .int (iI (s : Int))), (2, .int (iI (n0 : Int))), (3, .int (iI (c : Int))), (5, .int (iI (q : Int)))] [] 0 0 S K R := by
  intro d
  induction d using Nat.strongRecOn with
  | ind d ih =>
    intro q K h1 h2 hF hv
    refine x_iload dX12_layPlan_97 rfl ?_
    refine x_iload_n dX12_layPlan_99 rfl ?_
    refine x_icmp_ge 123 dX12_layPlan_100 (by decide) ⟨(by omega), (by omega)⟩ (fun w100 => ?_) (fun w100 => ?_)
    · refine x_sub [0, 1, 2, 3] rfl ?_
      obtain rfl : q = n0 := by omega
      exact hK K hF hv
    · refine x_aload_n dX12_layPlan_103 rfl ?_
      refine x_getR (b := 319) dX12_layPlan_104 gf_RX12_59 (k_ob_306 cs) (fun _ _ => rfl) (k_r_306_29 cs) ?_
      refine x_iload dX12_layPlan_107 rfl ?_
      refine x_aload_n dX12_layPlan_109 rfl ?_
      refine x_getR (b := 318) dX12_layPlan_110 gf_RX12_56 (k_ob_306 cs) (fun _ _ => rfl) (k_r_306_28 cs) ?_
      refine x_iload dX12_layPlan_113 rfl ?_
      refine x_iaload dX12_layPlan_115 (k_ar_318 cs) (by omega) (by omega) ?_
      refine x_iastore dX12_layPlan_116 (k_ar_319 cs) (by omega) (by omega) ?_
      refine x_iinc (lv2 := [(5, _), (0, _), (1, _), (2, _), (3, _)]) dX12_layPlan_117 rfl (by decide) rfl ?_
      refine x_goto 97 dX12_layPlan_120 (by decide) ?_
      refine x_sub [1, 2, 3, 4, 0] rfl ?_
      rw [show (q : Int) + 1 = ((q + 1 : Nat) : Int) from rfl]
      refine ih (n0 - (q + 1)) (by omega) (q + 1) _ (by omega) rfl (fun x hx => by rw [uI_row hx]; exact hF x hx) (fun i hi => ?_)
      by_cases hq : i = q
      · subst hq
        rw [uI_x rfl (by omega), hF 318 (by omega)]
        rfl
      · rw [uI_o (by omega)]; exact hv i (by omega)
theorem lp_plan {s n0 : Nat} (cs : CS S R) (hb : BA A) (hn : 6 ≤ n) (hs : s < 256) (hb0 : bcN s = n0) (h5 : n0 ≤ 5) (hA : I 307 = A) (hT : RTx (I 309) A tx) (hp : ∀ J, Fpl I J → RlR n0 J (cfK (gC A tx n0 s 0 0 []) (fcN n0) none) → Post none S J R) : ∀ (d c : Nat) (J : CI), c ≤ fcN n0 → fcN n0 - c = d → Fpl I J → RlR n0 J (cfK (gC A tx n0 s 0 0 []) c none) → WP n 0 0 mX12_layPlan Post 12 [(0, .ref (S.2.1 306)), (1, .int (iI (s : Int))), (2, .int (iI (n0 : Int))), (3, .int (iI (c : Int)))] [] 0 0 S J R := by
  have hfc := fcN_5 h5
  intro d
  induction d using Nat.strongRecOn with
  | ind d ih =>
    intro c J h1 h2 hF hR
    have aJ : J 307 = A := by rw [hF.1 307 (by omega) (by omega) (by omega) (by omega) (by omega) (by omega)]; exact hA
    have tJ : RTx (J 309) A tx := by rw [hF.1 309 (by omega) (by omega) (by omega) (by omega) (by omega) (by omega)]; exact hT
    obtain ⟨b, hbb⟩ : ∃ b, cfK (gC A tx n0 s 0 0 []) c none = b := ⟨_, rfl⟩
    have hnx : cfK (gC A tx n0 s 0 0 []) (c + 1) none = kpO b (evL A tx (ordC n0 s c) 0 0) (ordC n0 s c) := by
      show gC A tx n0 s 0 0 [] c (cfK (gC A tx n0 s 0 0 []) c none) = _
      rw [hbb]
      rfl
    rw [hbb] at hR
    have hr31 : -1 ≤ J 306 31 ∧ J 306 31 ≤ 60 := by
      cases b with
      | none => have h9 : J 306 31 = -1 := hR; omega
      | some x => obtain ⟨dd, p, o⟩ := x; have h9 := hR.1; have h8 := hR.2.1; omega
    have hr32 : J 306 31 ≠ -1 → 0 ≤ J 306 32 ∧ J 306 32 ≤ 50000 := by
      cases b with
      | none => intro h9; exact absurd hR h9
      | some x => obtain ⟨dd, p, o⟩ := x; intro _; have h9 := hR.2.2.1; have h8 := hR.2.2.2.1; omega
    refine x_iload_n dX12_layPlan_12 rfl ?_
    refine x_iload_n dX12_layPlan_13 rfl ?_
    refine x_callS1 (mc1 := 0) (ms1 := 0) dX12_layPlan_14 cv_RX12_442 (Nat.le_of_ble_eq_true rfl) (n1 := n - 1) (by omega) (by omega) (by omega) ?_
    refine sp_X12_factorial (m := n0) h5 ?_
    refine x_icmp_ge 129 dX12_layPlan_17 (by decide) ⟨(by omega), (by omega)⟩ (fun w17 => ?_) (fun w17 => ?_)
    · exact x_return dX12_layPlan_129 rfl (by omega) (by omega) (by obtain rfl : c = fcN n0 := (by omega); exact hp J hF (by rw [hbb]; exact hR))
    · refine x_aload_n dX12_layPlan_20 rfl ?_
      refine x_iload_n dX12_layPlan_21 rfl ?_
      refine x_iload_n dX12_layPlan_22 rfl ?_
      refine x_iload_n dX12_layPlan_23 rfl ?_
      refine x_callV3 (mc1 := 0) (ms1 := 0) dX12_layPlan_24 cv_RX12_448 (ci := 12) (k_ob_306 cs) rfl (Nat.le_of_ble_eq_true rfl) (n1 := n - 1) (by omega) (by omega) (by omega) ?_
      refine sp_X12_layOrder (s := s) (c := c) (n0 := n0) cs (by omega) hs hb0 h5 (by omega) (fun J24 f24 v24 => ?_)
      refine x_aload_n dX12_layPlan_27 rfl ?_
      refine x_iload_n dX12_layPlan_28 rfl ?_
      refine x_callV1 (mc1 := 0) (ms1 := 0) dX12_layPlan_29 cv_RX12_452 (ci := 12) (k_ob_306 cs) rfl (Nat.le_of_ble_eq_true rfl) (n1 := n - 1) (by omega) (by omega) (by omega) ?_
      have holt : c < fcN n0 → ∀ x ∈ ordC n0 s c, x < 8 := fun h9 => ordC_lt n0 s c hs hb0 h9
      refine sp_X12_doneBy (o := ordC n0 s c) (n0 := n0) (A := A) (tx := tx) cs hb (by omega) (ordC_len _ _ _) h5 (holt (by omega)) (by rw [f24 307 (by omega)]; exact aJ) (by rw [f24 309 (by omega)]; exact tJ) v24 (fun J29 r29 f29 g29 => ?_)
      have e31 : J29 306 31 = J 306 31 := by rw [f29.2 31 (by omega), f24 306 (by omega)]
      have e32 : J29 306 32 = J 306 32 := by rw [f29.2 32 (by omega), f24 306 (by omega)]
      have e318 : ∀ q, q < n0 → J29 318 q = (((ordC n0 s c).getD q 0 : Nat) : Int) := fun q hq => by rw [f29.1 318 (by omega) (by omega) (by omega) (by omega)]; exact v24 q hq
      have e319 : J29 319 = J 319 := by rw [f29.1 319 (by omega) (by omega) (by omega) (by omega), f24 319 (by omega)]
      have fp29 : Fpl I J29 := Fpl.tr hF (Fpl.tr ⟨fun x _ _ _ _ h9 _ => f24 x h9, fun q _ => by rw [f24 306 (by omega)]⟩ (Fdn.fpl f29))
      have g30 : r29 ≠ -1 → 0 ≤ J29 306 30 ∧ J29 306 30 ≤ 50000 := by
        intro h9
        rcases g29 with ⟨_, g⟩ | ⟨p, _, g, g2, _⟩
        · exact absurd g h9
        · omega
      have g31 : -1 ≤ r29 ∧ r29 ≤ 60 := by
        rcases g29 with ⟨_, g⟩ | ⟨p, _, g, g2, g3⟩ <;> omega
      refine x_istore (lv2 := [(4, _), (0, _), (1, _), (2, _), (3, _)]) dX12_layPlan_32 (by decide) rfl ?_
      refine x_iload dX12_layPlan_34 rfl ?_
      refine x_iconst dX12_layPlan_36 ?_
      refine x_icmp_eq 123 dX12_layPlan_37 (by decide) ⟨(by omega), (by omega)⟩ (fun w37 => ?_) (fun w37 => ?_)
      · refine x_iinc (lv2 := [(3, _), (4, _), (0, _), (1, _), (2, _)]) dX12_layPlan_123 rfl (by decide) rfl ?_
        refine x_goto 12 dX12_layPlan_126 (by decide) ?_
        refine x_sub [2, 3, 4, 0] rfl ?_
        rw [show (c : Int) + 1 = ((c + 1 : Nat) : Int) from rfl]
        have hlt9 : fcN n0 - (c + 1) < d := by clear g29 ih; omega
        have hlt8 : c + 1 ≤ fcN n0 := by clear g29 ih; omega
        refine ih (fcN n0 - (c + 1)) hlt9 (c + 1) J29 hlt8 rfl fp29 ?_
        rw [hnx]
        have keep : kpO b (evL A tx (ordC n0 s c) 0 0) (ordC n0 s c) = b := by
          rcases g29 with ⟨g, _⟩ | ⟨p, g, g2, g3, g4⟩
          · rw [g]; rfl
          · rw [g]
            cases b with
            | none => exfalso; have h9 : J 306 31 = -1 := hR; omega
            | some x =>
              obtain ⟨d0, p0, o0⟩ := x
              have h9 := hR.1
              have h8 := hR.2.2.1
              show (if r29 < d0 ∨ (r29 = d0 ∧ p < p0) then _ else _) = _
              rw [if_neg (by omega)]
        rw [keep]
        exact RlR.w hR e31 e32 e319
      · refine x_aload_n dX12_layPlan_40 rfl ?_
        refine x_getIv (z := J 306 31) dX12_layPlan_41 gf_RX12_445 (k_ob_306 cs) (fun _ _ => rfl) (by first | exact e31 | exact e32 | rfl | (rw [uI_o (by omega)])) ?_
        refine x_iconst dX12_layPlan_44 ?_
        refine x_icmp_eq 80 dX12_layPlan_45 (by decide) ⟨(by omega), (by omega)⟩ (fun w45 => ?_) (fun w45 => ?_)
        · refine x_aload_n dX12_layPlan_80 rfl ?_
          refine x_iload dX12_layPlan_81 rfl ?_
          refine x_putI dX12_layPlan_83 gf_RX12_445 (k_ob_306 cs) rfl ?_
          refine x_aload_n dX12_layPlan_86 rfl ?_
          refine x_aload_n dX12_layPlan_87 rfl ?_
          refine x_getIv (z := J29 306 30) dX12_layPlan_88 gf_RX12_439 (k_ob_306 cs) (fun _ _ => rfl) (by first | exact e31 | exact e32 | rfl | (rw [uI_o (by omega)])) ?_
          refine x_putI dX12_layPlan_91 gf_RX12_455 (k_ob_306 cs) rfl ?_
          refine x_iconst dX12_layPlan_94 ?_
          refine x_istore (lv2 := [(5, _), (4, _), (0, _), (1, _), (2, _), (3, _)]) dX12_layPlan_95 (by decide) rfl ?_
          refine x_sub [2, 3, 4, 5, 0] rfl ?_
          refine lp_cpo (I := uI (uI J29 306 31 r29) 306 32 (J29 306 30)) (s := s) (c := c) (n0 := n0) cs h5 (fun K fK vK => ?_) n0 0 _ (by omega) rfl (fun _ _ => rfl) (fun i hi => by omega)
          refine x_iinc (lv2 := [(3, _), (0, _), (1, _), (2, _)]) dX12_layPlan_123 rfl (by decide) rfl ?_
          refine x_goto 12 dX12_layPlan_126 (by decide) ?_
          refine x_sub [1, 2, 3, 0] rfl ?_
          rw [show (c : Int) + 1 = ((c + 1 : Nat) : Int) from rfl]
          have hlt9 : fcN n0 - (c + 1) < d := by clear g29 ih; omega
          have hlt8 : c + 1 ≤ fcN n0 := by clear g29 ih; omega
          refine ih (fcN n0 - (c + 1)) hlt9 (c + 1) K hlt8 rfl (Fpl.tr (Fpl.u6 (Fpl.u6 fp29 (by omega)) (by omega)) ⟨fun x _ _ _ _ _ h9 => fK x h9, fun q _ => by rw [fK 306 (by omega)]⟩) ?_
          rw [hnx]
          rcases g29 with ⟨_, g⟩ | ⟨p, g, g2, g3, g4⟩
          · exfalso; omega
          have hnew : kpO b (evL A tx (ordC n0 s c) 0 0) (ordC n0 s c) = some (r29, p, ordC n0 s c) := by
            rw [g]
            cases b with
            | none => rfl
            | some x =>
              obtain ⟨d0, p0, o0⟩ := x
              have h9 := hR.1
              have h8 := hR.2.2.1
              have h7 := hR.2.1
              show (if r29 < d0 ∨ (r29 = d0 ∧ p < p0) then _ else _) = _
              rw [if_pos (by omega)]
          rw [hnew]
          refine ⟨?_, g4, ?_, g3, ordC_len _ _ _, fun q hq => ?_⟩
          · rw [fK 306 (by omega), uI_o (by omega), uI_s]
          · rw [fK 306 (by omega), uI_s]; exact g2
          · rw [vK q hq, uI_row (by omega), uI_row (by omega)]; exact e318 q hq
        · refine x_iload dX12_layPlan_48 rfl ?_
          refine x_aload_n dX12_layPlan_50 rfl ?_
          refine x_getIv (z := J 306 31) dX12_layPlan_51 gf_RX12_445 (k_ob_306 cs) (fun _ _ => rfl) (by first | exact e31 | exact e32 | rfl | (rw [uI_o (by omega)])) ?_
          refine x_icmp_gt 123 dX12_layPlan_54 (by decide) ⟨(by omega), (by omega)⟩ (fun w54 => ?_) (fun w54 => ?_)
          · refine x_iinc (lv2 := [(3, _), (4, _), (0, _), (1, _), (2, _)]) dX12_layPlan_123 rfl (by decide) rfl ?_
            refine x_goto 12 dX12_layPlan_126 (by decide) ?_
            refine x_sub [2, 3, 4, 0] rfl ?_
            rw [show (c : Int) + 1 = ((c + 1 : Nat) : Int) from rfl]
            have hlt9 : fcN n0 - (c + 1) < d := by clear g29 ih; omega
            have hlt8 : c + 1 ≤ fcN n0 := by clear g29 ih; omega
            refine ih (fcN n0 - (c + 1)) hlt9 (c + 1) J29 hlt8 rfl fp29 ?_
            rw [hnx]
            have keep : kpO b (evL A tx (ordC n0 s c) 0 0) (ordC n0 s c) = b := by
              rcases g29 with ⟨g, _⟩ | ⟨p, g, g2, g3, g4⟩
              · rw [g]; rfl
              · rw [g]
                cases b with
                | none => exfalso; have h9 : J 306 31 = -1 := hR; omega
                | some x =>
                  obtain ⟨d0, p0, o0⟩ := x
                  have h9 := hR.1
                  have h8 := hR.2.2.1
                  show (if r29 < d0 ∨ (r29 = d0 ∧ p < p0) then _ else _) = _
                  rw [if_neg (by omega)]
            rw [keep]
            exact RlR.w hR e31 e32 e319
          · refine x_iload dX12_layPlan_57 rfl ?_
            refine x_aload_n dX12_layPlan_59 rfl ?_
            refine x_getIv (z := J 306 31) dX12_layPlan_60 gf_RX12_445 (k_ob_306 cs) (fun _ _ => rfl) (by first | exact e31 | exact e32 | rfl | (rw [uI_o (by omega)])) ?_
            refine x_icmp_ne 80 dX12_layPlan_63 (by decide) ⟨(by omega), (by omega)⟩ (fun w63 => ?_) (fun w63 => ?_)
            · refine x_aload_n dX12_layPlan_80 rfl ?_
              refine x_iload dX12_layPlan_81 rfl ?_
              refine x_putI dX12_layPlan_83 gf_RX12_445 (k_ob_306 cs) rfl ?_
              refine x_aload_n dX12_layPlan_86 rfl ?_
              refine x_aload_n dX12_layPlan_87 rfl ?_
              refine x_getIv (z := J29 306 30) dX12_layPlan_88 gf_RX12_439 (k_ob_306 cs) (fun _ _ => rfl) (by first | exact e31 | exact e32 | rfl | (rw [uI_o (by omega)])) ?_
              refine x_putI dX12_layPlan_91 gf_RX12_455 (k_ob_306 cs) rfl ?_
              refine x_iconst dX12_layPlan_94 ?_
              refine x_istore (lv2 := [(5, _), (4, _), (0, _), (1, _), (2, _), (3, _)]) dX12_layPlan_95 (by decide) rfl ?_
              refine x_sub [2, 3, 4, 5, 0] rfl ?_
              refine lp_cpo (I := uI (uI J29 306 31 r29) 306 32 (J29 306 30)) (s := s) (c := c) (n0 := n0) cs h5 (fun K fK vK => ?_) n0 0 _ (by omega) rfl (fun _ _ => rfl) (fun i hi => by omega)
              refine x_iinc (lv2 := [(3, _), (0, _), (1, _), (2, _)]) dX12_layPlan_123 rfl (by decide) rfl ?_
              refine x_goto 12 dX12_layPlan_126 (by decide) ?_
              refine x_sub [1, 2, 3, 0] rfl ?_
              rw [show (c : Int) + 1 = ((c + 1 : Nat) : Int) from rfl]
              have hlt9 : fcN n0 - (c + 1) < d := by clear g29 ih; omega
              have hlt8 : c + 1 ≤ fcN n0 := by clear g29 ih; omega
              refine ih (fcN n0 - (c + 1)) hlt9 (c + 1) K hlt8 rfl (Fpl.tr (Fpl.u6 (Fpl.u6 fp29 (by omega)) (by omega)) ⟨fun x _ _ _ _ _ h9 => fK x h9, fun q _ => by rw [fK 306 (by omega)]⟩) ?_
              rw [hnx]
              rcases g29 with ⟨_, g⟩ | ⟨p, g, g2, g3, g4⟩
              · exfalso; omega
              have hnew : kpO b (evL A tx (ordC n0 s c) 0 0) (ordC n0 s c) = some (r29, p, ordC n0 s c) := by
                rw [g]
                cases b with
                | none => rfl
                | some x =>
                  obtain ⟨d0, p0, o0⟩ := x
                  have h9 := hR.1
                  have h8 := hR.2.2.1
                  have h7 := hR.2.1
                  show (if r29 < d0 ∨ (r29 = d0 ∧ p < p0) then _ else _) = _
                  rw [if_pos (by omega)]
              rw [hnew]
              refine ⟨?_, g4, ?_, g3, ordC_len _ _ _, fun q hq => ?_⟩
              · rw [fK 306 (by omega), uI_o (by omega), uI_s]
              · rw [fK 306 (by omega), uI_s]; exact g2
              · rw [vK q hq, uI_row (by omega), uI_row (by omega)]; exact e318 q hq
            · have g32 := hr32 (by omega)
              have g33 := g30 (by omega)
              refine x_aload_n dX12_layPlan_66 rfl ?_
              refine x_getIv (z := J29 306 30) dX12_layPlan_67 gf_RX12_439 (k_ob_306 cs) (fun _ _ => rfl) (by first | exact e31 | exact e32 | rfl | (rw [uI_o (by omega)])) ?_
              refine x_aload_n dX12_layPlan_70 rfl ?_
              refine x_getIv (z := J 306 32) dX12_layPlan_71 gf_RX12_455 (k_ob_306 cs) (fun _ _ => rfl) (by first | exact e31 | exact e32 | rfl | (rw [uI_o (by omega)])) ?_
              refine x_icmp_lt 80 dX12_layPlan_74 (by decide) ⟨(by omega), (by omega)⟩ (fun w74 => ?_) (fun w74 => ?_)
              · refine x_aload_n dX12_layPlan_80 rfl ?_
                refine x_iload dX12_layPlan_81 rfl ?_
                refine x_putI dX12_layPlan_83 gf_RX12_445 (k_ob_306 cs) rfl ?_
                refine x_aload_n dX12_layPlan_86 rfl ?_
                refine x_aload_n dX12_layPlan_87 rfl ?_
                refine x_getIv (z := J29 306 30) dX12_layPlan_88 gf_RX12_439 (k_ob_306 cs) (fun _ _ => rfl) (by first | exact e31 | exact e32 | rfl | (rw [uI_o (by omega)])) ?_
                refine x_putI dX12_layPlan_91 gf_RX12_455 (k_ob_306 cs) rfl ?_
                refine x_iconst dX12_layPlan_94 ?_
                refine x_istore (lv2 := [(5, _), (4, _), (0, _), (1, _), (2, _), (3, _)]) dX12_layPlan_95 (by decide) rfl ?_
                refine x_sub [2, 3, 4, 5, 0] rfl ?_
                refine lp_cpo (I := uI (uI J29 306 31 r29) 306 32 (J29 306 30)) (s := s) (c := c) (n0 := n0) cs h5 (fun K fK vK => ?_) n0 0 _ (by omega) rfl (fun _ _ => rfl) (fun i hi => by omega)
                refine x_iinc (lv2 := [(3, _), (0, _), (1, _), (2, _)]) dX12_layPlan_123 rfl (by decide) rfl ?_
                refine x_goto 12 dX12_layPlan_126 (by decide) ?_
                refine x_sub [1, 2, 3, 0] rfl ?_
                rw [show (c : Int) + 1 = ((c + 1 : Nat) : Int) from rfl]
                have hlt9 : fcN n0 - (c + 1) < d := by clear g29 ih; omega
                have hlt8 : c + 1 ≤ fcN n0 := by clear g29 ih; omega
                refine ih (fcN n0 - (c + 1)) hlt9 (c + 1) K hlt8 rfl (Fpl.tr (Fpl.u6 (Fpl.u6 fp29 (by omega)) (by omega)) ⟨fun x _ _ _ _ _ h9 => fK x h9, fun q _ => by rw [fK 306 (by omega)]⟩) ?_
                rw [hnx]
                rcases g29 with ⟨_, g⟩ | ⟨p, g, g2, g3, g4⟩
                · exfalso; omega
                have hnew : kpO b (evL A tx (ordC n0 s c) 0 0) (ordC n0 s c) = some (r29, p, ordC n0 s c) := by
                  rw [g]
                  cases b with
                  | none => rfl
                  | some x =>
                    obtain ⟨d0, p0, o0⟩ := x
                    have h9 := hR.1
                    have h8 := hR.2.2.1
                    have h7 := hR.2.1
                    show (if r29 < d0 ∨ (r29 = d0 ∧ p < p0) then _ else _) = _
                    rw [if_pos (by omega)]
                rw [hnew]
                refine ⟨?_, g4, ?_, g3, ordC_len _ _ _, fun q hq => ?_⟩
                · rw [fK 306 (by omega), uI_o (by omega), uI_s]
                · rw [fK 306 (by omega), uI_s]; exact g2
                · rw [vK q hq, uI_row (by omega), uI_row (by omega)]; exact e318 q hq
              · refine x_goto 123 dX12_layPlan_77 (by decide) ?_
                refine x_iinc (lv2 := [(3, _), (4, _), (0, _), (1, _), (2, _)]) dX12_layPlan_123 rfl (by decide) rfl ?_
                refine x_goto 12 dX12_layPlan_126 (by decide) ?_
                refine x_sub [2, 3, 4, 0] rfl ?_
                rw [show (c : Int) + 1 = ((c + 1 : Nat) : Int) from rfl]
                have hlt9 : fcN n0 - (c + 1) < d := by clear g29 ih; omega
                have hlt8 : c + 1 ≤ fcN n0 := by clear g29 ih; omega
                refine ih (fcN n0 - (c + 1)) hlt9 (c + 1) J29 hlt8 rfl fp29 ?_
                rw [hnx]
                have keep : kpO b (evL A tx (ordC n0 s c) 0 0) (ordC n0 s c) = b := by
                  rcases g29 with ⟨g, _⟩ | ⟨p, g, g2, g3, g4⟩
                  · rw [g]; rfl
                  · rw [g]
                    cases b with
                    | none => exfalso; have h9 : J 306 31 = -1 := hR; omega
                    | some x =>
                      obtain ⟨d0, p0, o0⟩ := x
                      have h9 := hR.1
                      have h8 := hR.2.2.1
                      show (if r29 < d0 ∨ (r29 = d0 ∧ p < p0) then _ else _) = _
                      rw [if_neg (by omega)]
                rw [keep]
                exact RlR.w hR e31 e32 e319
theorem sp_X12_layPlan {s : Nat} (cs : CS S R) (hb : BA A) (hn : 6 ≤ n) (hs : s < 256) (h5 : bcN s ≤ 5) (hA : I 307 = A) (hT : RTx (I 309) A tx) (hp : ∀ J, Fpl I J → RlR (bcN s) J (cfK (gC A tx (bcN s) s 0 0 []) (fcN (bcN s)) none) → Post none S J R) : Call n 0 0 mX12_layPlan [.ref (S.2.1 306), .int (iI (s : Int))] S I R Post := by
  refine Call.of (by decide +kernel) (Nat.le_of_ble_eq_true rfl) ?_
  show WP _ _ _ _ _ 0 [(0, _), (1, _)] [] 0 0 _ _ _
  refine x_iload_n dX12_layPlan_0 rfl ?_
  refine x_callS1 (mc1 := 0) (ms1 := 0) dX12_layPlan_1 cv_RX12_327 (Nat.le_of_ble_eq_true rfl) (n1 := n - 1) (by omega) (by omega) (by omega) ?_
  refine sp_X12_bits hs ?_
  refine x_istore_n (lv2 := [(2, _), (0, _), (1, _)]) dX12_layPlan_4 (by decide) rfl ?_
  refine x_aload_n dX12_layPlan_5 rfl ?_
  refine x_iconst dX12_layPlan_6 ?_
  refine x_putI dX12_layPlan_7 gf_RX12_445 (k_ob_306 cs) rfl ?_
  refine x_iconst dX12_layPlan_10 ?_
  refine x_istore_n (lv2 := [(3, _), (2, _), (0, _), (1, _)]) dX12_layPlan_11 (by decide) rfl ?_
  refine x_sub [2, 3, 1, 0] rfl ?_
  exact lp_plan (I := uI I 306 31 (-1)) cs hb hn hs rfl h5 (by rw [uI_row (by omega)]; exact hA) (by rw [uI_row (by omega)]; exact hT) (fun J h1 h2 => hp J (Fpl.tr (Fpl.u6 Fpl.rf (by omega)) h1) h2) _ 0 _ (by omega) rfl Fpl.rf (by show uI I 306 31 (-1) 306 31 = -1; rw [uI_s])
theorem dX12_plan_0 : decode prog_14_method_127_code 0 = .ok (.iload_n 1, 1) := by decide +kernel
theorem dX12_plan_1 : decode prog_14_method_127_code 1 = .ok (.iconst 0, 1) := by decide +kernel
theorem dX12_plan_2 : decode prog_14_method_127_code 2 = .ok (.sipush 255, 3) := by decide +kernel
theorem dX12_plan_5 : decode prog_14_method_127_code 5 = .ok (.invokestatic 81, 3) := by decide +kernel
theorem dX12_plan_8 : decode prog_14_method_127_code 8 = .ok (.ifCond .eq 36, 3) := by decide +kernel
theorem dX12_plan_11 : decode prog_14_method_127_code 11 = .ok (.iload_n 1, 1) := by decide +kernel
theorem dX12_plan_12 : decode prog_14_method_127_code 12 = .ok (.aload_n 0, 1) := by decide +kernel
theorem dX12_plan_13 : decode prog_14_method_127_code 13 = .ok (.invokevirtual 324, 3) := by decide +kernel
theorem dX12_plan_16 : decode prog_14_method_127_code 16 = .ok (.iconst (-1), 1) := by decide +kernel
theorem dX12_plan_17 : decode prog_14_method_127_code 17 = .ok (.ixor, 1) := by decide +kernel
theorem dX12_plan_18 : decode prog_14_method_127_code 18 = .ok (.iand, 1) := by decide +kernel
theorem dX12_plan_19 : decode prog_14_method_127_code 19 = .ok (.ifCond .ne 25, 3) := by decide +kernel
theorem dX12_plan_22 : decode prog_14_method_127_code 22 = .ok (.iload_n 1, 1) := by decide +kernel
theorem dX12_plan_23 : decode prog_14_method_127_code 23 = .ok (.invokestatic 327, 3) := by decide +kernel
theorem dX12_plan_26 : decode prog_14_method_127_code 26 = .ok (.iconst 5, 1) := by decide +kernel
theorem dX12_plan_27 : decode prog_14_method_127_code 27 = .ok (.if_icmp .gt 17, 3) := by decide +kernel
theorem dX12_plan_30 : decode prog_14_method_127_code 30 = .ok (.iload_n 2, 1) := by decide +kernel
theorem dX12_plan_31 : decode prog_14_method_127_code 31 = .ok (.iconst 0, 1) := by decide +kernel
theorem dX12_plan_32 : decode prog_14_method_127_code 32 = .ok (.iload_n 1, 1) := by decide +kernel
theorem dX12_plan_33 : decode prog_14_method_127_code 33 = .ok (.invokestatic 327, 3) := by decide +kernel
theorem dX12_plan_36 : decode prog_14_method_127_code 36 = .ok (.iconst 1, 1) := by decide +kernel
theorem dX12_plan_37 : decode prog_14_method_127_code 37 = .ok (.iadd, 1) := by decide +kernel
theorem dX12_plan_38 : decode prog_14_method_127_code 38 = .ok (.invokestatic 81, 3) := by decide +kernel
theorem dX12_plan_41 : decode prog_14_method_127_code 41 = .ok (.ifCond .ne 5, 3) := by decide +kernel
theorem dX12_plan_44 : decode prog_14_method_127_code 44 = .ok (.iconst (-1), 1) := by decide +kernel
theorem dX12_plan_45 : decode prog_14_method_127_code 45 = .ok (.ireturn, 1) := by decide +kernel
theorem dX12_plan_46 : decode prog_14_method_127_code 46 = .ok (.aload_n 0, 1) := by decide +kernel
theorem dX12_plan_47 : decode prog_14_method_127_code 47 = .ok (.iload_n 1, 1) := by decide +kernel
theorem dX12_plan_48 : decode prog_14_method_127_code 48 = .ok (.invokevirtual 458, 3) := by decide +kernel
theorem dX12_plan_51 : decode prog_14_method_127_code 51 = .ok (.aload_n 0, 1) := by decide +kernel
theorem dX12_plan_52 : decode prog_14_method_127_code 52 = .ok (.getfield 445, 3) := by decide +kernel
theorem dX12_plan_55 : decode prog_14_method_127_code 55 = .ok (.iconst (-1), 1) := by decide +kernel
theorem dX12_plan_56 : decode prog_14_method_127_code 56 = .ok (.if_icmp .ne 7, 3) := by decide +kernel
theorem dX12_plan_59 : decode prog_14_method_127_code 59 = .ok (.iconst (-1), 1) := by decide +kernel
theorem dX12_plan_60 : decode prog_14_method_127_code 60 = .ok (.goto 34, 3) := by decide +kernel
theorem dX12_plan_63 : decode prog_14_method_127_code 63 = .ok (.iload_n 2, 1) := by decide +kernel
theorem dX12_plan_64 : decode prog_14_method_127_code 64 = .ok (.ifCond .ne 10, 3) := by decide +kernel
theorem dX12_plan_67 : decode prog_14_method_127_code 67 = .ok (.aload_n 0, 1) := by decide +kernel
theorem dX12_plan_68 : decode prog_14_method_127_code 68 = .ok (.getfield 445, 3) := by decide +kernel
theorem dX12_plan_71 : decode prog_14_method_127_code 71 = .ok (.goto 23, 3) := by decide +kernel
theorem dX12_plan_74 : decode prog_14_method_127_code 74 = .ok (.iload_n 2, 1) := by decide +kernel
theorem dX12_plan_75 : decode prog_14_method_127_code 75 = .ok (.iconst 1, 1) := by decide +kernel
theorem dX12_plan_76 : decode prog_14_method_127_code 76 = .ok (.if_icmp .ne 10, 3) := by decide +kernel
theorem dX12_plan_79 : decode prog_14_method_127_code 79 = .ok (.aload_n 0, 1) := by decide +kernel
theorem dX12_plan_80 : decode prog_14_method_127_code 80 = .ok (.getfield 455, 3) := by decide +kernel
theorem dX12_plan_83 : decode prog_14_method_127_code 83 = .ok (.goto 11, 3) := by decide +kernel
theorem dX12_plan_86 : decode prog_14_method_127_code 86 = .ok (.aload_n 0, 1) := by decide +kernel
theorem dX12_plan_87 : decode prog_14_method_127_code 87 = .ok (.getfield 59, 3) := by decide +kernel
theorem dX12_plan_90 : decode prog_14_method_127_code 90 = .ok (.iload_n 2, 1) := by decide +kernel
theorem dX12_plan_91 : decode prog_14_method_127_code 91 = .ok (.iconst 2, 1) := by decide +kernel
theorem dX12_plan_92 : decode prog_14_method_127_code 92 = .ok (.isub, 1) := by decide +kernel
theorem dX12_plan_93 : decode prog_14_method_127_code 93 = .ok (.iaload, 1) := by decide +kernel
theorem dX12_plan_94 : decode prog_14_method_127_code 94 = .ok (.ireturn, 1) := by decide +kernel
theorem sp_X12_plan {set w : Int} {o b : Nat → Int} (cs : CS S R) (hb : BA A) (hn : 7 ≤ n) (hs : Rg set) (hw : Rg w) (hA : I 307 = A) (hT : RTx (I 309) A tx) (hp : ∀ J, Fpl I J → Post (some (.int (iI (f_plan A tx o b set w)))) S J R) : Call n 0 0 mX12_plan [.ref (S.2.1 306), .int (iI set), .int (iI w)] S I R Post := by
  have hno : ¬ (0 ≤ w ∧ canP A set ∧ (plS A tx set.toNat o b).1 ≤ 60) → f_plan A tx o b set w = -1 := fun h9 => if_neg h9
  have hpw : pwN A (A 0).toNat < 256 := pwN_lt8 hb.1.1
  refine Call.of (by decide +kernel) (Nat.le_of_ble_eq_true rfl) ?_
  show WP _ _ _ _ _ 0 [(0, _), (1, _), (2, _)] [] 0 0 _ _ _
  refine x_iload_n dX12_plan_0 rfl ?_
  refine x_iconst dX12_plan_1 ?_
  refine x_sipush dX12_plan_2 (by decide) ?_
  refine x_callS3 (mc1 := 0) (ms1 := 0) dX12_plan_5 cv_RX12_81 (Nat.le_of_ble_eq_true rfl) (n1 := n - 1) (by omega) (by omega) (by omega) ?_
  refine sp_X12_isIn (by omega) (by omega) (by omega) (fun r5 hr5 => ?_)
  refine x_if_eq 44 dX12_plan_8 (by decide) (by omega) (fun w8 => ?_) (fun w8 => ?_)
  · refine x_iconst dX12_plan_44 ?_
    exact x_ireturn dX12_plan_45 rfl (by omega) (by omega) (by first
 | (have h9 := hp I Fpl.rf
    rw [hno (by intro h8; obtain ⟨u1, ⟨u2, u3, u4, u5⟩, u6⟩ := h8; omega)] at h9; exact h9)
 | (have h9 := hp I Fpl.rf
    have hz9 : ((z : Int)).toNat = z := by omega
    rw [hno (by intro h8; obtain ⟨u1, ⟨u2, u3, u4, u5⟩, u6⟩ := h8; rw [hz9] at u4 u5; omega)] at h9; exact h9)
 | (have h9 := hp I Fpl.rf
    have hz9 : ((z : Int)).toNat = z := by omega
    by_cases hw0 : 0 ≤ w
    · unfold f_plan at h9
      by_cases hc9 : 0 ≤ w ∧ canP A (z : Int) ∧ (plS A tx ((z : Int)).toNat o b).1 ≤ 60
      · rw [if_pos hc9, if_neg (by omega), if_neg (by omega), if_neg (by rw [hz9]; omega)] at h9; exact h9
      · rw [if_neg hc9] at h9; exact h9
    · rw [hno (by intro h8; have := h8.1; omega)] at h9; exact h9)
 | (have h9 := hp J48 f48
    cases bs with
    | none =>
      have h61 : (plS A tx z o b).1 = 61 := hpl
      rw [hno (by intro h8; have h7 := h8.2.2; rw [hz9] at h7; omega)] at h9; exact h9
    | some x => exfalso; obtain ⟨dd, p, oo⟩ := x; have h8 := g48.1; have h7 := g48.2.1; omega)
 | (have h9 := hp J48 f48
    cases bs with
    | none => exfalso; have h8 : J48 306 31 = -1 := g48; omega
    | some x =>
      obtain ⟨dd, p, oo⟩ := x
      obtain ⟨k1, k2, k3, k4, k5⟩ := hpl
      obtain ⟨m1, m2, m3, m4, m5, m6⟩ := g48
      have ef : ∀ v, f_plan A tx o b (z : Int) w = v → Post (some (.int (iI v))) S J48 R := fun v hv => by rw [← hv]; exact h9
      first
      | (refine ef _ ?_
         unfold f_plan
         rw [if_pos ⟨by omega, hcan, by show (plS A tx z o b).1 ≤ 60; omega⟩, if_pos (by omega)]
         exact k1.trans m1.symm)
      | (refine ef _ ?_
         unfold f_plan
         rw [if_pos ⟨by omega, hcan, by show (plS A tx z o b).1 ≤ 60; omega⟩, if_neg (by omega), if_pos (by omega)]
         exact k3.trans m3.symm)
      | (refine ef _ ?_
         unfold f_plan
         rw [if_pos ⟨by omega, hcan, by show (plS A tx z o b).1 ≤ 60; omega⟩, if_neg (by omega), if_neg (by omega), if_pos (by show w - 2 < (bcN z : Int); omega)]
         exact (k5 _ (by omega)).trans (m6 _ (by omega)).symm)))
  · obtain ⟨z, rfl⟩ : ∃ z : Nat, set = (z : Int) := ⟨set.toNat, by omega⟩
    have hbc := bcN_b z
    have hsd9 := sdN_le z (pwN A (A 0).toNat)
    refine x_iload_n dX12_plan_11 rfl ?_
    refine x_aload_n dX12_plan_12 rfl ?_
    refine x_callV0 (mc1 := 0) (ms1 := 0) dX12_plan_13 cv_RX12_324 (ci := 12) (k_ob_306 cs) rfl (Nat.le_of_ble_eq_true rfl) (n1 := n - 1) (by omega) (by omega) (by omega) ?_
    refine sp_X12_pawnedNow cs hA hb (by omega) ?_
    refine x_iconst dX12_plan_16 ?_
    refine x_ixor dX12_plan_17 ?_
    refine x_iand dX12_plan_18 ?_
    rw [andnot_n (by omega) (by omega)]
    refine x_if_ne 44 dX12_plan_19 (by decide) (by omega) (fun w19 => ?_) (fun w19 => ?_)
    · refine x_iconst dX12_plan_44 ?_
      exact x_ireturn dX12_plan_45 rfl (by omega) (by omega) (by first
 | (have h9 := hp I Fpl.rf
    rw [hno (by intro h8; obtain ⟨u1, ⟨u2, u3, u4, u5⟩, u6⟩ := h8; omega)] at h9; exact h9)
 | (have h9 := hp I Fpl.rf
    have hz9 : ((z : Int)).toNat = z := by omega
    rw [hno (by intro h8; obtain ⟨u1, ⟨u2, u3, u4, u5⟩, u6⟩ := h8; rw [hz9] at u4 u5; omega)] at h9; exact h9)
 | (have h9 := hp I Fpl.rf
    have hz9 : ((z : Int)).toNat = z := by omega
    by_cases hw0 : 0 ≤ w
    · unfold f_plan at h9
      by_cases hc9 : 0 ≤ w ∧ canP A (z : Int) ∧ (plS A tx ((z : Int)).toNat o b).1 ≤ 60
      · rw [if_pos hc9, if_neg (by omega), if_neg (by omega), if_neg (by rw [hz9]; omega)] at h9; exact h9
      · rw [if_neg hc9] at h9; exact h9
    · rw [hno (by intro h8; have := h8.1; omega)] at h9; exact h9)
 | (have h9 := hp J48 f48
    cases bs with
    | none =>
      have h61 : (plS A tx z o b).1 = 61 := hpl
      rw [hno (by intro h8; have h7 := h8.2.2; rw [hz9] at h7; omega)] at h9; exact h9
    | some x => exfalso; obtain ⟨dd, p, oo⟩ := x; have h8 := g48.1; have h7 := g48.2.1; omega)
 | (have h9 := hp J48 f48
    cases bs with
    | none => exfalso; have h8 : J48 306 31 = -1 := g48; omega
    | some x =>
      obtain ⟨dd, p, oo⟩ := x
      obtain ⟨k1, k2, k3, k4, k5⟩ := hpl
      obtain ⟨m1, m2, m3, m4, m5, m6⟩ := g48
      have ef : ∀ v, f_plan A tx o b (z : Int) w = v → Post (some (.int (iI v))) S J48 R := fun v hv => by rw [← hv]; exact h9
      first
      | (refine ef _ ?_
         unfold f_plan
         rw [if_pos ⟨by omega, hcan, by show (plS A tx z o b).1 ≤ 60; omega⟩, if_pos (by omega)]
         exact k1.trans m1.symm)
      | (refine ef _ ?_
         unfold f_plan
         rw [if_pos ⟨by omega, hcan, by show (plS A tx z o b).1 ≤ 60; omega⟩, if_neg (by omega), if_pos (by omega)]
         exact k3.trans m3.symm)
      | (refine ef _ ?_
         unfold f_plan
         rw [if_pos ⟨by omega, hcan, by show (plS A tx z o b).1 ≤ 60; omega⟩, if_neg (by omega), if_neg (by omega), if_pos (by show w - 2 < (bcN z : Int); omega)]
         exact (k5 _ (by omega)).trans (m6 _ (by omega)).symm)))
    · refine x_iload_n dX12_plan_22 rfl ?_
      refine x_callS1 (mc1 := 0) (ms1 := 0) dX12_plan_23 cv_RX12_327 (Nat.le_of_ble_eq_true rfl) (n1 := n - 1) (by omega) (by omega) (by omega) ?_
      refine sp_X12_bits (x := z) (by omega) ?_
      refine x_iconst dX12_plan_26 ?_
      refine x_icmp_gt 44 dX12_plan_27 (by decide) ⟨(by omega), (by omega)⟩ (fun w27 => ?_) (fun w27 => ?_)
      · refine x_iconst dX12_plan_44 ?_
        exact x_ireturn dX12_plan_45 rfl (by omega) (by omega) (by first
 | (have h9 := hp I Fpl.rf
    rw [hno (by intro h8; obtain ⟨u1, ⟨u2, u3, u4, u5⟩, u6⟩ := h8; omega)] at h9; exact h9)
 | (have h9 := hp I Fpl.rf
    have hz9 : ((z : Int)).toNat = z := by omega
    rw [hno (by intro h8; obtain ⟨u1, ⟨u2, u3, u4, u5⟩, u6⟩ := h8; rw [hz9] at u4 u5; omega)] at h9; exact h9)
 | (have h9 := hp I Fpl.rf
    have hz9 : ((z : Int)).toNat = z := by omega
    by_cases hw0 : 0 ≤ w
    · unfold f_plan at h9
      by_cases hc9 : 0 ≤ w ∧ canP A (z : Int) ∧ (plS A tx ((z : Int)).toNat o b).1 ≤ 60
      · rw [if_pos hc9, if_neg (by omega), if_neg (by omega), if_neg (by rw [hz9]; omega)] at h9; exact h9
      · rw [if_neg hc9] at h9; exact h9
    · rw [hno (by intro h8; have := h8.1; omega)] at h9; exact h9)
 | (have h9 := hp J48 f48
    cases bs with
    | none =>
      have h61 : (plS A tx z o b).1 = 61 := hpl
      rw [hno (by intro h8; have h7 := h8.2.2; rw [hz9] at h7; omega)] at h9; exact h9
    | some x => exfalso; obtain ⟨dd, p, oo⟩ := x; have h8 := g48.1; have h7 := g48.2.1; omega)
 | (have h9 := hp J48 f48
    cases bs with
    | none => exfalso; have h8 : J48 306 31 = -1 := g48; omega
    | some x =>
      obtain ⟨dd, p, oo⟩ := x
      obtain ⟨k1, k2, k3, k4, k5⟩ := hpl
      obtain ⟨m1, m2, m3, m4, m5, m6⟩ := g48
      have ef : ∀ v, f_plan A tx o b (z : Int) w = v → Post (some (.int (iI v))) S J48 R := fun v hv => by rw [← hv]; exact h9
      first
      | (refine ef _ ?_
         unfold f_plan
         rw [if_pos ⟨by omega, hcan, by show (plS A tx z o b).1 ≤ 60; omega⟩, if_pos (by omega)]
         exact k1.trans m1.symm)
      | (refine ef _ ?_
         unfold f_plan
         rw [if_pos ⟨by omega, hcan, by show (plS A tx z o b).1 ≤ 60; omega⟩, if_neg (by omega), if_pos (by omega)]
         exact k3.trans m3.symm)
      | (refine ef _ ?_
         unfold f_plan
         rw [if_pos ⟨by omega, hcan, by show (plS A tx z o b).1 ≤ 60; omega⟩, if_neg (by omega), if_neg (by omega), if_pos (by show w - 2 < (bcN z : Int); omega)]
         exact (k5 _ (by omega)).trans (m6 _ (by omega)).symm)))
      · refine x_iload_n dX12_plan_30 rfl ?_
        refine x_iconst dX12_plan_31 ?_
        refine x_iload_n dX12_plan_32 rfl ?_
        refine x_callS1 (mc1 := 0) (ms1 := 0) dX12_plan_33 cv_RX12_327 (Nat.le_of_ble_eq_true rfl) (n1 := n - 1) (by omega) (by omega) (by omega) ?_
        refine sp_X12_bits (x := z) (by omega) ?_
        refine x_iconst dX12_plan_36 ?_
        refine x_iadd dX12_plan_37 ?_
        refine x_callS3 (mc1 := 0) (ms1 := 0) dX12_plan_38 cv_RX12_81 (Nat.le_of_ble_eq_true rfl) (n1 := n - 1) (by omega) (by omega) (by omega) ?_
        refine sp_X12_isIn (by omega) (by omega) (by omega) (fun r38 hr38 => ?_)
        refine x_if_ne 46 dX12_plan_41 (by decide) (by omega) (fun w41 => ?_) (fun w41 => ?_)
        · refine x_aload_n dX12_plan_46 rfl ?_
          refine x_iload_n dX12_plan_47 rfl ?_
          refine x_callV1 (mc1 := 0) (ms1 := 0) dX12_plan_48 cv_RX12_458 (ci := 12) (k_ob_306 cs) rfl (Nat.le_of_ble_eq_true rfl) (n1 := n - 1) (by omega) (by omega) (by omega) ?_
          refine sp_X12_layPlan (s := z) (A := A) (tx := tx) cs hb (by omega) (by omega) (by omega) hA hT (fun J48 f48 g48 => ?_)
          obtain ⟨bs, hbs⟩ : ∃ bs, cfK (gC A tx (bcN z) z 0 0 []) (fcN (bcN z)) none = bs := ⟨_, rfl⟩
          have hpl := plS_rl (A := A) (tx := tx) (set := z) (o := o) (b := b) (by omega) (by omega)
          rw [hbs] at hpl g48
          have hz9 : ((z : Int)).toNat = z := by omega
          have hcan : canP A (z : Int) := ⟨by omega, by omega, by rw [hz9]; omega, by rw [hz9]; omega⟩
          have r31 : -1 ≤ J48 306 31 ∧ J48 306 31 ≤ 60 := by
            cases bs with
            | none => have h9 : J48 306 31 = -1 := g48; omega
            | some x => obtain ⟨dd, p, oo⟩ := x; have h9 := g48.1; have h8 := g48.2.1; omega
          refine x_aload_n dX12_plan_51 rfl ?_
          refine x_getI dX12_plan_52 gf_RX12_445 (k_ob_306 cs) (fun _ _ => rfl) ?_
          refine x_iconst dX12_plan_55 ?_
          refine x_icmp_ne 63 dX12_plan_56 (by decide) ⟨(by omega), (by omega)⟩ (fun w56 => ?_) (fun w56 => ?_)
          · refine x_iload_n dX12_plan_63 rfl ?_
            refine x_if_ne 74 dX12_plan_64 (by decide) (by omega) (fun w64 => ?_) (fun w64 => ?_)
            · refine x_iload_n dX12_plan_74 rfl ?_
              refine x_iconst dX12_plan_75 ?_
              refine x_icmp_ne 86 dX12_plan_76 (by decide) ⟨(by omega), (by omega)⟩ (fun w76 => ?_) (fun w76 => ?_)
              · refine x_aload_n dX12_plan_86 rfl ?_
                refine x_getR (b := 319) dX12_plan_87 gf_RX12_59 (k_ob_306 cs) (fun _ _ => rfl) (k_r_306_29 cs) ?_
                refine x_iload_n dX12_plan_90 rfl ?_
                refine x_iconst dX12_plan_91 ?_
                refine x_isub dX12_plan_92 ?_
                refine x_iaload dX12_plan_93 (k_ar_319 cs) (by omega) (by omega) ?_
                exact x_ireturn dX12_plan_94 rfl (by omega) (by omega) (by first
 | (have h9 := hp I Fpl.rf
    rw [hno (by intro h8; obtain ⟨u1, ⟨u2, u3, u4, u5⟩, u6⟩ := h8; omega)] at h9; exact h9)
 | (have h9 := hp I Fpl.rf
    have hz9 : ((z : Int)).toNat = z := by omega
    rw [hno (by intro h8; obtain ⟨u1, ⟨u2, u3, u4, u5⟩, u6⟩ := h8; rw [hz9] at u4 u5; omega)] at h9; exact h9)
 | (have h9 := hp I Fpl.rf
    have hz9 : ((z : Int)).toNat = z := by omega
    by_cases hw0 : 0 ≤ w
    · unfold f_plan at h9
      by_cases hc9 : 0 ≤ w ∧ canP A (z : Int) ∧ (plS A tx ((z : Int)).toNat o b).1 ≤ 60
      · rw [if_pos hc9, if_neg (by omega), if_neg (by omega), if_neg (by rw [hz9]; omega)] at h9; exact h9
      · rw [if_neg hc9] at h9; exact h9
    · rw [hno (by intro h8; have := h8.1; omega)] at h9; exact h9)
 | (have h9 := hp J48 f48
    cases bs with
    | none =>
      have h61 : (plS A tx z o b).1 = 61 := hpl
      rw [hno (by intro h8; have h7 := h8.2.2; rw [hz9] at h7; omega)] at h9; exact h9
    | some x => exfalso; obtain ⟨dd, p, oo⟩ := x; have h8 := g48.1; have h7 := g48.2.1; omega)
 | (have h9 := hp J48 f48
    cases bs with
    | none => exfalso; have h8 : J48 306 31 = -1 := g48; omega
    | some x =>
      obtain ⟨dd, p, oo⟩ := x
      obtain ⟨k1, k2, k3, k4, k5⟩ := hpl
      obtain ⟨m1, m2, m3, m4, m5, m6⟩ := g48
      have ef : ∀ v, f_plan A tx o b (z : Int) w = v → Post (some (.int (iI v))) S J48 R := fun v hv => by rw [← hv]; exact h9
      first
      | (refine ef _ ?_
         unfold f_plan
         rw [if_pos ⟨by omega, hcan, by show (plS A tx z o b).1 ≤ 60; omega⟩, if_pos (by omega)]
         exact k1.trans m1.symm)
      | (refine ef _ ?_
         unfold f_plan
         rw [if_pos ⟨by omega, hcan, by show (plS A tx z o b).1 ≤ 60; omega⟩, if_neg (by omega), if_pos (by omega)]
         exact k3.trans m3.symm)
      | (refine ef _ ?_
         unfold f_plan
         rw [if_pos ⟨by omega, hcan, by show (plS A tx z o b).1 ≤ 60; omega⟩, if_neg (by omega), if_neg (by omega), if_pos (by show w - 2 < (bcN z : Int); omega)]
         exact (k5 _ (by omega)).trans (m6 _ (by omega)).symm)))
              · refine x_aload_n dX12_plan_79 rfl ?_
                refine x_getI dX12_plan_80 gf_RX12_455 (k_ob_306 cs) (fun _ _ => rfl) ?_
                refine x_goto 94 dX12_plan_83 (by decide) ?_
                exact x_ireturn dX12_plan_94 rfl (by omega) (by omega) (by first
 | (have h9 := hp I Fpl.rf
    rw [hno (by intro h8; obtain ⟨u1, ⟨u2, u3, u4, u5⟩, u6⟩ := h8; omega)] at h9; exact h9)
 | (have h9 := hp I Fpl.rf
    have hz9 : ((z : Int)).toNat = z := by omega
    rw [hno (by intro h8; obtain ⟨u1, ⟨u2, u3, u4, u5⟩, u6⟩ := h8; rw [hz9] at u4 u5; omega)] at h9; exact h9)
 | (have h9 := hp I Fpl.rf
    have hz9 : ((z : Int)).toNat = z := by omega
    by_cases hw0 : 0 ≤ w
    · unfold f_plan at h9
      by_cases hc9 : 0 ≤ w ∧ canP A (z : Int) ∧ (plS A tx ((z : Int)).toNat o b).1 ≤ 60
      · rw [if_pos hc9, if_neg (by omega), if_neg (by omega), if_neg (by rw [hz9]; omega)] at h9; exact h9
      · rw [if_neg hc9] at h9; exact h9
    · rw [hno (by intro h8; have := h8.1; omega)] at h9; exact h9)
 | (have h9 := hp J48 f48
    cases bs with
    | none =>
      have h61 : (plS A tx z o b).1 = 61 := hpl
      rw [hno (by intro h8; have h7 := h8.2.2; rw [hz9] at h7; omega)] at h9; exact h9
    | some x => exfalso; obtain ⟨dd, p, oo⟩ := x; have h8 := g48.1; have h7 := g48.2.1; omega)
 | (have h9 := hp J48 f48
    cases bs with
    | none => exfalso; have h8 : J48 306 31 = -1 := g48; omega
    | some x =>
      obtain ⟨dd, p, oo⟩ := x
      obtain ⟨k1, k2, k3, k4, k5⟩ := hpl
      obtain ⟨m1, m2, m3, m4, m5, m6⟩ := g48
      have ef : ∀ v, f_plan A tx o b (z : Int) w = v → Post (some (.int (iI v))) S J48 R := fun v hv => by rw [← hv]; exact h9
      first
      | (refine ef _ ?_
         unfold f_plan
         rw [if_pos ⟨by omega, hcan, by show (plS A tx z o b).1 ≤ 60; omega⟩, if_pos (by omega)]
         exact k1.trans m1.symm)
      | (refine ef _ ?_
         unfold f_plan
         rw [if_pos ⟨by omega, hcan, by show (plS A tx z o b).1 ≤ 60; omega⟩, if_neg (by omega), if_pos (by omega)]
         exact k3.trans m3.symm)
      | (refine ef _ ?_
         unfold f_plan
         rw [if_pos ⟨by omega, hcan, by show (plS A tx z o b).1 ≤ 60; omega⟩, if_neg (by omega), if_neg (by omega), if_pos (by show w - 2 < (bcN z : Int); omega)]
         exact (k5 _ (by omega)).trans (m6 _ (by omega)).symm)))
            · refine x_aload_n dX12_plan_67 rfl ?_
              refine x_getI dX12_plan_68 gf_RX12_445 (k_ob_306 cs) (fun _ _ => rfl) ?_
              refine x_goto 94 dX12_plan_71 (by decide) ?_
              exact x_ireturn dX12_plan_94 rfl (by omega) (by omega) (by first
 | (have h9 := hp I Fpl.rf
    rw [hno (by intro h8; obtain ⟨u1, ⟨u2, u3, u4, u5⟩, u6⟩ := h8; omega)] at h9; exact h9)
 | (have h9 := hp I Fpl.rf
    have hz9 : ((z : Int)).toNat = z := by omega
    rw [hno (by intro h8; obtain ⟨u1, ⟨u2, u3, u4, u5⟩, u6⟩ := h8; rw [hz9] at u4 u5; omega)] at h9; exact h9)
 | (have h9 := hp I Fpl.rf
    have hz9 : ((z : Int)).toNat = z := by omega
    by_cases hw0 : 0 ≤ w
    · unfold f_plan at h9
      by_cases hc9 : 0 ≤ w ∧ canP A (z : Int) ∧ (plS A tx ((z : Int)).toNat o b).1 ≤ 60
      · rw [if_pos hc9, if_neg (by omega), if_neg (by omega), if_neg (by rw [hz9]; omega)] at h9; exact h9
      · rw [if_neg hc9] at h9; exact h9
    · rw [hno (by intro h8; have := h8.1; omega)] at h9; exact h9)
 | (have h9 := hp J48 f48
    cases bs with
    | none =>
      have h61 : (plS A tx z o b).1 = 61 := hpl
      rw [hno (by intro h8; have h7 := h8.2.2; rw [hz9] at h7; omega)] at h9; exact h9
    | some x => exfalso; obtain ⟨dd, p, oo⟩ := x; have h8 := g48.1; have h7 := g48.2.1; omega)
 | (have h9 := hp J48 f48
    cases bs with
    | none => exfalso; have h8 : J48 306 31 = -1 := g48; omega
    | some x =>
      obtain ⟨dd, p, oo⟩ := x
      obtain ⟨k1, k2, k3, k4, k5⟩ := hpl
      obtain ⟨m1, m2, m3, m4, m5, m6⟩ := g48
      have ef : ∀ v, f_plan A tx o b (z : Int) w = v → Post (some (.int (iI v))) S J48 R := fun v hv => by rw [← hv]; exact h9
      first
      | (refine ef _ ?_
         unfold f_plan
         rw [if_pos ⟨by omega, hcan, by show (plS A tx z o b).1 ≤ 60; omega⟩, if_pos (by omega)]
         exact k1.trans m1.symm)
      | (refine ef _ ?_
         unfold f_plan
         rw [if_pos ⟨by omega, hcan, by show (plS A tx z o b).1 ≤ 60; omega⟩, if_neg (by omega), if_pos (by omega)]
         exact k3.trans m3.symm)
      | (refine ef _ ?_
         unfold f_plan
         rw [if_pos ⟨by omega, hcan, by show (plS A tx z o b).1 ≤ 60; omega⟩, if_neg (by omega), if_neg (by omega), if_pos (by show w - 2 < (bcN z : Int); omega)]
         exact (k5 _ (by omega)).trans (m6 _ (by omega)).symm)))
          · refine x_iconst dX12_plan_59 ?_
            refine x_goto 94 dX12_plan_60 (by decide) ?_
            exact x_ireturn dX12_plan_94 rfl (by omega) (by omega) (by first
 | (have h9 := hp I Fpl.rf
    rw [hno (by intro h8; obtain ⟨u1, ⟨u2, u3, u4, u5⟩, u6⟩ := h8; omega)] at h9; exact h9)
 | (have h9 := hp I Fpl.rf
    have hz9 : ((z : Int)).toNat = z := by omega
    rw [hno (by intro h8; obtain ⟨u1, ⟨u2, u3, u4, u5⟩, u6⟩ := h8; rw [hz9] at u4 u5; omega)] at h9; exact h9)
 | (have h9 := hp I Fpl.rf
    have hz9 : ((z : Int)).toNat = z := by omega
    by_cases hw0 : 0 ≤ w
    · unfold f_plan at h9
      by_cases hc9 : 0 ≤ w ∧ canP A (z : Int) ∧ (plS A tx ((z : Int)).toNat o b).1 ≤ 60
      · rw [if_pos hc9, if_neg (by omega), if_neg (by omega), if_neg (by rw [hz9]; omega)] at h9; exact h9
      · rw [if_neg hc9] at h9; exact h9
    · rw [hno (by intro h8; have := h8.1; omega)] at h9; exact h9)
 | (have h9 := hp J48 f48
    cases bs with
    | none =>
      have h61 : (plS A tx z o b).1 = 61 := hpl
      rw [hno (by intro h8; have h7 := h8.2.2; rw [hz9] at h7; omega)] at h9; exact h9
    | some x => exfalso; obtain ⟨dd, p, oo⟩ := x; have h8 := g48.1; have h7 := g48.2.1; omega)
 | (have h9 := hp J48 f48
    cases bs with
    | none => exfalso; have h8 : J48 306 31 = -1 := g48; omega
    | some x =>
      obtain ⟨dd, p, oo⟩ := x
      obtain ⟨k1, k2, k3, k4, k5⟩ := hpl
      obtain ⟨m1, m2, m3, m4, m5, m6⟩ := g48
      have ef : ∀ v, f_plan A tx o b (z : Int) w = v → Post (some (.int (iI v))) S J48 R := fun v hv => by rw [← hv]; exact h9
      first
      | (refine ef _ ?_
         unfold f_plan
         rw [if_pos ⟨by omega, hcan, by show (plS A tx z o b).1 ≤ 60; omega⟩, if_pos (by omega)]
         exact k1.trans m1.symm)
      | (refine ef _ ?_
         unfold f_plan
         rw [if_pos ⟨by omega, hcan, by show (plS A tx z o b).1 ≤ 60; omega⟩, if_neg (by omega), if_pos (by omega)]
         exact k3.trans m3.symm)
      | (refine ef _ ?_
         unfold f_plan
         rw [if_pos ⟨by omega, hcan, by show (plS A tx z o b).1 ≤ 60; omega⟩, if_neg (by omega), if_neg (by omega), if_pos (by show w - 2 < (bcN z : Int); omega)]
         exact (k5 _ (by omega)).trans (m6 _ (by omega)).symm)))
        · refine x_iconst dX12_plan_44 ?_
          exact x_ireturn dX12_plan_45 rfl (by omega) (by omega) (by first
 | (have h9 := hp I Fpl.rf
    rw [hno (by intro h8; obtain ⟨u1, ⟨u2, u3, u4, u5⟩, u6⟩ := h8; omega)] at h9; exact h9)
 | (have h9 := hp I Fpl.rf
    have hz9 : ((z : Int)).toNat = z := by omega
    rw [hno (by intro h8; obtain ⟨u1, ⟨u2, u3, u4, u5⟩, u6⟩ := h8; rw [hz9] at u4 u5; omega)] at h9; exact h9)
 | (have h9 := hp I Fpl.rf
    have hz9 : ((z : Int)).toNat = z := by omega
    by_cases hw0 : 0 ≤ w
    · unfold f_plan at h9
      by_cases hc9 : 0 ≤ w ∧ canP A (z : Int) ∧ (plS A tx ((z : Int)).toNat o b).1 ≤ 60
      · rw [if_pos hc9, if_neg (by omega), if_neg (by omega), if_neg (by rw [hz9]; omega)] at h9; exact h9
      · rw [if_neg hc9] at h9; exact h9
    · rw [hno (by intro h8; have := h8.1; omega)] at h9; exact h9)
 | (have h9 := hp J48 f48
    cases bs with
    | none =>
      have h61 : (plS A tx z o b).1 = 61 := hpl
      rw [hno (by intro h8; have h7 := h8.2.2; rw [hz9] at h7; omega)] at h9; exact h9
    | some x => exfalso; obtain ⟨dd, p, oo⟩ := x; have h8 := g48.1; have h7 := g48.2.1; omega)
 | (have h9 := hp J48 f48
    cases bs with
    | none => exfalso; have h8 : J48 306 31 = -1 := g48; omega
    | some x =>
      obtain ⟨dd, p, oo⟩ := x
      obtain ⟨k1, k2, k3, k4, k5⟩ := hpl
      obtain ⟨m1, m2, m3, m4, m5, m6⟩ := g48
      have ef : ∀ v, f_plan A tx o b (z : Int) w = v → Post (some (.int (iI v))) S J48 R := fun v hv => by rw [← hv]; exact h9
      first
      | (refine ef _ ?_
         unfold f_plan
         rw [if_pos ⟨by omega, hcan, by show (plS A tx z o b).1 ≤ 60; omega⟩, if_pos (by omega)]
         exact k1.trans m1.symm)
      | (refine ef _ ?_
         unfold f_plan
         rw [if_pos ⟨by omega, hcan, by show (plS A tx z o b).1 ≤ 60; omega⟩, if_neg (by omega), if_pos (by omega)]
         exact k3.trans m3.symm)
      | (refine ef _ ?_
         unfold f_plan
         rw [if_pos ⟨by omega, hcan, by show (plS A tx z o b).1 ≤ 60; omega⟩, if_neg (by omega), if_neg (by omega), if_pos (by show w - 2 < (bcN z : Int); omega)]
         exact (k5 _ (by omega)).trans (m6 _ (by omega)).symm)))
end Pl3s
