section Rt2s
variable {n mc ms : Nat} {M : Md} {pc : Nat} {lv : List (Nat × Value)} {st : List Value} {k j : Nat} {Post : PT} {S : Sh} {I : CI} {R : CR} {A : Nat → Int} {tx : Nat → Nat → Int}
variable {t : Nat → Int} {l o : Nat} {sl : Bool} {cu cu1 : Cu} {p b c1 code : List Int} {cl : List CE} {s s2 : TMS}
theorem rfp_w {J : CI} (h : RfP I t l o sl cu b) (e0 : J 310 = I 310) (e6 : ∀ a, J 306 a = I 306 a) (e9 : ∀ a, o + 97 ≤ a → J 309 a = I 309 a) : RfP J t l o sl cu b := by
  obtain ⟨h1, h3, h4, h7, h8⟩ := h
  refine ⟨tk_fr h1 e0 (fun a _ => e6 a), ⟨fun i hi => ?_, (e6 13).trans h3.2.1, (e6 12).trans h3.2.2⟩, by rw [e6 14]; exact h4, h7, h8⟩
  rw [e9 _ (by omega), e9 _ (by omega)]
  exact h3.1 i hi
/-- what a law changes -/
def Fl2 (x o : Nat) (I J : CI) : Prop := (∀ a, a ≠ 306 → a ≠ 309 → a ≠ 311 → J a = I a) ∧ (∀ a, (a < 7 ∨ a = 12 ∨ a = 14 ∨ 18 < a) → J 306 a = I 306 a) ∧ ∀ a, (a < o + 97 ∨ o + 705 ≤ a) → (a < x + 1 ∨ x + 2 < a) → J 309 a = I 309 a
abbrev LwH (t : Nat → Int) (l : Nat) (sl : Bool) (cu : Cu) (b : List Int) (r : Int) (cu1 : Cu) (c1 : List Int) (pl : Nat) : Prop := (r = 0 ∧ SumG t l sl 0 cu b cu1 c1) ∨ ((0 < r ∧ r ≤ 6) ∧ SumF t l sl 0 cu b r pl)
def LwR (J : CI) (t : Nat → Int) (l x o : Nat) (sl : Bool) (b : List Int) (r : Int) (cu1 : Cu) (c1 : List Int) (pl : Nat) : Prop := ∃ cu2 b2, RfP J t l o sl cu2 b2 ∧ J 309 (x + 1) = (b.length : Int) ∧ J 309 (x + 2) = (b2.length : Int) ∧ (r = 0 → cu2 = cu1 ∧ b2 = c1) ∧ (r ≠ 0 → cu2.2.1 = pl)
theorem sp_sum2 {r : Int} {pl : Nat} (cs : CS S R) (hn : 8 ≤ n) (h : RfP I t l o sl cu b) (hO : LwH t l sl cu b r cu1 c1 pl) (hp : ∀ J, (∃ cu2 b2, RfP J t l o sl cu2 b2 ∧ (r = 0 → cu2 = cu1 ∧ b2 = c1) ∧ (r ≠ 0 → cu2.2.1 = pl)) → Frf o I J → Post (some (.int (iI r))) S J R) : Call n 0 0 mX12_summed [.ref (S.2.1 306)] S I R Post := by
  rcases hO with ⟨rfl, hG⟩ | ⟨hr, hF⟩
  · exact sp_sumG cs hn h hG (fun J h1 h2 => hp J ⟨cu1, c1, h1, fun _ => ⟨rfl, rfl⟩, fun g => absurd rfl g⟩ h2)
  · exact sp_sumF cs hn h hr.1 hF (fun J h1 h2 => hp J (by obtain ⟨cu2, b2, g1, g2⟩ := h1; exact ⟨cu2, b2, g1, fun g => by omega, fun _ => g2⟩) h2)
theorem dX12_lawClause_0 : decode prog_14_method_53_code 0 = .ok (.aload_n 0, 1) := by decide +kernel
theorem dX12_lawClause_1 : decode prog_14_method_53_code 1 = .ok (.getfield 16, 3) := by decide +kernel
theorem dX12_lawClause_4 : decode prog_14_method_53_code 4 = .ok (.iload_n 1, 1) := by decide +kernel
theorem dX12_lawClause_5 : decode prog_14_method_53_code 5 = .ok (.iconst 1, 1) := by decide +kernel
theorem dX12_lawClause_6 : decode prog_14_method_53_code 6 = .ok (.iadd, 1) := by decide +kernel
theorem dX12_lawClause_7 : decode prog_14_method_53_code 7 = .ok (.aload_n 0, 1) := by decide +kernel
theorem dX12_lawClause_8 : decode prog_14_method_53_code 8 = .ok (.getfield 156, 3) := by decide +kernel
theorem dX12_lawClause_11 : decode prog_14_method_53_code 11 = .ok (.iastore, 1) := by decide +kernel
theorem dX12_lawClause_12 : decode prog_14_method_53_code 12 = .ok (.aload_n 0, 1) := by decide +kernel
theorem dX12_lawClause_13 : decode prog_14_method_53_code 13 = .ok (.invokevirtual 233, 3) := by decide +kernel
theorem dX12_lawClause_16 : decode prog_14_method_53_code 16 = .ok (.istore_n 2, 1) := by decide +kernel
theorem dX12_lawClause_17 : decode prog_14_method_53_code 17 = .ok (.aload_n 0, 1) := by decide +kernel
theorem dX12_lawClause_18 : decode prog_14_method_53_code 18 = .ok (.getfield 16, 3) := by decide +kernel
theorem dX12_lawClause_21 : decode prog_14_method_53_code 21 = .ok (.iload_n 1, 1) := by decide +kernel
theorem dX12_lawClause_22 : decode prog_14_method_53_code 22 = .ok (.iconst 2, 1) := by decide +kernel
theorem dX12_lawClause_23 : decode prog_14_method_53_code 23 = .ok (.iadd, 1) := by decide +kernel
theorem dX12_lawClause_24 : decode prog_14_method_53_code 24 = .ok (.aload_n 0, 1) := by decide +kernel
theorem dX12_lawClause_25 : decode prog_14_method_53_code 25 = .ok (.getfield 156, 3) := by decide +kernel
theorem dX12_lawClause_28 : decode prog_14_method_53_code 28 = .ok (.iastore, 1) := by decide +kernel
theorem dX12_lawClause_29 : decode prog_14_method_53_code 29 = .ok (.iload_n 2, 1) := by decide +kernel
theorem dX12_lawClause_30 : decode prog_14_method_53_code 30 = .ok (.ireturn, 1) := by decide +kernel
theorem sp_X12_lawClause {x : Nat} {r : Int} {pl : Nat} (cs : CS S R) (hn : 9 ≤ n) (hx : o + 1 ≤ x ∧ x + 3 < o + 97) (h : RfP I t l o sl cu b) (hO : LwH t l sl cu b r cu1 c1 pl) (hp : ∀ J, LwR J t l x o sl b r cu1 c1 pl → Fl2 x o I J → Post (some (.int (iI r))) S J R) : Call n 0 0 mX12_lawClause [.ref (S.2.1 306), .int (iI (x : Int))] S I R Post := by
  have ho := h.2.2.2.2
  have h13 := h.2.1.2.1
  refine Call.of (by decide +kernel) (Nat.le_of_ble_eq_true rfl) ?_
  show WP _ _ _ _ _ 0 [(0, _), (1, _)] [] 0 0 _ _ _
  refine x_aload_n dX12_lawClause_0 rfl ?_
  refine x_getR (b := 309) dX12_lawClause_1 gf_RX12_16 (k_ob_306 cs) (fun _ _ => rfl) (k_r_306_2 cs) ?_
  refine x_iload_n dX12_lawClause_4 rfl ?_
  refine x_iconst dX12_lawClause_5 ?_
  refine x_iadd dX12_lawClause_6 ?_
  refine x_aload_n dX12_lawClause_7 rfl ?_
  refine x_getIv (z := (b.length : Int)) dX12_lawClause_8 gf_RX12_156 (k_ob_306 cs) (fun _ _ => rfl) (by first | exact h13 | exact r13.2.1.2.1) ?_
  refine x_iastore dX12_lawClause_11 (k_ar_309 cs) (by omega) (by omega) ?_
  refine x_aload_n dX12_lawClause_12 rfl ?_
  refine x_callV0 (mc1 := 0) (ms1 := 0) dX12_lawClause_13 cv_RX12_233 (ci := 12) (k_ob_306 cs) rfl (Nat.le_of_ble_eq_true rfl) (n1 := n - 1) (by omega) (by omega) (by omega) ?_
  refine sp_sum2 (t := t) (l := l) (o := o) (sl := sl) (cu := cu) (b := b) (cu1 := cu1) (c1 := c1) (r := r) (pl := pl) cs (by omega) (rfp_w h (by rw [uI_row (by omega)]) (fun a => by rw [uI_row (by omega)]) (fun a ha => by rw [uI_o (by omega)])) hO (fun J13 g13 f13 => ?_)
  obtain ⟨cu2, b2, r13, q13, p13⟩ := g13
  refine x_istore_n (lv2 := [(2, _), (0, _), (1, _)]) dX12_lawClause_16 (by decide) rfl ?_
  refine x_aload_n dX12_lawClause_17 rfl ?_
  refine x_getR (b := 309) dX12_lawClause_18 gf_RX12_16 (k_ob_306 cs) (fun _ _ => rfl) (k_r_306_2 cs) ?_
  refine x_iload_n dX12_lawClause_21 rfl ?_
  refine x_iconst dX12_lawClause_22 ?_
  refine x_iadd dX12_lawClause_23 ?_
  refine x_aload_n dX12_lawClause_24 rfl ?_
  refine x_getIv (z := (b2.length : Int)) dX12_lawClause_25 gf_RX12_156 (k_ob_306 cs) (fun _ _ => rfl) (by first | exact h13 | exact r13.2.1.2.1) ?_
  refine x_iastore dX12_lawClause_28 (k_ar_309 cs) (by omega) (by omega) ?_
  refine x_iload_n dX12_lawClause_29 rfl ?_
  exact x_ireturn dX12_lawClause_30 rfl (by omega) (by omega) (hp _ ⟨cu2, b2, rfp_w r13 (by rw [uI_row (by omega)]) (fun a => by rw [uI_row (by omega)]) (fun a ha => by rw [uI_o (by omega)]), by rw [uI_o (by omega), f13.2.2 (x + 1) (by omega), uI_x rfl (by omega)], by rw [uI_x rfl (by omega)], q13, p13⟩ ⟨fun a h7 h8 h9 => by rw [uI_row h8, f13.1 a h7 h8 h9, uI_row h8], fun a h9 => by rw [uI_row (by omega), f13.2.1 a h9, uI_row (by omega)], fun a h8 h9 => by rw [uI_o (by omega), f13.2.2 a h8, uI_o (by omega)]⟩)
theorem srt_v {w : Int} (h : isCl w) : (w = 136 ∧ srt w = 0) ∨ (w = 137 ∧ srt w = 1) ∨ (w = 138 ∧ srt w = 2) ∨ (w = 140 ∧ srt w = 3) ∨ (w = 141 ∧ srt w = 4) ∨ (w = 142 ∧ srt w = 5) ∨ (w = 128 ∧ srt w = 6) := by
  rcases h with rfl | rfl | rfl | rfl | rfl | rfl | rfl <;> decide
theorem dX12_body_0 : decode prog_14_method_56_code 0 = .ok (.iload_n 1, 1) := by decide +kernel
theorem dX12_body_1 : decode prog_14_method_56_code 1 = .ok (.tableswitch 86 2 6 #[35, 41, 52, 63, 75], 35) := by decide +kernel
theorem dX12_body_36 : decode prog_14_method_56_code 36 = .ok (.aload_n 0, 1) := by decide +kernel
theorem dX12_body_37 : decode prog_14_method_56_code 37 = .ok (.iload_n 2, 1) := by decide +kernel
theorem dX12_body_38 : decode prog_14_method_56_code 38 = .ok (.invokevirtual 244, 3) := by decide +kernel
theorem dX12_body_41 : decode prog_14_method_56_code 41 = .ok (.ireturn, 1) := by decide +kernel
theorem dX12_body_42 : decode prog_14_method_56_code 42 = .ok (.aload_n 0, 1) := by decide +kernel
theorem dX12_body_43 : decode prog_14_method_56_code 43 = .ok (.iload_n 2, 1) := by decide +kernel
theorem dX12_body_44 : decode prog_14_method_56_code 44 = .ok (.iconst 1, 1) := by decide +kernel
theorem dX12_body_45 : decode prog_14_method_56_code 45 = .ok (.iadd, 1) := by decide +kernel
theorem dX12_body_46 : decode prog_14_method_56_code 46 = .ok (.iconst 0, 1) := by decide +kernel
theorem dX12_body_47 : decode prog_14_method_56_code 47 = .ok (.bipush 7, 2) := by decide +kernel
theorem dX12_body_49 : decode prog_14_method_56_code 49 = .ok (.invokevirtual 236, 3) := by decide +kernel
theorem dX12_body_52 : decode prog_14_method_56_code 52 = .ok (.ireturn, 1) := by decide +kernel
theorem dX12_body_53 : decode prog_14_method_56_code 53 = .ok (.aload_n 0, 1) := by decide +kernel
theorem dX12_body_54 : decode prog_14_method_56_code 54 = .ok (.iload_n 2, 1) := by decide +kernel
theorem dX12_body_55 : decode prog_14_method_56_code 55 = .ok (.iconst 1, 1) := by decide +kernel
theorem dX12_body_56 : decode prog_14_method_56_code 56 = .ok (.iadd, 1) := by decide +kernel
theorem dX12_body_57 : decode prog_14_method_56_code 57 = .ok (.iconst 0, 1) := by decide +kernel
theorem dX12_body_58 : decode prog_14_method_56_code 58 = .ok (.bipush 7, 2) := by decide +kernel
theorem dX12_body_60 : decode prog_14_method_56_code 60 = .ok (.invokevirtual 236, 3) := by decide +kernel
theorem dX12_body_63 : decode prog_14_method_56_code 63 = .ok (.ireturn, 1) := by decide +kernel
theorem dX12_body_64 : decode prog_14_method_56_code 64 = .ok (.aload_n 0, 1) := by decide +kernel
theorem dX12_body_65 : decode prog_14_method_56_code 65 = .ok (.iload_n 2, 1) := by decide +kernel
theorem dX12_body_66 : decode prog_14_method_56_code 66 = .ok (.iconst 1, 1) := by decide +kernel
theorem dX12_body_67 : decode prog_14_method_56_code 67 = .ok (.iadd, 1) := by decide +kernel
theorem dX12_body_68 : decode prog_14_method_56_code 68 = .ok (.iconst 1, 1) := by decide +kernel
theorem dX12_body_69 : decode prog_14_method_56_code 69 = .ok (.sipush 999, 3) := by decide +kernel
theorem dX12_body_72 : decode prog_14_method_56_code 72 = .ok (.invokevirtual 236, 3) := by decide +kernel
theorem dX12_body_75 : decode prog_14_method_56_code 75 = .ok (.ireturn, 1) := by decide +kernel
theorem dX12_body_76 : decode prog_14_method_56_code 76 = .ok (.aload_n 0, 1) := by decide +kernel
theorem dX12_body_77 : decode prog_14_method_56_code 77 = .ok (.iload_n 2, 1) := by decide +kernel
theorem dX12_body_78 : decode prog_14_method_56_code 78 = .ok (.iconst 1, 1) := by decide +kernel
theorem dX12_body_79 : decode prog_14_method_56_code 79 = .ok (.iadd, 1) := by decide +kernel
theorem dX12_body_80 : decode prog_14_method_56_code 80 = .ok (.iconst 1, 1) := by decide +kernel
theorem dX12_body_81 : decode prog_14_method_56_code 81 = .ok (.bipush 60, 2) := by decide +kernel
theorem dX12_body_83 : decode prog_14_method_56_code 83 = .ok (.invokevirtual 236, 3) := by decide +kernel
theorem dX12_body_86 : decode prog_14_method_56_code 86 = .ok (.ireturn, 1) := by decide +kernel
theorem dX12_body_87 : decode prog_14_method_56_code 87 = .ok (.aload_n 0, 1) := by decide +kernel
theorem dX12_body_88 : decode prog_14_method_56_code 88 = .ok (.iload_n 2, 1) := by decide +kernel
theorem dX12_body_89 : decode prog_14_method_56_code 89 = .ok (.invokevirtual 247, 3) := by decide +kernel
theorem dX12_body_92 : decode prog_14_method_56_code 92 = .ok (.ireturn, 1) := by decide +kernel
theorem sp_bodyL {x : Nat} {r z : Int} {pl : Nat} (cs : CS S R) (hn : 10 ≤ n) (hz : 0 ≤ z ∧ z ≤ 1) (hx : o + 1 ≤ x ∧ x + 3 < o + 97) (h : RfP I t l o sl cu b) (hO : LwH t l sl cu b r cu1 c1 pl) (hp : ∀ J, LwR J t l x o sl b r cu1 c1 pl → Fl2 x o I J → Post (some (.int (iI r))) S J R) : Call n 0 0 mX12_body [.ref (S.2.1 306), .int (iI z), .int (iI (x : Int))] S I R Post := by
  refine Call.of (by decide +kernel) (Nat.le_of_ble_eq_true rfl) ?_
  show WP _ _ _ _ _ 0 [(0, _), (1, _), (2, _)] [] 0 0 _ _ _
  refine x_iload_n dX12_body_0 rfl ?_
  by_cases t1_0 : z = 2
  · refine x_tableIn 36 dX12_body_1 (by omega) (by omega) (by rw [t1_0]; rfl) (by decide) ?_
    exfalso; omega
  by_cases t1_1 : z = 3
  · refine x_tableIn 42 dX12_body_1 (by omega) (by omega) (by rw [t1_1]; rfl) (by decide) ?_
    exfalso; omega
  by_cases t1_2 : z = 4
  · refine x_tableIn 53 dX12_body_1 (by omega) (by omega) (by rw [t1_2]; rfl) (by decide) ?_
    exfalso; omega
  by_cases t1_3 : z = 5
  · refine x_tableIn 64 dX12_body_1 (by omega) (by omega) (by rw [t1_3]; rfl) (by decide) ?_
    exfalso; omega
  by_cases t1_4 : z = 6
  · refine x_tableIn 76 dX12_body_1 (by omega) (by omega) (by rw [t1_4]; rfl) (by decide) ?_
    exfalso; omega
  refine x_tableOut 87 dX12_body_1 (by omega) (by omega) (by decide) ?_
  refine x_aload_n dX12_body_87 rfl ?_
  refine x_iload_n dX12_body_88 rfl ?_
  refine x_callV1 (mc1 := 0) (ms1 := 0) dX12_body_89 cv_RX12_247 (ci := 12) (k_ob_306 cs) rfl (Nat.le_of_ble_eq_true rfl) (n1 := n - 1) (by omega) (by omega) (by omega) ?_
  refine sp_X12_lawClause (t := t) (l := l) (o := o) (sl := sl) (cu := cu) (b := b) (cu1 := cu1) (c1 := c1) (r := r) (pl := pl) cs (by omega) hx h hO (fun J89 g89 f89 => ?_)
  exact x_ireturn dX12_body_92 rfl (by omega) (by omega) (hp J89 g89 f89)
theorem sp_bodyD {x : Nat} {w : Int} (cs : CS S R) (hn : 6 ≤ n) (hw : isCl w ∧ ¬ isLw w) (hx : x + 3 < 2820) (h : Tok I t l cu) (hp : ∀ J, DeR J t l x w cu → Fg3 x I J → Post (some (.int (iI (deed t l w cu).1))) S J R) : Call n 0 0 mX12_body [.ref (S.2.1 306), .int (iI (srt w)), .int (iI (x : Int))] S I R Post := by
  have hv := srt_v hw.1
  have hr : Rg (srt w) := by omega
  have hone : w ≠ 138 → ∀ lo hi : Int, dlo w = lo → dhi w = hi → ∀ J, Tok J t l (fgC t l lo hi cu) → (figF lo hi cu = 0 → J 309 (x + 1) = cu.2.2.2) → Fg1 (x + 1) I J → Post (some (.int (iI (figF lo hi cu)))) S J R := by
    intro hne lo hi e1 e2 J g1 g2 g3
    subst e1 e2
    have hd := deed_o (t := t) (l := l) (cu := cu) hne
    rw [← hd.1]
    refine hp J ⟨by rw [hd.2.1]; exact g1, fun g => ⟨?_, fun g9 => absurd g9 hne⟩⟩ (Fg3.rf.nx g3 (by omega))
    rw [hd.2.2 g]
    exact g2 (by rw [← hd.1]; exact g)
  refine Call.of (by decide +kernel) (Nat.le_of_ble_eq_true rfl) ?_
  show WP _ _ _ _ _ 0 [(0, _), (1, _), (2, _)] [] 0 0 _ _ _
  refine x_iload_n dX12_body_0 rfl ?_
  by_cases t1_0 : srt w = 2
  · refine x_tableIn 36 dX12_body_1 (by omega) (by omega) (by rw [t1_0]; rfl) (by decide) ?_
    obtain rfl : w = 138 := by omega
    refine x_aload_n dX12_body_36 rfl ?_
    refine x_iload_n dX12_body_37 rfl ?_
    refine x_callV1 (mc1 := 0) (ms1 := 0) dX12_body_38 cv_RX12_244 (ci := 12) (k_ob_306 cs) rfl (Nat.le_of_ble_eq_true rfl) (n1 := n - 1) (by omega) (by omega) (by omega) ?_
    refine sp_X12_quarrelClause (t := t) (l := l) (cu := cu) cs (by omega) hx h (fun J38 k38 f38 => ?_)
    exact x_ireturn dX12_body_41 rfl (by omega) (by omega) (by first
 | exact hp J38 k38 f38
 | (obtain rfl : w = 140 := by omega
    exact hone (by omega) 0 7 (by decide) (by decide) J49 k49 v49 f49)
 | (obtain rfl : w = 141 := by omega
    exact hone (by omega) 0 7 (by decide) (by decide) J60 k60 v60 f60)
 | (obtain rfl : w = 142 := by omega
    exact hone (by omega) 1 999 (by decide) (by decide) J72 k72 v72 f72)
 | (obtain rfl : w = 128 := by omega
    exact hone (by omega) 1 60 (by decide) (by decide) J83 k83 v83 f83))
  by_cases t1_1 : srt w = 3
  · refine x_tableIn 42 dX12_body_1 (by omega) (by omega) (by rw [t1_1]; rfl) (by decide) ?_
    refine x_aload_n dX12_body_42 rfl ?_
    refine x_iload_n dX12_body_43 rfl ?_
    refine x_iconst dX12_body_44 ?_
    refine x_iadd dX12_body_45 ?_
    refine x_iconst dX12_body_46 ?_
    refine x_bipush dX12_body_47 (by decide) ?_
    refine x_callV3 (mc1 := 0) (ms1 := 0) dX12_body_49 cv_RX12_236 (ci := 12) (k_ob_306 cs) rfl (Nat.le_of_ble_eq_true rfl) (n1 := n - 1) (by omega) (by omega) (by omega) ?_
    refine sp_X12_figure (x := x + 1) (t := t) (l := l) (cu := cu) cs (by omega) (by omega) (by omega) h (fun J49 k49 v49 f49 => ?_)
    exact x_ireturn dX12_body_52 rfl (by omega) (by omega) (by first
 | exact hp J38 k38 f38
 | (obtain rfl : w = 140 := by omega
    exact hone (by omega) 0 7 (by decide) (by decide) J49 k49 v49 f49)
 | (obtain rfl : w = 141 := by omega
    exact hone (by omega) 0 7 (by decide) (by decide) J60 k60 v60 f60)
 | (obtain rfl : w = 142 := by omega
    exact hone (by omega) 1 999 (by decide) (by decide) J72 k72 v72 f72)
 | (obtain rfl : w = 128 := by omega
    exact hone (by omega) 1 60 (by decide) (by decide) J83 k83 v83 f83))
  by_cases t1_2 : srt w = 4
  · refine x_tableIn 53 dX12_body_1 (by omega) (by omega) (by rw [t1_2]; rfl) (by decide) ?_
    refine x_aload_n dX12_body_53 rfl ?_
    refine x_iload_n dX12_body_54 rfl ?_
    refine x_iconst dX12_body_55 ?_
    refine x_iadd dX12_body_56 ?_
    refine x_iconst dX12_body_57 ?_
    refine x_bipush dX12_body_58 (by decide) ?_
    refine x_callV3 (mc1 := 0) (ms1 := 0) dX12_body_60 cv_RX12_236 (ci := 12) (k_ob_306 cs) rfl (Nat.le_of_ble_eq_true rfl) (n1 := n - 1) (by omega) (by omega) (by omega) ?_
    refine sp_X12_figure (x := x + 1) (t := t) (l := l) (cu := cu) cs (by omega) (by omega) (by omega) h (fun J60 k60 v60 f60 => ?_)
    exact x_ireturn dX12_body_63 rfl (by omega) (by omega) (by first
 | exact hp J38 k38 f38
 | (obtain rfl : w = 140 := by omega
    exact hone (by omega) 0 7 (by decide) (by decide) J49 k49 v49 f49)
 | (obtain rfl : w = 141 := by omega
    exact hone (by omega) 0 7 (by decide) (by decide) J60 k60 v60 f60)
 | (obtain rfl : w = 142 := by omega
    exact hone (by omega) 1 999 (by decide) (by decide) J72 k72 v72 f72)
 | (obtain rfl : w = 128 := by omega
    exact hone (by omega) 1 60 (by decide) (by decide) J83 k83 v83 f83))
  by_cases t1_3 : srt w = 5
  · refine x_tableIn 64 dX12_body_1 (by omega) (by omega) (by rw [t1_3]; rfl) (by decide) ?_
    refine x_aload_n dX12_body_64 rfl ?_
    refine x_iload_n dX12_body_65 rfl ?_
    refine x_iconst dX12_body_66 ?_
    refine x_iadd dX12_body_67 ?_
    refine x_iconst dX12_body_68 ?_
    refine x_sipush dX12_body_69 (by decide) ?_
    refine x_callV3 (mc1 := 0) (ms1 := 0) dX12_body_72 cv_RX12_236 (ci := 12) (k_ob_306 cs) rfl (Nat.le_of_ble_eq_true rfl) (n1 := n - 1) (by omega) (by omega) (by omega) ?_
    refine sp_X12_figure (x := x + 1) (t := t) (l := l) (cu := cu) cs (by omega) (by omega) (by omega) h (fun J72 k72 v72 f72 => ?_)
    exact x_ireturn dX12_body_75 rfl (by omega) (by omega) (by first
 | exact hp J38 k38 f38
 | (obtain rfl : w = 140 := by omega
    exact hone (by omega) 0 7 (by decide) (by decide) J49 k49 v49 f49)
 | (obtain rfl : w = 141 := by omega
    exact hone (by omega) 0 7 (by decide) (by decide) J60 k60 v60 f60)
 | (obtain rfl : w = 142 := by omega
    exact hone (by omega) 1 999 (by decide) (by decide) J72 k72 v72 f72)
 | (obtain rfl : w = 128 := by omega
    exact hone (by omega) 1 60 (by decide) (by decide) J83 k83 v83 f83))
  by_cases t1_4 : srt w = 6
  · refine x_tableIn 76 dX12_body_1 (by omega) (by omega) (by rw [t1_4]; rfl) (by decide) ?_
    refine x_aload_n dX12_body_76 rfl ?_
    refine x_iload_n dX12_body_77 rfl ?_
    refine x_iconst dX12_body_78 ?_
    refine x_iadd dX12_body_79 ?_
    refine x_iconst dX12_body_80 ?_
    refine x_bipush dX12_body_81 (by decide) ?_
    refine x_callV3 (mc1 := 0) (ms1 := 0) dX12_body_83 cv_RX12_236 (ci := 12) (k_ob_306 cs) rfl (Nat.le_of_ble_eq_true rfl) (n1 := n - 1) (by omega) (by omega) (by omega) ?_
    refine sp_X12_figure (x := x + 1) (t := t) (l := l) (cu := cu) cs (by omega) (by omega) (by omega) h (fun J83 k83 v83 f83 => ?_)
    exact x_ireturn dX12_body_86 rfl (by omega) (by omega) (by first
 | exact hp J38 k38 f38
 | (obtain rfl : w = 140 := by omega
    exact hone (by omega) 0 7 (by decide) (by decide) J49 k49 v49 f49)
 | (obtain rfl : w = 141 := by omega
    exact hone (by omega) 0 7 (by decide) (by decide) J60 k60 v60 f60)
 | (obtain rfl : w = 142 := by omega
    exact hone (by omega) 1 999 (by decide) (by decide) J72 k72 v72 f72)
 | (obtain rfl : w = 128 := by omega
    exact hone (by omega) 1 60 (by decide) (by decide) J83 k83 v83 f83))
  refine x_tableOut 87 dX12_body_1 (by omega) (by omega) (by decide) ?_
  exfalso; omega
/-- a text half read, in the reference -/
def EnR (X : Nat → Int) (o k : Nat) (e : CE) : Prop := X (o + 1 + 4 * k) = srt e.1 ∧ isCl e.1 ∧ X (o + 2 + 4 * k) = e.2.1 ∧ (isLw e.1 ∨ e.1 = 138 → X (o + 3 + 4 * k) = e.2.2.1) ∧ (e.1 = 138 → X (o + 4 + 4 * k) = e.2.2.2)
def ClR (J : CI) (o : Nat) (cl : List CE) : Prop := J 309 o = (cl.length : Int) ∧ ∀ k e, cl[k]? = some e → EnR (J 309) o k e
def OnR (v : Int) (cl : List CE) : Prop := (0 ≤ v ∧ v ≤ 3) ∧ (v % 2 = 1 ↔ hasL cl 136) ∧ (v / 2 % 2 = 1 ↔ hasL cl 137)
def RfT (J : CI) (t : Nat → Int) (l o : Nat) (s : TMS) : Prop := Tok J t l s.2.2 ∧ TkQ J t s.2.2 ∧ CdS J o s.2.1 ∧ ClR J o s.1 ∧ OnR (J 306 19) s.1 ∧ s.1.length ≤ 24 ∧ s.2.1.length ≤ s.2.2.2.1 ∧ o + 705 ≤ 2820
/-- what a clause changes -/
def Fcl (o : Nat) (I J : CI) : Prop := (∀ a, a ≠ 306 → a ≠ 309 → a ≠ 311 → J a = I a) ∧ (∀ a, (a < 7 ∨ 19 < a) → J 306 a = I 306 a) ∧ ∀ a, (a < o ∨ o + 705 ≤ a) → J 309 a = I 309 a
theorem Fcl.rf {I : CI} : Fcl o I I := ⟨fun _ _ _ _ => rfl, fun _ _ => rfl, fun _ _ => rfl⟩
theorem Fcl.tr {I J K : CI} (h : Fcl o I J) (h2 : Fcl o J K) : Fcl o I K := ⟨fun a x y z => (h2.1 a x y z).trans (h.1 a x y z), fun a x => (h2.2.1 a x).trans (h.2.1 a x), fun a x => (h2.2.2 a x).trans (h.2.2 a x)⟩
theorem Fcl.u6 {I J : CI} {q : Nat} {v : Int} (h : Fcl o I J) (hq : 7 ≤ q ∧ q ≤ 19) : Fcl o I (uI J 306 q v) := ⟨fun a x y z => by rw [uI_row x]; exact h.1 a x y z, fun a x => by rw [uI_o (by omega)]; exact h.2.1 a x, fun a x => by rw [uI_row (by omega)]; exact h.2.2 a x⟩
theorem Fcl.u9 {I J : CI} {q : Nat} {v : Int} (h : Fcl o I J) (hq : o ≤ q ∧ q < o + 705) : Fcl o I (uI J 309 q v) := ⟨fun a x y z => by rw [uI_row y]; exact h.1 a x y z, fun a x => by rw [uI_row (by omega)]; exact h.2.1 a x, fun a x => by rw [uI_o (by omega)]; exact h.2.2 a x⟩
theorem FcR.fcl {I J : CI} (h : FcR I J) : Fcl o I J := ⟨fun a x _ _ => h.1 a x, fun a x => h.2 a (by omega), fun a _ => by rw [h.1 309 (by omega)]⟩
theorem Fg3.fcl {I J : CI} {x : Nat} (h : Fg3 x I J) (hx : o ≤ x ∧ x + 3 < o + 705) : Fcl o I J := ⟨fun a x y _ => h.1 a x y, fun a x => h.2.1 a (by omega), fun a _ => h.2.2 a (by omega)⟩
theorem Fl2.fcl {I J : CI} {x : Nat} (h : Fl2 x o I J) (hx : o ≤ x ∧ x + 3 < o + 705) : Fcl o I J := ⟨h.1, fun a x => h.2.1 a (by omega), fun a _ => h.2.2 a (by omega) (by omega)⟩
/-- one more clause -/
theorem clr_app {J : CI} {e : CE} (h : ClR I o cl) (h0 : J 309 o = (cl.length : Int) + 1) (hold : ∀ a, (o + 1 ≤ a ∧ a < o + 1 + 4 * cl.length) → J 309 a = I 309 a) (he : EnR (J 309) o cl.length e) : ClR J o (cl ++ [e]) := by
  refine ⟨by rw [h0, List.length_append, List.length_singleton]; omega, fun k e2 hk => ?_⟩
  by_cases hlt : k < cl.length
  · rw [List.getElem?_append_left hlt] at hk
    obtain ⟨g1, g2, g3, g4, g5⟩ := h.2 k e2 hk
    refine ⟨by rw [hold _ (by omega)]; exact g1, g2, by rw [hold _ (by omega)]; exact g3, fun g => by rw [hold _ (by omega)]; exact g4 g, fun g => by rw [hold _ (by omega)]; exact g5 g⟩
  · have hl := (List.getElem?_eq_some_iff.mp hk).1
    rw [List.length_append, List.length_singleton] at hl
    have hk2 : k = cl.length := by omega
    subst hk2
    have h3 : e = e2 := by simpa using hk
    rw [← h3]; exact he
theorem has_app {e : CE} {w : Int} : hasL (cl ++ [e]) w ↔ hasL cl w ∨ e.1 = w := by
  constructor
  · rintro ⟨e2, h1, h2⟩
    rcases List.mem_append.mp h1 with h | h
    · exact Or.inl ⟨e2, h, h2⟩
    · rw [List.mem_singleton.mp h] at h2; exact Or.inr h2
  · rintro (⟨e2, h1, h2⟩ | h)
    · exact ⟨e2, List.mem_append.mpr (Or.inl h1), h2⟩
    · exact ⟨e, List.mem_append.mpr (Or.inr (List.mem_singleton.mpr rfl)), h⟩
theorem on_keep {v : Int} {e : CE} (h : OnR v cl) (h2 : ¬ isLw e.1) : OnR v (cl ++ [e]) := by
  refine ⟨h.1, ?_, ?_⟩
  · rw [has_app, h.2.1]
    exact ⟨Or.inl, fun g => g.elim id (fun g => absurd (Or.inl g) h2)⟩
  · rw [has_app, h.2.2]
    exact ⟨Or.inl, fun g => g.elim id (fun g => absurd (Or.inr g) h2)⟩
theorem on_new {v : Int} {e : CE} (h : OnR v cl) (h2 : isLw e.1) (h3 : ¬ hasL cl e.1) : OnR (orI v (shlI 1 (srt e.1))) (cl ++ [e]) := by
  obtain ⟨h1, g1, g2⟩ := h
  have hv : v = 0 ∨ v = 1 ∨ v = 2 ∨ v = 3 := by omega
  rcases h2 with h2 | h2
  · rw [h2] at h3 ⊢
    have hb : ¬ v % 2 = 1 := fun g => h3 (g1.mp g)
    have e0 : srt 136 = 0 := rfl
    rw [e0]
    have hcase : orI v (shlI 1 0) = v + 1 := by
      rcases hv with rfl | rfl | rfl | rfl
      · decide
      · omega
      · decide
      · omega
    rw [hcase]
    refine ⟨by omega, ?_, ?_⟩
    · rw [has_app]; exact ⟨fun _ => Or.inr h2, fun _ => by omega⟩
    · rw [has_app, ← g2]
      constructor
      · intro g; left; omega
      · rintro (g | g)
        · omega
        · rw [h2] at g; omega
  · rw [h2] at h3 ⊢
    have hb : ¬ v / 2 % 2 = 1 := fun g => h3 (g2.mp g)
    have e0 : srt 137 = 1 := rfl
    rw [e0]
    have hcase : orI v (shlI 1 1) = v + 2 := by
      rcases hv with rfl | rfl | rfl | rfl
      · decide
      · decide
      · omega
      · omega
    rw [hcase]
    refine ⟨by omega, ?_, ?_⟩
    · rw [has_app, ← g1]
      constructor
      · intro g; left; omega
      · rintro (g | g)
        · omega
        · rw [h2] at g; omega
    · rw [has_app]; exact ⟨fun _ => Or.inr h2, fun _ => by omega⟩
theorem tb0 {v : Int} (h : 0 ≤ v ∧ v ≤ 3) : (v.toNat.testBit 0 = true ↔ v % 2 = 1) ∧ (v.toNat.testBit 1 = true ↔ v / 2 % 2 = 1) := by
  have hv : v = 0 ∨ v = 1 ∨ v = 2 ∨ v = 3 := by omega
  rcases hv with rfl | rfl | rfl | rfl <;> decide
abbrev ClH (t : Nat → Int) (l : Nat) (s : TMS) (f : Int) (s2 : TMS) (pl : Nat) : Prop := (f = 0 ∧ ClG t l s s2) ∨ ((0 < f ∧ f ≤ 6) ∧ ClF t l s f pl)
theorem clh_no {f : Int} {pl : Nat} (h : ClH t l s f s2 pl) (hc : ¬ isCl s.2.2.2.2.1) : f = 1 ∧ pl = s.2.2.2.1 := by
  have hl : ¬ isLw s.2.2.2.2.1 := fun g => hc (by rcases g with g | g <;> omega)
  rcases h with ⟨-, h⟩ | ⟨-, h⟩
  · exact absurd h.1 hc
  · rcases h with h | h | h | h | h
    · exact h.2
    · exact absurd h.1 hl
    · exact absurd h.1 hc
    · exact absurd h.1 hl
    · exact absurd h.1 hc
theorem clh_4 {f : Int} {pl : Nat} (h : ClH t l s f s2 pl) (hc : isLw s.2.2.2.2.1) (hh : hasL s.1 s.2.2.2.2.1) : f = 4 ∧ pl = s.2.2.2.1 := by
  rcases h with ⟨-, h⟩ | ⟨-, h⟩
  · rcases h.2.2 with g | g
    · exact absurd hh g.2.1
    · exact absurd hc g.1
  · rcases h with h | h | h | h | h
    · exact absurd (by rcases hc with g | g <;> omega) h.1
    · exact h.2.2
    · exact absurd ⟨hc, hh⟩ h.2.1
    · exact absurd hh h.2.1
    · exact absurd hc h.2.1
theorem clh_6 {f : Int} {pl : Nat} (h : ClH t l s f s2 pl) (hc : isCl s.2.2.2.2.1) (hh : ¬ (isLw s.2.2.2.2.1 ∧ hasL s.1 s.2.2.2.2.1)) (h24 : s.1.length = 24) : f = 6 ∧ pl = s.2.2.2.1 := by
  rcases h with ⟨-, h⟩ | ⟨-, h⟩
  · have := h.2.1; omega
  · rcases h with h | h | h | h | h
    · exact absurd hc h.1
    · exact absurd ⟨h.1, h.2.1⟩ hh
    · exact h.2.2.2
    · have := h.2.2.1; omega
    · have := h.2.2.1; omega
/-- a law's clause: what its sum comes to -/
theorem clh_l {f : Int} {pl : Nat} (h : ClH t l s f s2 pl) (hc : isLw s.2.2.2.2.1) (hh : ¬ hasL s.1 s.2.2.2.2.1) (h24 : s.1.length < 24) : ∃ r cu1 c1, LwH t l (decide (s.2.2.2.2.1 = 137)) (adv t l s.2.2.1) s.2.1 r cu1 c1 pl ∧ (0 ≤ r ∧ r ≤ 6) ∧ (r ≠ 0 → f = r) ∧ (r = 0 → cu1.2.2.1 ≠ 59 → f = 1 ∧ pl = cu1.2.1) ∧ (r = 0 → cu1.2.2.1 = 59 → f = 0 ∧ s2 = (s.1 ++ [(s.2.2.2.2.1, (s.2.1.length : Int), (c1.length : Int), 0)], c1, adv t l cu1.1)) := by
  rcases h with ⟨hf, h⟩ | ⟨hf, h⟩
  · rcases h.2.2 with ⟨g1, g2, cu1, c1, g3, g4, g5⟩ | g
    · exact ⟨0, cu1, c1, Or.inl ⟨rfl, g3⟩, by omega, fun g => absurd rfl g, fun _ g => absurd g4 g, fun _ _ => ⟨hf, g5⟩⟩
    · exact absurd hc g.1
  · rcases h with h | h | h | h | h
    · exact absurd (by rcases hc with g | g <;> omega) h.1
    · exact absurd h.2.1 hh
    · have := h.2.2.1; omega
    · rcases h.2.2.2 with g | ⟨cu1, c1, g3, g4, g5, g6⟩
      · exact ⟨f, s.2.2, [], Or.inr ⟨hf, g⟩, by omega, fun _ => rfl, fun g => by omega, fun g => by omega⟩
      · exact ⟨0, cu1, c1, Or.inl ⟨rfl, g3⟩, by omega, fun g => absurd rfl g, fun _ _ => ⟨g5, g6⟩, fun _ g => absurd g g4⟩
    · exact absurd hc h.2.1
theorem clh_d {f : Int} {pl : Nat} (h : ClH t l s f s2 pl) (hc : isCl s.2.2.2.2.1 ∧ ¬ isLw s.2.2.2.2.1) (h24 : s.1.length < 24) : ((deed t l s.2.2.2.2.1 (adv t l s.2.2.1)).1 ≠ 0 → f = (deed t l s.2.2.2.2.1 (adv t l s.2.2.1)).1 ∧ pl = (deed t l s.2.2.2.2.1 (adv t l s.2.2.1)).2.2.2.1) ∧ ((deed t l s.2.2.2.2.1 (adv t l s.2.2.1)).1 = 0 → ((deed t l s.2.2.2.2.1 (adv t l s.2.2.1)).2.2.2.2.1 ≠ 59 → f = 1 ∧ pl = (deed t l s.2.2.2.2.1 (adv t l s.2.2.1)).2.2.2.1) ∧ ((deed t l s.2.2.2.2.1 (adv t l s.2.2.1)).2.2.2.2.1 = 59 → f = 0 ∧ s2 = (s.1 ++ [(s.2.2.2.2.1, (deed t l s.2.2.2.2.1 (adv t l s.2.2.1)).2.1)], s.2.1, adv t l (deed t l s.2.2.2.2.1 (adv t l s.2.2.1)).2.2.1))) := by
  rcases h with ⟨hf, h⟩ | ⟨hf, h⟩
  · rcases h.2.2 with g | ⟨g1, g2, g3, g4⟩
    · exact absurd g.1 hc.2
    · exact ⟨fun g => absurd g2 g, fun _ => ⟨fun g => absurd g3 g, fun _ => ⟨hf, g4⟩⟩⟩
  · rcases h with h | h | h | h | h
    · exact absurd hc.1 h.1
    · exact absurd h.1 hc.2
    · have := h.2.2.1; omega
    · exact absurd h.1 hc.2
    · rcases h.2.2.2 with ⟨g1, g2, g3⟩ | ⟨g1, g2, g3, g4⟩
      · exact ⟨fun _ => ⟨g2, g3⟩, fun g => absurd g g1⟩
      · exact ⟨fun g => absurd g1 g, fun _ => ⟨fun _ => ⟨g3, g4⟩, fun g => absurd g g2⟩⟩
end Rt2s
