section Rt3s
variable {n mc ms : Nat} {M : Md} {pc : Nat} {lv : List (Nat × Value)} {st : List Value} {k j : Nat} {Post : PT} {S : Sh} {I : CI} {R : CR} {A : Nat → Int} {tx : Nat → Nat → Int}
variable {t : Nat → Int} {l o : Nat} {sl : Bool} {cu cu1 : Cu} {p b c1 code : List Int} {cl : List CE} {s s2 : TMS}
theorem srt_bb (w : Int) : 0 ≤ srt w ∧ srt w ≤ 6 := by
  unfold srt
  repeat' split
  all_goals omega
theorem on_tb {v : Int} {w : Int} {z : Nat} (h : OnR v cl) (hw : isLw w) (hz : (z : Int) = srt w) : v.toNat.testBit z = true ↔ hasL cl w := by
  obtain ⟨h1, g1, g2⟩ := h
  have hb := tb0 h1
  rcases hw with rfl | rfl
  · have e : srt 136 = 0 := rfl
    obtain rfl : z = 0 := by omega
    rw [hb.1, g1]
  · have e : srt 137 = 1 := rfl
    obtain rfl : z = 1 := by omega
    rw [hb.2, g2]
theorem deed_m {w : Int} (l3 : l ≤ 300) (h : CuOK l cu) : cu.2.1 ≤ (deed t l w cu).2.2.2.1 ∧ 0 ≤ (deed t l w cu).1 ∧ (deed t l w cu).1 ≤ 2 := by
  have a1 := cu_adv (t := t) h l3
  have a2 := cu_adv (t := t) a1.1 l3
  have a3 := cu_adv (t := t) a2.1 l3
  have a4 := cu_adv (t := t) a3.1 l3
  have a5 := cu_adv (t := t) a4.1 l3
  have b1 := a1.2.2
  have b2 := a2.2.2
  have b3 := a3.2.2
  have b4 := a4.2.2
  have b5 := a5.2.2
  have g : ∀ (lo hi : Int) (c : Cu), 0 ≤ figF lo hi c ∧ figF lo hi c ≤ 2 := fun lo hi c => fig_rg
  unfold deed
  repeat' split
  all_goals first
    | exact ⟨(by first | exact Nat.le_refl _ | omega), (g _ _ _).1, (g _ _ _).2⟩
    | exact ⟨(by first | exact Nat.le_refl _ | omega), (by show (0 : Int) ≤ 0; decide), (by show (0 : Int) ≤ 2; decide)⟩
    | exact ⟨(by first | exact Nat.le_refl _ | omega), (by show (0 : Int) ≤ 1; decide), (by show (1 : Int) ≤ 2; decide)⟩
    | (refine ⟨?_, ?_, ?_⟩
       · show cu.2.1 ≤ _
         dsimp only
         omega
       · first | exact (g _ _ _).1 | (show (0 : Int) ≤ 1; decide) | (show (0 : Int) ≤ 0; decide)
       · first | exact (g _ _ _).2 | (show (1 : Int) ≤ 2; decide) | (show (0 : Int) ≤ 2; decide))
def BdO (I J : CI) (t : Nat → Int) (l o : Nat) (cl : List CE) (f : Int) (pl : Nat) (s2 : TMS) (r : Int) : Prop := ∃ (cu2 : Cu) (code2 : List Int) (e : CE), Tok J t l cu2 ∧ CdS J o code2 ∧ code2.length ≤ cu2.2.1 ∧ J 309 o = (cl.length : Int) ∧ Fcl o I J ∧ (∀ a, (o + 1 ≤ a ∧ a < o + 1 + 4 * cl.length) → J 309 a = I 309 a) ∧ OnR (J 306 19) (cl ++ [e]) ∧ (r ≠ 0 → f = r ∧ pl = cu2.2.1) ∧ (r = 0 → EnR (J 309) o cl.length e ∧ (cu2.2.2.1 ≠ 59 → f = 1 ∧ pl = cu2.2.1) ∧ (cu2.2.2.1 = 59 → f = 0 ∧ s2 = (cl ++ [e], code2, adv t l cu2.1)))
/-- behind the clause's first word -/
def Ah (I K : CI) (t : Nat → Int) (l o x : Nat) (cl : List CE) (code : List Int) (cu : Cu) : Prop := Tok K t l (adv t l cu.1) ∧ CdS K o code ∧ K 306 14 = srt cu.2.2.1 ∧ K 309 x = srt cu.2.2.1 ∧ (∀ a, a ≠ x → K 309 a = I 309 a) ∧ Fcl o I K
theorem bd_law {K J : CI} {x : Nat} {f r : Int} {pl : Nat} (h : RfT I t l o (cl, code, cu)) (hl : cl.length < 24) (hx : o + 1 + 4 * cl.length = x) (hk : isLw cu.2.2.1) (hh : ¬ hasL cl cu.2.2.1) (hK : Ah I K t l o x cl code cu) (h19 : K 306 19 = orI (I 306 19) (shlI 1 (srt cu.2.2.1))) (h1 : LwR J t l x o (decide (cu.2.2.1 = 137)) code r cu1 c1 pl) (h2 : Fl2 x o K J) (q1 : r ≠ 0 → f = r) (q2 : r = 0 → cu1.2.2.1 ≠ 59 → f = 1 ∧ pl = cu1.2.1) (q3 : r = 0 → cu1.2.2.1 = 59 → f = 0 ∧ s2 = (cl ++ [(cu.2.2.1, (code.length : Int), (c1.length : Int), 0)], c1, adv t l cu1.1)) : BdO I J t l o cl f pl s2 r := by
  obtain ⟨cu2, b2, r1, v1, v2, p1, p2⟩ := h1
  obtain ⟨k1, k2, k3, k4, k5, k6⟩ := hK
  have hon : OnR (I 306 19) cl := h.2.2.2.2.1
  have hcl : ClR I o cl := h.2.2.2.1
  refine ⟨cu2, b2, (cu.2.2.1, (code.length : Int), (b2.length : Int), 0), r1.1, r1.2.1, r1.2.2.2.1, ?_, Fcl.tr k6 (Fl2.fcl h2 (by omega)), fun a ha => ?_, ?_, fun g => ⟨q1 g, (p2 g).symm⟩, fun g => ⟨⟨?_, by rcases hk with g9 | g9 <;> rw [g9] <;> decide, ?_, fun _ => ?_, fun g9 => ?_⟩, ?_, ?_⟩⟩
  · rw [h2.2.2 o (by omega) (by omega), k5 o (by omega)]; exact hcl.1
  · rw [h2.2.2 a (by omega) (by omega), k5 a (by omega)]
  · rw [h2.2.1 19 (by omega), h19]; exact on_new (e := (cu.2.2.1, (code.length : Int), (b2.length : Int), 0)) hon hk hh
  · show J 309 (o + 1 + 4 * cl.length) = _
    rw [hx, h2.2.2 x (by omega) (by omega)]; exact k4
  · show J 309 (o + 2 + 4 * cl.length) = _
    rw [show o + 2 + 4 * cl.length = x + 1 by omega]; exact v1
  · show J 309 (o + 3 + 4 * cl.length) = _
    rw [show o + 3 + 4 * cl.length = x + 2 by omega]; exact v2
  · exfalso
    have g8 : cu.2.2.1 = 138 := g9
    rcases hk with g7 | g7 <;> omega
  · obtain ⟨e1, e2⟩ := p1 g
    rw [e1]; exact q2 g
  · obtain ⟨e1, e2⟩ := p1 g
    rw [e1, e2]; exact q3 g
theorem bd_deed {K J : CI} {x : Nat} {f : Int} {pl : Nat} (h : RfT I t l o (cl, code, cu)) (hl : cl.length < 24) (hx : o + 1 + 4 * cl.length = x) (hk : isCl cu.2.2.1 ∧ ¬ isLw cu.2.2.1) (hK : Ah I K t l o x cl code cu) (h19 : K 306 19 = I 306 19) (h1 : DeR J t l x cu.2.2.1 (adv t l cu.1)) (h2 : Fg3 x K J) (q : ((deed t l cu.2.2.1 (adv t l cu.1)).1 ≠ 0 → f = (deed t l cu.2.2.1 (adv t l cu.1)).1 ∧ pl = (deed t l cu.2.2.1 (adv t l cu.1)).2.2.2.1) ∧ ((deed t l cu.2.2.1 (adv t l cu.1)).1 = 0 → ((deed t l cu.2.2.1 (adv t l cu.1)).2.2.2.2.1 ≠ 59 → f = 1 ∧ pl = (deed t l cu.2.2.1 (adv t l cu.1)).2.2.2.1) ∧ ((deed t l cu.2.2.1 (adv t l cu.1)).2.2.2.2.1 = 59 → f = 0 ∧ s2 = (cl ++ [(cu.2.2.1, (deed t l cu.2.2.1 (adv t l cu.1)).2.1)], code, adv t l (deed t l cu.2.2.1 (adv t l cu.1)).2.2.1)))) : BdO I J t l o cl f pl s2 (deed t l cu.2.2.1 (adv t l cu.1)).1 := by
  obtain ⟨k1, k2, k3, k4, k5, k6⟩ := hK
  obtain ⟨d1, d2⟩ := h1
  have l3 := k1.1.2.2.1
  have hm := deed_m (t := t) (w := cu.2.2.1) l3 k1.2.2
  have hcu : CuOK l cu := h.1.2.2
  have hm2 := (cu_adv (t := t) hcu l3).2.2
  have hln : code.length ≤ cu.2.1 := h.2.2.2.2.2.2.1
  have hon : OnR (I 306 19) cl := h.2.2.2.2.1
  have hcl : ClR I o cl := h.2.2.2.1
  refine ⟨(deed t l cu.2.2.1 (adv t l cu.1)).2.2, code, (cu.2.2.1, (deed t l cu.2.2.1 (adv t l cu.1)).2.1), d1, ⟨fun i hi => ?_, (h2.2.1 13 (by omega)).trans k2.2.1, (h2.2.1 12 (by omega)).trans k2.2.2⟩, by omega, ?_, Fcl.tr k6 (Fg3.fcl h2 (by omega)), fun a ha => ?_, ?_, q.1, fun g => ⟨⟨?_, hk.1, ?_, fun g9 => ?_, fun g9 => ?_⟩, (q.2 g).1, (q.2 g).2⟩⟩
  · rw [h2.2.2 _ (by omega), h2.2.2 _ (by omega)]; exact k2.1 i hi
  · rw [h2.2.2 o (by omega), k5 o (by omega)]; exact hcl.1
  · rw [h2.2.2 a (by omega), k5 a (by omega)]
  · rw [h2.2.1 19 (by omega), h19]; exact on_keep (e := (cu.2.2.1, (deed t l cu.2.2.1 (adv t l cu.1)).2.1)) hon hk.2
  · show J 309 (o + 1 + 4 * cl.length) = _
    rw [hx, h2.2.2 x (by omega)]; exact k4
  · show J 309 (o + 2 + 4 * cl.length) = _
    rw [show o + 2 + 4 * cl.length = x + 1 by omega]; exact (d2 g).1
  · have g8 : cu.2.2.1 = 138 := by
      rcases g9 with g9 | g9
      · exact absurd g9 hk.2
      · exact g9
    show J 309 (o + 3 + 4 * cl.length) = _
    rw [show o + 3 + 4 * cl.length = x + 2 by omega]; exact ((d2 g).2 g8).1
  · show J 309 (o + 4 + 4 * cl.length) = _
    rw [show o + 4 + 4 * cl.length = x + 3 by omega]; exact ((d2 g).2 g9).2
theorem dX12_clause_0 : decode prog_14_method_58_code 0 = .ok (.aload_n 0, 1) := by decide +kernel
theorem dX12_clause_1 : decode prog_14_method_58_code 1 = .ok (.invokevirtual 253, 3) := by decide +kernel
theorem dX12_clause_4 : decode prog_14_method_58_code 4 = .ok (.istore_n 1, 1) := by decide +kernel
theorem dX12_clause_5 : decode prog_14_method_58_code 5 = .ok (.iload_n 1, 1) := by decide +kernel
theorem dX12_clause_6 : decode prog_14_method_58_code 6 = .ok (.ifCond .ge 5, 3) := by decide +kernel
theorem dX12_clause_9 : decode prog_14_method_58_code 9 = .ok (.iconst 1, 1) := by decide +kernel
theorem dX12_clause_10 : decode prog_14_method_58_code 10 = .ok (.ireturn, 1) := by decide +kernel
theorem dX12_clause_11 : decode prog_14_method_58_code 11 = .ok (.iload_n 1, 1) := by decide +kernel
theorem dX12_clause_12 : decode prog_14_method_58_code 12 = .ok (.iconst 1, 1) := by decide +kernel
theorem dX12_clause_13 : decode prog_14_method_58_code 13 = .ok (.if_icmp .gt 16, 3) := by decide +kernel
theorem dX12_clause_16 : decode prog_14_method_58_code 16 = .ok (.aload_n 0, 1) := by decide +kernel
theorem dX12_clause_17 : decode prog_14_method_58_code 17 = .ok (.getfield 256, 3) := by decide +kernel
theorem dX12_clause_20 : decode prog_14_method_58_code 20 = .ok (.iload_n 1, 1) := by decide +kernel
theorem dX12_clause_21 : decode prog_14_method_58_code 21 = .ok (.invokestatic 259, 3) := by decide +kernel
theorem dX12_clause_24 : decode prog_14_method_58_code 24 = .ok (.ifCond .eq 5, 3) := by decide +kernel
theorem dX12_clause_27 : decode prog_14_method_58_code 27 = .ok (.iconst 4, 1) := by decide +kernel
theorem dX12_clause_28 : decode prog_14_method_58_code 28 = .ok (.ireturn, 1) := by decide +kernel
theorem dX12_clause_29 : decode prog_14_method_58_code 29 = .ok (.aload_n 0, 1) := by decide +kernel
theorem dX12_clause_30 : decode prog_14_method_58_code 30 = .ok (.getfield 16, 3) := by decide +kernel
theorem dX12_clause_33 : decode prog_14_method_58_code 33 = .ok (.aload_n 0, 1) := by decide +kernel
theorem dX12_clause_34 : decode prog_14_method_58_code 34 = .ok (.getfield 153, 3) := by decide +kernel
theorem dX12_clause_37 : decode prog_14_method_58_code 37 = .ok (.iaload, 1) := by decide +kernel
theorem dX12_clause_38 : decode prog_14_method_58_code 38 = .ok (.istore_n 2, 1) := by decide +kernel
theorem dX12_clause_39 : decode prog_14_method_58_code 39 = .ok (.iload_n 2, 1) := by decide +kernel
theorem dX12_clause_40 : decode prog_14_method_58_code 40 = .ok (.bipush 24, 2) := by decide +kernel
theorem dX12_clause_42 : decode prog_14_method_58_code 42 = .ok (.if_icmp .ne 6, 3) := by decide +kernel
theorem dX12_clause_45 : decode prog_14_method_58_code 45 = .ok (.bipush 6, 2) := by decide +kernel
theorem dX12_clause_47 : decode prog_14_method_58_code 47 = .ok (.ireturn, 1) := by decide +kernel
theorem dX12_clause_48 : decode prog_14_method_58_code 48 = .ok (.iload_n 1, 1) := by decide +kernel
theorem dX12_clause_49 : decode prog_14_method_58_code 49 = .ok (.iconst 1, 1) := by decide +kernel
theorem dX12_clause_50 : decode prog_14_method_58_code 50 = .ok (.if_icmp .gt 15, 3) := by decide +kernel
theorem dX12_clause_53 : decode prog_14_method_58_code 53 = .ok (.aload_n 0, 1) := by decide +kernel
theorem dX12_clause_54 : decode prog_14_method_58_code 54 = .ok (.dup, 1) := by decide +kernel
theorem dX12_clause_55 : decode prog_14_method_58_code 55 = .ok (.getfield 256, 3) := by decide +kernel
theorem dX12_clause_58 : decode prog_14_method_58_code 58 = .ok (.iconst 1, 1) := by decide +kernel
theorem dX12_clause_59 : decode prog_14_method_58_code 59 = .ok (.iload_n 1, 1) := by decide +kernel
theorem dX12_clause_60 : decode prog_14_method_58_code 60 = .ok (.ishl, 1) := by decide +kernel
theorem dX12_clause_61 : decode prog_14_method_58_code 61 = .ok (.ior, 1) := by decide +kernel
theorem dX12_clause_62 : decode prog_14_method_58_code 62 = .ok (.putfield 256, 3) := by decide +kernel
theorem dX12_clause_65 : decode prog_14_method_58_code 65 = .ok (.aload_n 0, 1) := by decide +kernel
theorem dX12_clause_66 : decode prog_14_method_58_code 66 = .ok (.iload_n 1, 1) := by decide +kernel
theorem dX12_clause_67 : decode prog_14_method_58_code 67 = .ok (.putfield 163, 3) := by decide +kernel
theorem dX12_clause_70 : decode prog_14_method_58_code 70 = .ok (.aload_n 0, 1) := by decide +kernel
theorem dX12_clause_71 : decode prog_14_method_58_code 71 = .ok (.invokevirtual 186, 3) := by decide +kernel
theorem dX12_clause_74 : decode prog_14_method_58_code 74 = .ok (.aload_n 0, 1) := by decide +kernel
theorem dX12_clause_75 : decode prog_14_method_58_code 75 = .ok (.getfield 153, 3) := by decide +kernel
theorem dX12_clause_78 : decode prog_14_method_58_code 78 = .ok (.iconst 1, 1) := by decide +kernel
theorem dX12_clause_79 : decode prog_14_method_58_code 79 = .ok (.iadd, 1) := by decide +kernel
theorem dX12_clause_80 : decode prog_14_method_58_code 80 = .ok (.iconst 4, 1) := by decide +kernel
theorem dX12_clause_81 : decode prog_14_method_58_code 81 = .ok (.iload_n 2, 1) := by decide +kernel
theorem dX12_clause_82 : decode prog_14_method_58_code 82 = .ok (.imul, 1) := by decide +kernel
theorem dX12_clause_83 : decode prog_14_method_58_code 83 = .ok (.iadd, 1) := by decide +kernel
theorem dX12_clause_84 : decode prog_14_method_58_code 84 = .ok (.istore_n 3, 1) := by decide +kernel
theorem dX12_clause_85 : decode prog_14_method_58_code 85 = .ok (.aload_n 0, 1) := by decide +kernel
theorem dX12_clause_86 : decode prog_14_method_58_code 86 = .ok (.getfield 16, 3) := by decide +kernel
theorem dX12_clause_89 : decode prog_14_method_58_code 89 = .ok (.iload_n 3, 1) := by decide +kernel
theorem dX12_clause_90 : decode prog_14_method_58_code 90 = .ok (.iload_n 1, 1) := by decide +kernel
theorem dX12_clause_91 : decode prog_14_method_58_code 91 = .ok (.iastore, 1) := by decide +kernel
theorem dX12_clause_92 : decode prog_14_method_58_code 92 = .ok (.aload_n 0, 1) := by decide +kernel
theorem dX12_clause_93 : decode prog_14_method_58_code 93 = .ok (.iload_n 1, 1) := by decide +kernel
theorem dX12_clause_94 : decode prog_14_method_58_code 94 = .ok (.iload_n 3, 1) := by decide +kernel
theorem dX12_clause_95 : decode prog_14_method_58_code 95 = .ok (.invokevirtual 263, 3) := by decide +kernel
theorem dX12_clause_98 : decode prog_14_method_58_code 98 = .ok (.istore 4, 2) := by decide +kernel
theorem dX12_clause_100 : decode prog_14_method_58_code 100 = .ok (.iload 4, 2) := by decide +kernel
theorem dX12_clause_102 : decode prog_14_method_58_code 102 = .ok (.ifCond .eq 6, 3) := by decide +kernel
theorem dX12_clause_105 : decode prog_14_method_58_code 105 = .ok (.iload 4, 2) := by decide +kernel
theorem dX12_clause_107 : decode prog_14_method_58_code 107 = .ok (.ireturn, 1) := by decide +kernel
theorem dX12_clause_108 : decode prog_14_method_58_code 108 = .ok (.aload_n 0, 1) := by decide +kernel
theorem dX12_clause_109 : decode prog_14_method_58_code 109 = .ok (.getfield 16, 3) := by decide +kernel
theorem dX12_clause_112 : decode prog_14_method_58_code 112 = .ok (.aload_n 0, 1) := by decide +kernel
theorem dX12_clause_113 : decode prog_14_method_58_code 113 = .ok (.getfield 153, 3) := by decide +kernel
theorem dX12_clause_116 : decode prog_14_method_58_code 116 = .ok (.dup2, 1) := by decide +kernel
theorem dX12_clause_117 : decode prog_14_method_58_code 117 = .ok (.iaload, 1) := by decide +kernel
theorem dX12_clause_118 : decode prog_14_method_58_code 118 = .ok (.iconst 1, 1) := by decide +kernel
theorem dX12_clause_119 : decode prog_14_method_58_code 119 = .ok (.iadd, 1) := by decide +kernel
theorem dX12_clause_120 : decode prog_14_method_58_code 120 = .ok (.iastore, 1) := by decide +kernel
theorem dX12_clause_121 : decode prog_14_method_58_code 121 = .ok (.aload_n 0, 1) := by decide +kernel
theorem dX12_clause_122 : decode prog_14_method_58_code 122 = .ok (.getfield 115, 3) := by decide +kernel
theorem dX12_clause_125 : decode prog_14_method_58_code 125 = .ok (.bipush 59, 2) := by decide +kernel
theorem dX12_clause_127 : decode prog_14_method_58_code 127 = .ok (.if_icmp .eq 5, 3) := by decide +kernel
theorem dX12_clause_130 : decode prog_14_method_58_code 130 = .ok (.iconst 1, 1) := by decide +kernel
theorem dX12_clause_131 : decode prog_14_method_58_code 131 = .ok (.ireturn, 1) := by decide +kernel
theorem dX12_clause_132 : decode prog_14_method_58_code 132 = .ok (.aload_n 0, 1) := by decide +kernel
theorem dX12_clause_133 : decode prog_14_method_58_code 133 = .ok (.invokevirtual 186, 3) := by decide +kernel
theorem dX12_clause_136 : decode prog_14_method_58_code 136 = .ok (.iconst 0, 1) := by decide +kernel
theorem dX12_clause_137 : decode prog_14_method_58_code 137 = .ok (.ireturn, 1) := by decide +kernel
theorem sp_X12_clause {f : Int} {pl : Nat} (cs : CS S R) (hn : 12 ≤ n) (h : RfT I t l o (cl, code, cu)) (hO : ClH t l (cl, code, cu) f s2 pl) (hp : ∀ J, Fcl o I J → (f = 0 → RfT J t l o s2) → (f ≠ 0 → TpR J t l ∧ J 306 8 = (pl : Int)) → Post (some (.int (iI f))) S J R) : Call n 0 0 mX12_clause [.ref (S.2.1 306)] S I R Post := by
  have hno : ¬ isCl cu.2.2.1 → f = 1 ∧ pl = cu.2.1 := clh_no hO
  have h4 : isLw cu.2.2.1 → hasL cl cu.2.2.1 → f = 4 ∧ pl = cu.2.1 := clh_4 hO
  have h6 : isCl cu.2.2.1 → ¬ (isLw cu.2.2.1 ∧ hasL cl cu.2.2.1) → cl.length = 24 → f = 6 ∧ pl = cu.2.1 := clh_6 hO
  obtain ⟨k1, kq, k2, k3, k4, k5, k6, k7⟩ := id h
  have k1' : Tok I t l cu := k1
  have kq' : TkQ I t cu := kq
  have k2' : CdS I o code := k2
  have k4' : OnR (I 306 19) cl := k4
  have k5' : cl.length ≤ 24 := k5
  have k6' : code.length ≤ cu.2.1 := k6
  have k3' : I 309 o = (cl.length : Int) := k3.1
  have b19 := k4'.1
  have h12 : I 306 12 = (o : Int) := k2'.2.2
  have hsb := srt_bb cu.2.2.1
  have pl8 : I 306 8 = (cu.2.1 : Int) := k1'.2.1.1.2.1
  have hout : f ≠ 0 → pl = cu.2.1 → Post (some (.int (iI f))) S I R := fun g1 g2 => hp I Fcl.rf (fun g => absurd g g1) (fun _ => ⟨k1'.1, by rw [g2]; exact pl8⟩)
  obtain ⟨x, hx⟩ : ∃ x, o + 1 + 4 * cl.length = x := ⟨_, rfl⟩
  refine Call.of (by decide +kernel) (Nat.le_of_ble_eq_true rfl) ?_
  show WP _ _ _ _ _ 0 [(0, _)] [] 0 0 _ _ _
  refine x_aload_n dX12_clause_0 rfl ?_
  refine x_callV0 (mc1 := 0) (ms1 := 0) dX12_clause_1 cv_RX12_253 (ci := 12) (k_ob_306 cs) rfl (Nat.le_of_ble_eq_true rfl) (n1 := n - 1) (by omega) (by omega) (by omega) ?_
  refine sp_X12_sortOf (t := t) (l := l) (cu := cu) cs (by omega) k1' kq' (fun r1 hr1 => ?_)
  refine x_istore_n (lv2 := [(1, _), (0, _)]) dX12_clause_4 (by decide) rfl ?_
  refine x_iload_n dX12_clause_5 rfl ?_
  refine x_if_ge 11 dX12_clause_6 (by decide) (by omega) (fun w6 => ?_) (fun w6 => ?_)
  · have hcl1 : isCl cu.2.2.1 := by omega
    have hsv := srt_v hcl1
    obtain ⟨z, rfl⟩ : ∃ z : Nat, r1 = (z : Int) := ⟨r1.toNat, by omega⟩
    have hz : (z : Int) = srt cu.2.2.1 := by omega
    refine x_iload_n dX12_clause_11 rfl ?_
    refine x_iconst dX12_clause_12 ?_
    refine x_icmp_gt 29 dX12_clause_13 (by decide) ⟨(by omega), (by omega)⟩ (fun w13 => ?_) (fun w13 => ?_)
    · have hnh0 : ¬ (isLw cu.2.2.1 ∧ hasL cl cu.2.2.1) := by
        first
        | (intro g9; have g8 := g9.1; omega)
        | (intro g9
           rcases hr21 with ⟨g8, g7⟩ | ⟨g8, g7⟩
           · omega
           · rw [tb21.mpr g9.2] at g7; cases g7)
      refine x_aload_n dX12_clause_29 rfl ?_
      refine x_getR (b := 309) dX12_clause_30 gf_RX12_16 (k_ob_306 cs) (fun _ _ => rfl) (k_r_306_2 cs) ?_
      refine x_aload_n dX12_clause_33 rfl ?_
      refine x_getIv (z := (o : Int)) dX12_clause_34 gf_RX12_153 (k_ob_306 cs) (fun _ _ => rfl) (by first | exact h12 | exact e71 | exact e95 | (rw [uI_row (by omega)]) | omega) ?_
      refine x_iaload dX12_clause_37 (k_ar_309 cs) (by omega) (by omega) ?_
      rw [show I 309 ((o : Int).toNat) = (cl.length : Int) from k3']
      refine x_istore_n (lv2 := [(2, _), (1, _), (0, _)]) dX12_clause_38 (by decide) rfl ?_
      refine x_iload_n dX12_clause_39 rfl ?_
      refine x_bipush dX12_clause_40 (by decide) ?_
      refine x_icmp_ne 48 dX12_clause_42 (by decide) ⟨(by omega), (by omega)⟩ (fun w42 => ?_) (fun w42 => ?_)
      · refine x_iload_n dX12_clause_48 rfl ?_
        refine x_iconst dX12_clause_49 ?_
        refine x_icmp_gt 65 dX12_clause_50 (by decide) ⟨(by omega), (by omega)⟩ (fun w50 => ?_) (fun w50 => ?_)
        · refine x_aload_n dX12_clause_65 rfl ?_
          refine x_iload_n dX12_clause_66 rfl ?_
          refine x_putI dX12_clause_67 gf_RX12_163 (k_ob_306 cs) rfl ?_
          refine x_aload_n dX12_clause_70 rfl ?_
          refine x_callV0 (mc1 := 0) (ms1 := 0) dX12_clause_71 cv_RX12_186 (ci := 12) (k_ob_306 cs) rfl (Nat.le_of_ble_eq_true rfl) (n1 := n - 1) (by omega) (by omega) (by omega) ?_
          refine sp_nxt (t := t) (l := l) (cu := cu) cs (by omega) (tk_fr k1' (by rw [uI_row (by omega)]) (fun a ha => by rw [uI_o (by omega)])) (fun J71 k71 s71 m71 f71 => ?_)
          have c71 : CdS J71 o code := cds_fc ⟨by rw [uI_row (by omega)]; exact k2'.1, by rw [uI_o (by omega)]; exact k2'.2.1, by rw [uI_o (by omega)]; exact k2'.2.2⟩ f71
          have e71 : J71 306 12 = (o : Int) := c71.2.2
          have g71 : J71 309 = I 309 := by rw [f71.1 309 (by omega), uI_row (by omega)]
          have z71 : J71 306 14 = (z : Int) := by rw [f71.2 14 (by omega), uI_s]
          have on71 : J71 306 19 = I 306 19 := by rw [f71.2 19 (by omega), uI_o (by omega)]
          have fr71 : Fcl o I J71 := Fcl.tr (Fcl.u6 Fcl.rf (by omega)) (FcR.fcl f71)
          refine x_aload_n dX12_clause_74 rfl ?_
          refine x_getIv (z := (o : Int)) dX12_clause_75 gf_RX12_153 (k_ob_306 cs) (fun _ _ => rfl) (by first | exact h12 | exact e71 | exact e95 | (rw [uI_row (by omega)]) | omega) ?_
          refine x_iconst dX12_clause_78 ?_
          refine x_iadd dX12_clause_79 ?_
          refine x_iconst dX12_clause_80 ?_
          refine x_iload_n dX12_clause_81 rfl ?_
          refine x_imul dX12_clause_82 ?_
          refine x_iadd dX12_clause_83 ?_
          refine x_istore_n (lv2 := [(3, _), (2, _), (1, _), (0, _)]) dX12_clause_84 (by decide) rfl ?_
          rw [show ((o : Int) + 1 + 4 * (cl.length : Int)) = (x : Int) by omega]
          refine x_aload_n dX12_clause_85 rfl ?_
          refine x_getR (b := 309) dX12_clause_86 gf_RX12_16 (k_ob_306 cs) (fun _ _ => rfl) (k_r_306_2 cs) ?_
          refine x_iload_n dX12_clause_89 rfl ?_
          refine x_iload_n dX12_clause_90 rfl ?_
          refine x_iastore dX12_clause_91 (k_ar_309 cs) (by omega) (by omega) ?_
          refine x_aload_n dX12_clause_92 rfl ?_
          refine x_iload_n dX12_clause_93 rfl ?_
          refine x_iload_n dX12_clause_94 rfl ?_
          refine x_callV2 (mc1 := 0) (ms1 := 0) dX12_clause_95 cv_RX12_263 (ci := 12) (k_ob_306 cs) rfl (Nat.le_of_ble_eq_true rfl) (n1 := n - 1) (by omega) (by omega) (by omega) ?_
          have a91 : Ah I (uI J71 309 ((x : Int).toNat) (z : Int)) t l o x cl code cu := by
            refine ⟨tk_fr k71 (by rw [uI_row (by omega)]) (fun a ha => by rw [uI_row (by omega)]), ⟨fun i hi => ?_, by rw [uI_row (by omega)]; exact c71.2.1, by rw [uI_row (by omega)]; exact c71.2.2⟩, by rw [uI_row (by omega), z71]; exact hz, by rw [uI_x rfl (by omega)]; exact hz, fun a ha => by rw [uI_o (by omega), g71], Fcl.u9 fr71 (by omega)⟩
            rw [uI_o (by omega), uI_o (by omega)]
            exact c71.1 i hi
          have m71' : code.length ≤ (adv t l cu.1).2.1 := by omega
          have hc95 : isCl cu.2.2.1 ∧ ¬ isLw cu.2.2.1 := by omega
          have q95 := clh_d hO hc95 (show cl.length < 24 by omega)
          have dm95 := deed_m (t := t) (w := cu.2.2.1) (a91.1.1.2.2.1) a91.1.2.2
          rw [show iI (z : Int) = iI (srt cu.2.2.1) by rw [hz]]
          refine sp_bodyD (t := t) (l := l) (cu := adv t l cu.1) cs (by omega) hc95 (by omega) a91.1 (fun J95 d95 f95 => ?_)
          have bd : BdO I J95 t l o cl f pl s2 (deed t l cu.2.2.1 (adv t l cu.1)).1 := bd_deed h (by omega) hx hc95 a91 (by rw [uI_row (by omega)]; exact on71) d95 f95 q95
          obtain ⟨r95, hr95⟩ : ∃ r, (deed t l cu.2.2.1 (adv t l cu.1)).1 = r := ⟨_, rfl⟩
          rw [hr95] at bd dm95 ⊢
          obtain ⟨cu2, code2, e2, b1, b2, b3, b4, b5, b6, b7, b8, b9⟩ := bd
          have e95 : J95 306 12 = (o : Int) := b2.2.2
          refine x_istore (lv2 := [(4, _), (3, _), (2, _), (1, _), (0, _)]) dX12_clause_98 (by decide) rfl ?_
          refine x_iload dX12_clause_100 rfl ?_
          refine x_if_eq 108 dX12_clause_102 (by decide) (by omega) (fun w102 => ?_) (fun w102 => ?_)
          · refine x_aload_n dX12_clause_108 rfl ?_
            refine x_getR (b := 309) dX12_clause_109 gf_RX12_16 (k_ob_306 cs) (fun _ _ => rfl) (k_r_306_2 cs) ?_
            refine x_aload_n dX12_clause_112 rfl ?_
            refine x_getIv (z := (o : Int)) dX12_clause_113 gf_RX12_153 (k_ob_306 cs) (fun _ _ => rfl) (by first | exact h12 | exact e71 | exact e95 | (rw [uI_row (by omega)]) | omega) ?_
            refine x_dup2 dX12_clause_116 rfl rfl ?_
            refine x_iaload dX12_clause_117 (k_ar_309 cs) (by omega) (by omega) ?_
            rw [show J95 309 ((o : Int).toNat) = (cl.length : Int) from b4]
            refine x_iconst dX12_clause_118 ?_
            refine x_iadd dX12_clause_119 ?_
            refine x_iastore dX12_clause_120 (k_ar_309 cs) (by omega) (by omega) ?_
            have a59 := b1.2.1.2.2.2.1 59 (by omega)
            refine x_aload_n dX12_clause_121 rfl ?_
            refine x_getIv (z := J95 306 9) dX12_clause_122 gf_RX12_115 (k_ob_306 cs) (fun _ _ => rfl) (by first | exact h12 | exact e71 | exact e95 | (rw [uI_row (by omega)]) | omega) ?_
            refine x_bipush dX12_clause_125 (by decide) ?_
            refine x_icmp_eq 132 dX12_clause_127 (by decide) ⟨(by have := b1.2.1.1.2.2.1; omega), (by omega)⟩ (fun w127 => ?_) (fun w127 => ?_)
            · refine x_aload_n dX12_clause_132 rfl ?_
              refine x_callV0 (mc1 := 0) (ms1 := 0) dX12_clause_133 cv_RX12_186 (ci := 12) (k_ob_306 cs) rfl (Nat.le_of_ble_eq_true rfl) (n1 := n - 1) (by omega) (by omega) (by omega) ?_
              refine sp_nxq (t := t) (l := l) (cu := cu2) cs (by omega) (tk_fr b1 (by rw [uI_row (by omega)]) (fun a ha => by rw [uI_row (by omega)])) (fun J133 k133 t133 s133 m133 f133 => ?_)
              refine x_iconst dX12_clause_136 ?_
              exact x_ireturn dX12_clause_137 rfl (by omega) (by omega) (by first
 | (have g := hno (by omega)
    have h9 := hout (by omega) g.2
    rw [g.1] at h9; exact h9)
 | (have g := h4 (by omega) (by rcases hr21 with ⟨g8, g9⟩ | ⟨g8, g9⟩
                                · exact tb21.mp g9
                                · exfalso; omega)
    have h9 := hout (by omega) g.2
    rw [g.1] at h9; exact h9)
 | (have g := h6 (by omega) hnh0 (by omega)
    have h9 := hout (by omega) g.2
    rw [g.1] at h9; exact h9)
 | (have g := b8 (by omega)
    rw [← g.1]
    exact hp J95 b5 (fun g9 => by omega) (fun _ => ⟨b1.1, by rw [g.2]; exact b1.2.1.1.2.1⟩))
 | (have g := (b9 (by omega)).2.1 (by omega)
    have h9 := hp (uI J95 309 ((o : Int).toNat) ((cl.length : Int) + 1)) (Fcl.u9 b5 (by omega)) (fun g9 => by omega) (fun _ => ⟨⟨by rw [uI_row (by omega)]; exact b1.1.1, by rw [uI_row (by omega)]; exact b1.1.2.1, b1.1.2.2⟩, by rw [uI_row (by omega), g.2]; exact b1.2.1.1.2.1⟩)
    rw [g.1] at h9; exact h9)
 | (have g0 := b9 (by omega)
    have g := g0.2.2 (by omega)
    have h9 := hp J133 (Fcl.tr (Fcl.u9 b5 (by omega)) (FcR.fcl f133)) (fun _ => ?_) (fun g9 => absurd g.1 g9)
    · rw [g.1] at h9; exact h9
    · rw [g.2]
      have c133 : CdS J133 o code2 := cds_fc ⟨fun i hi => by rw [uI_o (by omega), uI_o (by omega)]; exact b2.1 i hi, by rw [uI_row (by omega)]; exact b2.2.1, by rw [uI_row (by omega)]; exact b2.2.2⟩ f133
      refine ⟨k133, t133, c133, ?_, ?_, ?_, ?_, k7⟩
      · refine clr_app (I := I) k3 ?_ (fun a ha => ?_) ?_
        · rw [f133.1 309 (by omega), uI_x rfl (by omega)]
        · rw [f133.1 309 (by omega), uI_o (by omega)]; exact b6 a ha
        · obtain ⟨n1, n2, n3, n4, n5⟩ := g0.1
          rw [f133.1 309 (by omega)]
          refine ⟨by rw [uI_o (by omega)]; exact n1, n2, by rw [uI_o (by omega)]; exact n3, fun g9 => by rw [uI_o (by omega)]; exact n4 g9, fun g9 => by rw [uI_o (by omega)]; exact n5 g9⟩
      · rw [f133.2 19 (by omega), uI_row (by omega)]; exact b7
      · show (cl ++ [e2]).length ≤ 24
        rw [List.length_append, List.length_singleton]; omega
      · show code2.length ≤ (adv t l cu2.1).2.1
        omega))
            · refine x_iconst dX12_clause_130 ?_
              exact x_ireturn dX12_clause_131 rfl (by omega) (by omega) (by first
 | (have g := hno (by omega)
    have h9 := hout (by omega) g.2
    rw [g.1] at h9; exact h9)
 | (have g := h4 (by omega) (by rcases hr21 with ⟨g8, g9⟩ | ⟨g8, g9⟩
                                · exact tb21.mp g9
                                · exfalso; omega)
    have h9 := hout (by omega) g.2
    rw [g.1] at h9; exact h9)
 | (have g := h6 (by omega) hnh0 (by omega)
    have h9 := hout (by omega) g.2
    rw [g.1] at h9; exact h9)
 | (have g := b8 (by omega)
    rw [← g.1]
    exact hp J95 b5 (fun g9 => by omega) (fun _ => ⟨b1.1, by rw [g.2]; exact b1.2.1.1.2.1⟩))
 | (have g := (b9 (by omega)).2.1 (by omega)
    have h9 := hp (uI J95 309 ((o : Int).toNat) ((cl.length : Int) + 1)) (Fcl.u9 b5 (by omega)) (fun g9 => by omega) (fun _ => ⟨⟨by rw [uI_row (by omega)]; exact b1.1.1, by rw [uI_row (by omega)]; exact b1.1.2.1, b1.1.2.2⟩, by rw [uI_row (by omega), g.2]; exact b1.2.1.1.2.1⟩)
    rw [g.1] at h9; exact h9)
 | (have g0 := b9 (by omega)
    have g := g0.2.2 (by omega)
    have h9 := hp J133 (Fcl.tr (Fcl.u9 b5 (by omega)) (FcR.fcl f133)) (fun _ => ?_) (fun g9 => absurd g.1 g9)
    · rw [g.1] at h9; exact h9
    · rw [g.2]
      have c133 : CdS J133 o code2 := cds_fc ⟨fun i hi => by rw [uI_o (by omega), uI_o (by omega)]; exact b2.1 i hi, by rw [uI_row (by omega)]; exact b2.2.1, by rw [uI_row (by omega)]; exact b2.2.2⟩ f133
      refine ⟨k133, t133, c133, ?_, ?_, ?_, ?_, k7⟩
      · refine clr_app (I := I) k3 ?_ (fun a ha => ?_) ?_
        · rw [f133.1 309 (by omega), uI_x rfl (by omega)]
        · rw [f133.1 309 (by omega), uI_o (by omega)]; exact b6 a ha
        · obtain ⟨n1, n2, n3, n4, n5⟩ := g0.1
          rw [f133.1 309 (by omega)]
          refine ⟨by rw [uI_o (by omega)]; exact n1, n2, by rw [uI_o (by omega)]; exact n3, fun g9 => by rw [uI_o (by omega)]; exact n4 g9, fun g9 => by rw [uI_o (by omega)]; exact n5 g9⟩
      · rw [f133.2 19 (by omega), uI_row (by omega)]; exact b7
      · show (cl ++ [e2]).length ≤ 24
        rw [List.length_append, List.length_singleton]; omega
      · show code2.length ≤ (adv t l cu2.1).2.1
        omega))
          · refine x_iload dX12_clause_105 rfl ?_
            exact x_ireturn dX12_clause_107 rfl (by omega) (by omega) (by first
 | (have g := hno (by omega)
    have h9 := hout (by omega) g.2
    rw [g.1] at h9; exact h9)
 | (have g := h4 (by omega) (by rcases hr21 with ⟨g8, g9⟩ | ⟨g8, g9⟩
                                · exact tb21.mp g9
                                · exfalso; omega)
    have h9 := hout (by omega) g.2
    rw [g.1] at h9; exact h9)
 | (have g := h6 (by omega) hnh0 (by omega)
    have h9 := hout (by omega) g.2
    rw [g.1] at h9; exact h9)
 | (have g := b8 (by omega)
    rw [← g.1]
    exact hp J95 b5 (fun g9 => by omega) (fun _ => ⟨b1.1, by rw [g.2]; exact b1.2.1.1.2.1⟩))
 | (have g := (b9 (by omega)).2.1 (by omega)
    have h9 := hp (uI J95 309 ((o : Int).toNat) ((cl.length : Int) + 1)) (Fcl.u9 b5 (by omega)) (fun g9 => by omega) (fun _ => ⟨⟨by rw [uI_row (by omega)]; exact b1.1.1, by rw [uI_row (by omega)]; exact b1.1.2.1, b1.1.2.2⟩, by rw [uI_row (by omega), g.2]; exact b1.2.1.1.2.1⟩)
    rw [g.1] at h9; exact h9)
 | (have g0 := b9 (by omega)
    have g := g0.2.2 (by omega)
    have h9 := hp J133 (Fcl.tr (Fcl.u9 b5 (by omega)) (FcR.fcl f133)) (fun _ => ?_) (fun g9 => absurd g.1 g9)
    · rw [g.1] at h9; exact h9
    · rw [g.2]
      have c133 : CdS J133 o code2 := cds_fc ⟨fun i hi => by rw [uI_o (by omega), uI_o (by omega)]; exact b2.1 i hi, by rw [uI_row (by omega)]; exact b2.2.1, by rw [uI_row (by omega)]; exact b2.2.2⟩ f133
      refine ⟨k133, t133, c133, ?_, ?_, ?_, ?_, k7⟩
      · refine clr_app (I := I) k3 ?_ (fun a ha => ?_) ?_
        · rw [f133.1 309 (by omega), uI_x rfl (by omega)]
        · rw [f133.1 309 (by omega), uI_o (by omega)]; exact b6 a ha
        · obtain ⟨n1, n2, n3, n4, n5⟩ := g0.1
          rw [f133.1 309 (by omega)]
          refine ⟨by rw [uI_o (by omega)]; exact n1, n2, by rw [uI_o (by omega)]; exact n3, fun g9 => by rw [uI_o (by omega)]; exact n4 g9, fun g9 => by rw [uI_o (by omega)]; exact n5 g9⟩
      · rw [f133.2 19 (by omega), uI_row (by omega)]; exact b7
      · show (cl ++ [e2]).length ≤ 24
        rw [List.length_append, List.length_singleton]; omega
      · show code2.length ≤ (adv t l cu2.1).2.1
        omega))
        · exfalso; omega
      · refine x_bipush dX12_clause_45 (by decide) ?_
        exact x_ireturn dX12_clause_47 rfl (by omega) (by omega) (by first
 | (have g := hno (by omega)
    have h9 := hout (by omega) g.2
    rw [g.1] at h9; exact h9)
 | (have g := h4 (by omega) (by rcases hr21 with ⟨g8, g9⟩ | ⟨g8, g9⟩
                                · exact tb21.mp g9
                                · exfalso; omega)
    have h9 := hout (by omega) g.2
    rw [g.1] at h9; exact h9)
 | (have g := h6 (by omega) hnh0 (by omega)
    have h9 := hout (by omega) g.2
    rw [g.1] at h9; exact h9)
 | (have g := b8 (by omega)
    rw [← g.1]
    exact hp J95 b5 (fun g9 => by omega) (fun _ => ⟨b1.1, by rw [g.2]; exact b1.2.1.1.2.1⟩))
 | (have g := (b9 (by omega)).2.1 (by omega)
    have h9 := hp (uI J95 309 ((o : Int).toNat) ((cl.length : Int) + 1)) (Fcl.u9 b5 (by omega)) (fun g9 => by omega) (fun _ => ⟨⟨by rw [uI_row (by omega)]; exact b1.1.1, by rw [uI_row (by omega)]; exact b1.1.2.1, b1.1.2.2⟩, by rw [uI_row (by omega), g.2]; exact b1.2.1.1.2.1⟩)
    rw [g.1] at h9; exact h9)
 | (have g0 := b9 (by omega)
    have g := g0.2.2 (by omega)
    have h9 := hp J133 (Fcl.tr (Fcl.u9 b5 (by omega)) (FcR.fcl f133)) (fun _ => ?_) (fun g9 => absurd g.1 g9)
    · rw [g.1] at h9; exact h9
    · rw [g.2]
      have c133 : CdS J133 o code2 := cds_fc ⟨fun i hi => by rw [uI_o (by omega), uI_o (by omega)]; exact b2.1 i hi, by rw [uI_row (by omega)]; exact b2.2.1, by rw [uI_row (by omega)]; exact b2.2.2⟩ f133
      refine ⟨k133, t133, c133, ?_, ?_, ?_, ?_, k7⟩
      · refine clr_app (I := I) k3 ?_ (fun a ha => ?_) ?_
        · rw [f133.1 309 (by omega), uI_x rfl (by omega)]
        · rw [f133.1 309 (by omega), uI_o (by omega)]; exact b6 a ha
        · obtain ⟨n1, n2, n3, n4, n5⟩ := g0.1
          rw [f133.1 309 (by omega)]
          refine ⟨by rw [uI_o (by omega)]; exact n1, n2, by rw [uI_o (by omega)]; exact n3, fun g9 => by rw [uI_o (by omega)]; exact n4 g9, fun g9 => by rw [uI_o (by omega)]; exact n5 g9⟩
      · rw [f133.2 19 (by omega), uI_row (by omega)]; exact b7
      · show (cl ++ [e2]).length ≤ 24
        rw [List.length_append, List.length_singleton]; omega
      · show code2.length ≤ (adv t l cu2.1).2.1
        omega))
    · refine x_aload_n dX12_clause_16 rfl ?_
      refine x_getIv (z := ((I 306 19).toNat : Int)) dX12_clause_17 gf_RX12_256 (k_ob_306 cs) (fun _ _ => rfl) (by first | exact h12 | exact e71 | exact e95 | (rw [uI_row (by omega)]) | omega) ?_
      refine x_iload_n dX12_clause_20 rfl ?_
      refine x_callS2 (mc1 := 0) (ms1 := 0) dX12_clause_21 cv_RX12_259 (Nat.le_of_ble_eq_true rfl) (n1 := n - 1) (by omega) (by omega) (by omega) ?_
      refine sp_X12_has (x := (I 306 19).toNat) (k := z) (by omega) (by omega) (fun r21 hr21 => ?_)
      have tb21 := on_tb (z := z) k4' (show isLw cu.2.2.1 by omega) hz
      refine x_if_eq 29 dX12_clause_24 (by decide) (by omega) (fun w24 => ?_) (fun w24 => ?_)
      · have hnh0 : ¬ (isLw cu.2.2.1 ∧ hasL cl cu.2.2.1) := by
          first
          | (intro g9; have g8 := g9.1; omega)
          | (intro g9
             rcases hr21 with ⟨g8, g7⟩ | ⟨g8, g7⟩
             · omega
             · rw [tb21.mpr g9.2] at g7; cases g7)
        refine x_aload_n dX12_clause_29 rfl ?_
        refine x_getR (b := 309) dX12_clause_30 gf_RX12_16 (k_ob_306 cs) (fun _ _ => rfl) (k_r_306_2 cs) ?_
        refine x_aload_n dX12_clause_33 rfl ?_
        refine x_getIv (z := (o : Int)) dX12_clause_34 gf_RX12_153 (k_ob_306 cs) (fun _ _ => rfl) (by first | exact h12 | exact e71 | exact e95 | (rw [uI_row (by omega)]) | omega) ?_
        refine x_iaload dX12_clause_37 (k_ar_309 cs) (by omega) (by omega) ?_
        rw [show I 309 ((o : Int).toNat) = (cl.length : Int) from k3']
        refine x_istore_n (lv2 := [(2, _), (1, _), (0, _)]) dX12_clause_38 (by decide) rfl ?_
        refine x_iload_n dX12_clause_39 rfl ?_
        refine x_bipush dX12_clause_40 (by decide) ?_
        refine x_icmp_ne 48 dX12_clause_42 (by decide) ⟨(by omega), (by omega)⟩ (fun w42 => ?_) (fun w42 => ?_)
        · refine x_iload_n dX12_clause_48 rfl ?_
          refine x_iconst dX12_clause_49 ?_
          refine x_icmp_gt 65 dX12_clause_50 (by decide) ⟨(by omega), (by omega)⟩ (fun w50 => ?_) (fun w50 => ?_)
          · exfalso; omega
          · refine x_aload_n dX12_clause_53 rfl ?_
            refine x_dup dX12_clause_54 rfl ?_
            refine x_getIv (z := ((I 306 19).toNat : Int)) dX12_clause_55 gf_RX12_256 (k_ob_306 cs) (fun _ _ => rfl) (by first | exact h12 | exact e71 | exact e95 | (rw [uI_row (by omega)]) | omega) ?_
            refine x_iconst dX12_clause_58 ?_
            refine x_iload_n dX12_clause_59 rfl ?_
            refine x_ishl dX12_clause_60 ?_
            refine x_ior dX12_clause_61 ?_
            refine x_putI dX12_clause_62 gf_RX12_256 (k_ob_306 cs) rfl ?_
            refine x_aload_n dX12_clause_65 rfl ?_
            refine x_iload_n dX12_clause_66 rfl ?_
            refine x_putI dX12_clause_67 gf_RX12_163 (k_ob_306 cs) rfl ?_
            refine x_aload_n dX12_clause_70 rfl ?_
            refine x_callV0 (mc1 := 0) (ms1 := 0) dX12_clause_71 cv_RX12_186 (ci := 12) (k_ob_306 cs) rfl (Nat.le_of_ble_eq_true rfl) (n1 := n - 1) (by omega) (by omega) (by omega) ?_
            refine sp_nxt (t := t) (l := l) (cu := cu) cs (by omega) (tk_fr k1' (by rw [uI_row (by omega), uI_row (by omega)]) (fun a ha => by rw [uI_o (by omega), uI_o (by omega)])) (fun J71 k71 s71 m71 f71 => ?_)
            have c71 : CdS J71 o code := cds_fc ⟨by rw [uI_row (by omega), uI_row (by omega)]; exact k2'.1, by rw [uI_o (by omega), uI_o (by omega)]; exact k2'.2.1, by rw [uI_o (by omega), uI_o (by omega)]; exact k2'.2.2⟩ f71
            have e71 : J71 306 12 = (o : Int) := c71.2.2
            have g71 : J71 309 = I 309 := by rw [f71.1 309 (by omega), uI_row (by omega), uI_row (by omega)]
            have z71 : J71 306 14 = (z : Int) := by rw [f71.2 14 (by omega), uI_s]
            have on71 : J71 306 19 = orI (I 306 19) (shlI 1 (srt cu.2.2.1)) := by rw [f71.2 19 (by omega), uI_o (by omega), uI_s, show ((I 306 19).toNat : Int) = I 306 19 by omega, hz]
            have fr71 : Fcl o I J71 := Fcl.tr (Fcl.u6 (Fcl.u6 Fcl.rf (by omega)) (by omega)) (FcR.fcl f71)
            refine x_aload_n dX12_clause_74 rfl ?_
            refine x_getIv (z := (o : Int)) dX12_clause_75 gf_RX12_153 (k_ob_306 cs) (fun _ _ => rfl) (by first | exact h12 | exact e71 | exact e95 | (rw [uI_row (by omega)]) | omega) ?_
            refine x_iconst dX12_clause_78 ?_
            refine x_iadd dX12_clause_79 ?_
            refine x_iconst dX12_clause_80 ?_
            refine x_iload_n dX12_clause_81 rfl ?_
            refine x_imul dX12_clause_82 ?_
            refine x_iadd dX12_clause_83 ?_
            refine x_istore_n (lv2 := [(3, _), (2, _), (1, _), (0, _)]) dX12_clause_84 (by decide) rfl ?_
            rw [show ((o : Int) + 1 + 4 * (cl.length : Int)) = (x : Int) by omega]
            refine x_aload_n dX12_clause_85 rfl ?_
            refine x_getR (b := 309) dX12_clause_86 gf_RX12_16 (k_ob_306 cs) (fun _ _ => rfl) (k_r_306_2 cs) ?_
            refine x_iload_n dX12_clause_89 rfl ?_
            refine x_iload_n dX12_clause_90 rfl ?_
            refine x_iastore dX12_clause_91 (k_ar_309 cs) (by omega) (by omega) ?_
            refine x_aload_n dX12_clause_92 rfl ?_
            refine x_iload_n dX12_clause_93 rfl ?_
            refine x_iload_n dX12_clause_94 rfl ?_
            refine x_callV2 (mc1 := 0) (ms1 := 0) dX12_clause_95 cv_RX12_263 (ci := 12) (k_ob_306 cs) rfl (Nat.le_of_ble_eq_true rfl) (n1 := n - 1) (by omega) (by omega) (by omega) ?_
            have a91 : Ah I (uI J71 309 ((x : Int).toNat) (z : Int)) t l o x cl code cu := by
              refine ⟨tk_fr k71 (by rw [uI_row (by omega)]) (fun a ha => by rw [uI_row (by omega)]), ⟨fun i hi => ?_, by rw [uI_row (by omega)]; exact c71.2.1, by rw [uI_row (by omega)]; exact c71.2.2⟩, by rw [uI_row (by omega), z71]; exact hz, by rw [uI_x rfl (by omega)]; exact hz, fun a ha => by rw [uI_o (by omega), g71], Fcl.u9 fr71 (by omega)⟩
              rw [uI_o (by omega), uI_o (by omega)]
              exact c71.1 i hi
            have m71' : code.length ≤ (adv t l cu.1).2.1 := by omega
            have hc95 : isLw cu.2.2.1 := by omega
            have hnh : ¬ hasL cl cu.2.2.1 := fun g9 => hnh0 ⟨hc95, g9⟩
            obtain ⟨r95, cu1, c1, o95, g95, q1, q2, q3⟩ := clh_l hO hc95 hnh (show cl.length < 24 by omega)
            refine sp_bodyL (t := t) (l := l) (o := o) (sl := decide (cu.2.2.1 = 137)) (cu := adv t l cu.1) (b := code) (cu1 := cu1) (c1 := c1) (r := r95) (pl := pl) cs (by omega) (by omega) (by omega) ⟨a91.1, a91.2.1, ?_, m71', k7⟩ o95 (fun J95 d95 f95 => ?_)
            · rcases hc95 with g9 | g9
              · right
                rw [a91.2.2.1, g9]; decide
              · left
                rw [a91.2.2.1, g9]; decide
            have bd : BdO I J95 t l o cl f pl s2 r95 := bd_law h (by omega) hx hc95 hnh a91 (by rw [uI_row (by omega)]; exact on71) d95 f95 q1 q2 q3
            obtain ⟨cu2, code2, e2, b1, b2, b3, b4, b5, b6, b7, b8, b9⟩ := bd
            have e95 : J95 306 12 = (o : Int) := b2.2.2
            refine x_istore (lv2 := [(4, _), (3, _), (2, _), (1, _), (0, _)]) dX12_clause_98 (by decide) rfl ?_
            refine x_iload dX12_clause_100 rfl ?_
            refine x_if_eq 108 dX12_clause_102 (by decide) (by omega) (fun w102 => ?_) (fun w102 => ?_)
            · refine x_aload_n dX12_clause_108 rfl ?_
              refine x_getR (b := 309) dX12_clause_109 gf_RX12_16 (k_ob_306 cs) (fun _ _ => rfl) (k_r_306_2 cs) ?_
              refine x_aload_n dX12_clause_112 rfl ?_
              refine x_getIv (z := (o : Int)) dX12_clause_113 gf_RX12_153 (k_ob_306 cs) (fun _ _ => rfl) (by first | exact h12 | exact e71 | exact e95 | (rw [uI_row (by omega)]) | omega) ?_
              refine x_dup2 dX12_clause_116 rfl rfl ?_
              refine x_iaload dX12_clause_117 (k_ar_309 cs) (by omega) (by omega) ?_
              rw [show J95 309 ((o : Int).toNat) = (cl.length : Int) from b4]
              refine x_iconst dX12_clause_118 ?_
              refine x_iadd dX12_clause_119 ?_
              refine x_iastore dX12_clause_120 (k_ar_309 cs) (by omega) (by omega) ?_
              have a59 := b1.2.1.2.2.2.1 59 (by omega)
              refine x_aload_n dX12_clause_121 rfl ?_
              refine x_getIv (z := J95 306 9) dX12_clause_122 gf_RX12_115 (k_ob_306 cs) (fun _ _ => rfl) (by first | exact h12 | exact e71 | exact e95 | (rw [uI_row (by omega)]) | omega) ?_
              refine x_bipush dX12_clause_125 (by decide) ?_
              refine x_icmp_eq 132 dX12_clause_127 (by decide) ⟨(by have := b1.2.1.1.2.2.1; omega), (by omega)⟩ (fun w127 => ?_) (fun w127 => ?_)
              · refine x_aload_n dX12_clause_132 rfl ?_
                refine x_callV0 (mc1 := 0) (ms1 := 0) dX12_clause_133 cv_RX12_186 (ci := 12) (k_ob_306 cs) rfl (Nat.le_of_ble_eq_true rfl) (n1 := n - 1) (by omega) (by omega) (by omega) ?_
                refine sp_nxq (t := t) (l := l) (cu := cu2) cs (by omega) (tk_fr b1 (by rw [uI_row (by omega)]) (fun a ha => by rw [uI_row (by omega)])) (fun J133 k133 t133 s133 m133 f133 => ?_)
                refine x_iconst dX12_clause_136 ?_
                exact x_ireturn dX12_clause_137 rfl (by omega) (by omega) (by first
 | (have g := hno (by omega)
    have h9 := hout (by omega) g.2
    rw [g.1] at h9; exact h9)
 | (have g := h4 (by omega) (by rcases hr21 with ⟨g8, g9⟩ | ⟨g8, g9⟩
                                · exact tb21.mp g9
                                · exfalso; omega)
    have h9 := hout (by omega) g.2
    rw [g.1] at h9; exact h9)
 | (have g := h6 (by omega) hnh0 (by omega)
    have h9 := hout (by omega) g.2
    rw [g.1] at h9; exact h9)
 | (have g := b8 (by omega)
    rw [← g.1]
    exact hp J95 b5 (fun g9 => by omega) (fun _ => ⟨b1.1, by rw [g.2]; exact b1.2.1.1.2.1⟩))
 | (have g := (b9 (by omega)).2.1 (by omega)
    have h9 := hp (uI J95 309 ((o : Int).toNat) ((cl.length : Int) + 1)) (Fcl.u9 b5 (by omega)) (fun g9 => by omega) (fun _ => ⟨⟨by rw [uI_row (by omega)]; exact b1.1.1, by rw [uI_row (by omega)]; exact b1.1.2.1, b1.1.2.2⟩, by rw [uI_row (by omega), g.2]; exact b1.2.1.1.2.1⟩)
    rw [g.1] at h9; exact h9)
 | (have g0 := b9 (by omega)
    have g := g0.2.2 (by omega)
    have h9 := hp J133 (Fcl.tr (Fcl.u9 b5 (by omega)) (FcR.fcl f133)) (fun _ => ?_) (fun g9 => absurd g.1 g9)
    · rw [g.1] at h9; exact h9
    · rw [g.2]
      have c133 : CdS J133 o code2 := cds_fc ⟨fun i hi => by rw [uI_o (by omega), uI_o (by omega)]; exact b2.1 i hi, by rw [uI_row (by omega)]; exact b2.2.1, by rw [uI_row (by omega)]; exact b2.2.2⟩ f133
      refine ⟨k133, t133, c133, ?_, ?_, ?_, ?_, k7⟩
      · refine clr_app (I := I) k3 ?_ (fun a ha => ?_) ?_
        · rw [f133.1 309 (by omega), uI_x rfl (by omega)]
        · rw [f133.1 309 (by omega), uI_o (by omega)]; exact b6 a ha
        · obtain ⟨n1, n2, n3, n4, n5⟩ := g0.1
          rw [f133.1 309 (by omega)]
          refine ⟨by rw [uI_o (by omega)]; exact n1, n2, by rw [uI_o (by omega)]; exact n3, fun g9 => by rw [uI_o (by omega)]; exact n4 g9, fun g9 => by rw [uI_o (by omega)]; exact n5 g9⟩
      · rw [f133.2 19 (by omega), uI_row (by omega)]; exact b7
      · show (cl ++ [e2]).length ≤ 24
        rw [List.length_append, List.length_singleton]; omega
      · show code2.length ≤ (adv t l cu2.1).2.1
        omega))
              · refine x_iconst dX12_clause_130 ?_
                exact x_ireturn dX12_clause_131 rfl (by omega) (by omega) (by first
 | (have g := hno (by omega)
    have h9 := hout (by omega) g.2
    rw [g.1] at h9; exact h9)
 | (have g := h4 (by omega) (by rcases hr21 with ⟨g8, g9⟩ | ⟨g8, g9⟩
                                · exact tb21.mp g9
                                · exfalso; omega)
    have h9 := hout (by omega) g.2
    rw [g.1] at h9; exact h9)
 | (have g := h6 (by omega) hnh0 (by omega)
    have h9 := hout (by omega) g.2
    rw [g.1] at h9; exact h9)
 | (have g := b8 (by omega)
    rw [← g.1]
    exact hp J95 b5 (fun g9 => by omega) (fun _ => ⟨b1.1, by rw [g.2]; exact b1.2.1.1.2.1⟩))
 | (have g := (b9 (by omega)).2.1 (by omega)
    have h9 := hp (uI J95 309 ((o : Int).toNat) ((cl.length : Int) + 1)) (Fcl.u9 b5 (by omega)) (fun g9 => by omega) (fun _ => ⟨⟨by rw [uI_row (by omega)]; exact b1.1.1, by rw [uI_row (by omega)]; exact b1.1.2.1, b1.1.2.2⟩, by rw [uI_row (by omega), g.2]; exact b1.2.1.1.2.1⟩)
    rw [g.1] at h9; exact h9)
 | (have g0 := b9 (by omega)
    have g := g0.2.2 (by omega)
    have h9 := hp J133 (Fcl.tr (Fcl.u9 b5 (by omega)) (FcR.fcl f133)) (fun _ => ?_) (fun g9 => absurd g.1 g9)
    · rw [g.1] at h9; exact h9
    · rw [g.2]
      have c133 : CdS J133 o code2 := cds_fc ⟨fun i hi => by rw [uI_o (by omega), uI_o (by omega)]; exact b2.1 i hi, by rw [uI_row (by omega)]; exact b2.2.1, by rw [uI_row (by omega)]; exact b2.2.2⟩ f133
      refine ⟨k133, t133, c133, ?_, ?_, ?_, ?_, k7⟩
      · refine clr_app (I := I) k3 ?_ (fun a ha => ?_) ?_
        · rw [f133.1 309 (by omega), uI_x rfl (by omega)]
        · rw [f133.1 309 (by omega), uI_o (by omega)]; exact b6 a ha
        · obtain ⟨n1, n2, n3, n4, n5⟩ := g0.1
          rw [f133.1 309 (by omega)]
          refine ⟨by rw [uI_o (by omega)]; exact n1, n2, by rw [uI_o (by omega)]; exact n3, fun g9 => by rw [uI_o (by omega)]; exact n4 g9, fun g9 => by rw [uI_o (by omega)]; exact n5 g9⟩
      · rw [f133.2 19 (by omega), uI_row (by omega)]; exact b7
      · show (cl ++ [e2]).length ≤ 24
        rw [List.length_append, List.length_singleton]; omega
      · show code2.length ≤ (adv t l cu2.1).2.1
        omega))
            · refine x_iload dX12_clause_105 rfl ?_
              exact x_ireturn dX12_clause_107 rfl (by omega) (by omega) (by first
 | (have g := hno (by omega)
    have h9 := hout (by omega) g.2
    rw [g.1] at h9; exact h9)
 | (have g := h4 (by omega) (by rcases hr21 with ⟨g8, g9⟩ | ⟨g8, g9⟩
                                · exact tb21.mp g9
                                · exfalso; omega)
    have h9 := hout (by omega) g.2
    rw [g.1] at h9; exact h9)
 | (have g := h6 (by omega) hnh0 (by omega)
    have h9 := hout (by omega) g.2
    rw [g.1] at h9; exact h9)
 | (have g := b8 (by omega)
    rw [← g.1]
    exact hp J95 b5 (fun g9 => by omega) (fun _ => ⟨b1.1, by rw [g.2]; exact b1.2.1.1.2.1⟩))
 | (have g := (b9 (by omega)).2.1 (by omega)
    have h9 := hp (uI J95 309 ((o : Int).toNat) ((cl.length : Int) + 1)) (Fcl.u9 b5 (by omega)) (fun g9 => by omega) (fun _ => ⟨⟨by rw [uI_row (by omega)]; exact b1.1.1, by rw [uI_row (by omega)]; exact b1.1.2.1, b1.1.2.2⟩, by rw [uI_row (by omega), g.2]; exact b1.2.1.1.2.1⟩)
    rw [g.1] at h9; exact h9)
 | (have g0 := b9 (by omega)
    have g := g0.2.2 (by omega)
    have h9 := hp J133 (Fcl.tr (Fcl.u9 b5 (by omega)) (FcR.fcl f133)) (fun _ => ?_) (fun g9 => absurd g.1 g9)
    · rw [g.1] at h9; exact h9
    · rw [g.2]
      have c133 : CdS J133 o code2 := cds_fc ⟨fun i hi => by rw [uI_o (by omega), uI_o (by omega)]; exact b2.1 i hi, by rw [uI_row (by omega)]; exact b2.2.1, by rw [uI_row (by omega)]; exact b2.2.2⟩ f133
      refine ⟨k133, t133, c133, ?_, ?_, ?_, ?_, k7⟩
      · refine clr_app (I := I) k3 ?_ (fun a ha => ?_) ?_
        · rw [f133.1 309 (by omega), uI_x rfl (by omega)]
        · rw [f133.1 309 (by omega), uI_o (by omega)]; exact b6 a ha
        · obtain ⟨n1, n2, n3, n4, n5⟩ := g0.1
          rw [f133.1 309 (by omega)]
          refine ⟨by rw [uI_o (by omega)]; exact n1, n2, by rw [uI_o (by omega)]; exact n3, fun g9 => by rw [uI_o (by omega)]; exact n4 g9, fun g9 => by rw [uI_o (by omega)]; exact n5 g9⟩
      · rw [f133.2 19 (by omega), uI_row (by omega)]; exact b7
      · show (cl ++ [e2]).length ≤ 24
        rw [List.length_append, List.length_singleton]; omega
      · show code2.length ≤ (adv t l cu2.1).2.1
        omega))
        · refine x_bipush dX12_clause_45 (by decide) ?_
          exact x_ireturn dX12_clause_47 rfl (by omega) (by omega) (by first
 | (have g := hno (by omega)
    have h9 := hout (by omega) g.2
    rw [g.1] at h9; exact h9)
 | (have g := h4 (by omega) (by rcases hr21 with ⟨g8, g9⟩ | ⟨g8, g9⟩
                                · exact tb21.mp g9
                                · exfalso; omega)
    have h9 := hout (by omega) g.2
    rw [g.1] at h9; exact h9)
 | (have g := h6 (by omega) hnh0 (by omega)
    have h9 := hout (by omega) g.2
    rw [g.1] at h9; exact h9)
 | (have g := b8 (by omega)
    rw [← g.1]
    exact hp J95 b5 (fun g9 => by omega) (fun _ => ⟨b1.1, by rw [g.2]; exact b1.2.1.1.2.1⟩))
 | (have g := (b9 (by omega)).2.1 (by omega)
    have h9 := hp (uI J95 309 ((o : Int).toNat) ((cl.length : Int) + 1)) (Fcl.u9 b5 (by omega)) (fun g9 => by omega) (fun _ => ⟨⟨by rw [uI_row (by omega)]; exact b1.1.1, by rw [uI_row (by omega)]; exact b1.1.2.1, b1.1.2.2⟩, by rw [uI_row (by omega), g.2]; exact b1.2.1.1.2.1⟩)
    rw [g.1] at h9; exact h9)
 | (have g0 := b9 (by omega)
    have g := g0.2.2 (by omega)
    have h9 := hp J133 (Fcl.tr (Fcl.u9 b5 (by omega)) (FcR.fcl f133)) (fun _ => ?_) (fun g9 => absurd g.1 g9)
    · rw [g.1] at h9; exact h9
    · rw [g.2]
      have c133 : CdS J133 o code2 := cds_fc ⟨fun i hi => by rw [uI_o (by omega), uI_o (by omega)]; exact b2.1 i hi, by rw [uI_row (by omega)]; exact b2.2.1, by rw [uI_row (by omega)]; exact b2.2.2⟩ f133
      refine ⟨k133, t133, c133, ?_, ?_, ?_, ?_, k7⟩
      · refine clr_app (I := I) k3 ?_ (fun a ha => ?_) ?_
        · rw [f133.1 309 (by omega), uI_x rfl (by omega)]
        · rw [f133.1 309 (by omega), uI_o (by omega)]; exact b6 a ha
        · obtain ⟨n1, n2, n3, n4, n5⟩ := g0.1
          rw [f133.1 309 (by omega)]
          refine ⟨by rw [uI_o (by omega)]; exact n1, n2, by rw [uI_o (by omega)]; exact n3, fun g9 => by rw [uI_o (by omega)]; exact n4 g9, fun g9 => by rw [uI_o (by omega)]; exact n5 g9⟩
      · rw [f133.2 19 (by omega), uI_row (by omega)]; exact b7
      · show (cl ++ [e2]).length ≤ 24
        rw [List.length_append, List.length_singleton]; omega
      · show code2.length ≤ (adv t l cu2.1).2.1
        omega))
      · refine x_iconst dX12_clause_27 ?_
        exact x_ireturn dX12_clause_28 rfl (by omega) (by omega) (by first
 | (have g := hno (by omega)
    have h9 := hout (by omega) g.2
    rw [g.1] at h9; exact h9)
 | (have g := h4 (by omega) (by rcases hr21 with ⟨g8, g9⟩ | ⟨g8, g9⟩
                                · exact tb21.mp g9
                                · exfalso; omega)
    have h9 := hout (by omega) g.2
    rw [g.1] at h9; exact h9)
 | (have g := h6 (by omega) hnh0 (by omega)
    have h9 := hout (by omega) g.2
    rw [g.1] at h9; exact h9)
 | (have g := b8 (by omega)
    rw [← g.1]
    exact hp J95 b5 (fun g9 => by omega) (fun _ => ⟨b1.1, by rw [g.2]; exact b1.2.1.1.2.1⟩))
 | (have g := (b9 (by omega)).2.1 (by omega)
    have h9 := hp (uI J95 309 ((o : Int).toNat) ((cl.length : Int) + 1)) (Fcl.u9 b5 (by omega)) (fun g9 => by omega) (fun _ => ⟨⟨by rw [uI_row (by omega)]; exact b1.1.1, by rw [uI_row (by omega)]; exact b1.1.2.1, b1.1.2.2⟩, by rw [uI_row (by omega), g.2]; exact b1.2.1.1.2.1⟩)
    rw [g.1] at h9; exact h9)
 | (have g0 := b9 (by omega)
    have g := g0.2.2 (by omega)
    have h9 := hp J133 (Fcl.tr (Fcl.u9 b5 (by omega)) (FcR.fcl f133)) (fun _ => ?_) (fun g9 => absurd g.1 g9)
    · rw [g.1] at h9; exact h9
    · rw [g.2]
      have c133 : CdS J133 o code2 := cds_fc ⟨fun i hi => by rw [uI_o (by omega), uI_o (by omega)]; exact b2.1 i hi, by rw [uI_row (by omega)]; exact b2.2.1, by rw [uI_row (by omega)]; exact b2.2.2⟩ f133
      refine ⟨k133, t133, c133, ?_, ?_, ?_, ?_, k7⟩
      · refine clr_app (I := I) k3 ?_ (fun a ha => ?_) ?_
        · rw [f133.1 309 (by omega), uI_x rfl (by omega)]
        · rw [f133.1 309 (by omega), uI_o (by omega)]; exact b6 a ha
        · obtain ⟨n1, n2, n3, n4, n5⟩ := g0.1
          rw [f133.1 309 (by omega)]
          refine ⟨by rw [uI_o (by omega)]; exact n1, n2, by rw [uI_o (by omega)]; exact n3, fun g9 => by rw [uI_o (by omega)]; exact n4 g9, fun g9 => by rw [uI_o (by omega)]; exact n5 g9⟩
      · rw [f133.2 19 (by omega), uI_row (by omega)]; exact b7
      · show (cl ++ [e2]).length ≤ 24
        rw [List.length_append, List.length_singleton]; omega
      · show code2.length ≤ (adv t l cu2.1).2.1
        omega))
  · refine x_iconst dX12_clause_9 ?_
    exact x_ireturn dX12_clause_10 rfl (by omega) (by omega) (by first
 | (have g := hno (by omega)
    have h9 := hout (by omega) g.2
    rw [g.1] at h9; exact h9)
 | (have g := h4 (by omega) (by rcases hr21 with ⟨g8, g9⟩ | ⟨g8, g9⟩
                                · exact tb21.mp g9
                                · exfalso; omega)
    have h9 := hout (by omega) g.2
    rw [g.1] at h9; exact h9)
 | (have g := h6 (by omega) hnh0 (by omega)
    have h9 := hout (by omega) g.2
    rw [g.1] at h9; exact h9)
 | (have g := b8 (by omega)
    rw [← g.1]
    exact hp J95 b5 (fun g9 => by omega) (fun _ => ⟨b1.1, by rw [g.2]; exact b1.2.1.1.2.1⟩))
 | (have g := (b9 (by omega)).2.1 (by omega)
    have h9 := hp (uI J95 309 ((o : Int).toNat) ((cl.length : Int) + 1)) (Fcl.u9 b5 (by omega)) (fun g9 => by omega) (fun _ => ⟨⟨by rw [uI_row (by omega)]; exact b1.1.1, by rw [uI_row (by omega)]; exact b1.1.2.1, b1.1.2.2⟩, by rw [uI_row (by omega), g.2]; exact b1.2.1.1.2.1⟩)
    rw [g.1] at h9; exact h9)
 | (have g0 := b9 (by omega)
    have g := g0.2.2 (by omega)
    have h9 := hp J133 (Fcl.tr (Fcl.u9 b5 (by omega)) (FcR.fcl f133)) (fun _ => ?_) (fun g9 => absurd g.1 g9)
    · rw [g.1] at h9; exact h9
    · rw [g.2]
      have c133 : CdS J133 o code2 := cds_fc ⟨fun i hi => by rw [uI_o (by omega), uI_o (by omega)]; exact b2.1 i hi, by rw [uI_row (by omega)]; exact b2.2.1, by rw [uI_row (by omega)]; exact b2.2.2⟩ f133
      refine ⟨k133, t133, c133, ?_, ?_, ?_, ?_, k7⟩
      · refine clr_app (I := I) k3 ?_ (fun a ha => ?_) ?_
        · rw [f133.1 309 (by omega), uI_x rfl (by omega)]
        · rw [f133.1 309 (by omega), uI_o (by omega)]; exact b6 a ha
        · obtain ⟨n1, n2, n3, n4, n5⟩ := g0.1
          rw [f133.1 309 (by omega)]
          refine ⟨by rw [uI_o (by omega)]; exact n1, n2, by rw [uI_o (by omega)]; exact n3, fun g9 => by rw [uI_o (by omega)]; exact n4 g9, fun g9 => by rw [uI_o (by omega)]; exact n5 g9⟩
      · rw [f133.2 19 (by omega), uI_row (by omega)]; exact b7
      · show (cl ++ [e2]).length ≤ 24
        rw [List.length_append, List.length_singleton]; omega
      · show code2.length ≤ (adv t l cu2.1).2.1
        omega))
end Rt3s
