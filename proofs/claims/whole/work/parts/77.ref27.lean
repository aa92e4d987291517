section Ref27
variable {n mc ms : Nat} {M : Md} {pc : Nat} {lv : List (Nat × Value)} {st : List Value} {k j : Nat} {Post : PT} {S : Sh} {I : CI} {R : CR} {A : Nat → Int} {tx : Nat → Nat → Int}
theorem dX12_all_0 : decode prog_14_method_119_code 0 = .ok (.iconst 1, 1) := by decide +kernel
theorem dX12_all_1 : decode prog_14_method_119_code 1 = .ok (.istore_n 1, 1) := by decide +kernel
theorem dX12_all_2 : decode prog_14_method_119_code 2 = .ok (.iconst 0, 1) := by decide +kernel
theorem dX12_all_3 : decode prog_14_method_119_code 3 = .ok (.istore_n 2, 1) := by decide +kernel
theorem dX12_all_4 : decode prog_14_method_119_code 4 = .ok (.iconst 1, 1) := by decide +kernel
theorem dX12_all_5 : decode prog_14_method_119_code 5 = .ok (.istore_n 3, 1) := by decide +kernel
theorem dX12_all_6 : decode prog_14_method_119_code 6 = .ok (.iload_n 3, 1) := by decide +kernel
theorem dX12_all_7 : decode prog_14_method_119_code 7 = .ok (.bipush 6, 2) := by decide +kernel
theorem dX12_all_9 : decode prog_14_method_119_code 9 = .ok (.if_icmp .ge 131, 3) := by decide +kernel
theorem dX12_all_12 : decode prog_14_method_119_code 12 = .ok (.ldc_w 423, 3) := by decide +kernel
theorem dX12_all_15 : decode prog_14_method_119_code 15 = .ok (.istore 4, 2) := by decide +kernel
theorem dX12_all_17 : decode prog_14_method_119_code 17 = .ok (.iconst 0, 1) := by decide +kernel
theorem dX12_all_18 : decode prog_14_method_119_code 18 = .ok (.istore 5, 2) := by decide +kernel
theorem dX12_all_20 : decode prog_14_method_119_code 20 = .ok (.iconst 0, 1) := by decide +kernel
theorem dX12_all_21 : decode prog_14_method_119_code 21 = .ok (.istore 6, 2) := by decide +kernel
theorem dX12_all_23 : decode prog_14_method_119_code 23 = .ok (.iload 6, 2) := by decide +kernel
theorem dX12_all_25 : decode prog_14_method_119_code 25 = .ok (.bipush 6, 2) := by decide +kernel
theorem dX12_all_27 : decode prog_14_method_119_code 27 = .ok (.if_icmp .ge 85, 3) := by decide +kernel
theorem dX12_all_30 : decode prog_14_method_119_code 30 = .ok (.iconst 0, 1) := by decide +kernel
theorem dX12_all_31 : decode prog_14_method_119_code 31 = .ok (.istore 7, 2) := by decide +kernel
theorem dX12_all_33 : decode prog_14_method_119_code 33 = .ok (.iload 7, 2) := by decide +kernel
theorem dX12_all_35 : decode prog_14_method_119_code 35 = .ok (.bipush 6, 2) := by decide +kernel
theorem dX12_all_37 : decode prog_14_method_119_code 37 = .ok (.if_icmp .ge 69, 3) := by decide +kernel
theorem dX12_all_40 : decode prog_14_method_119_code 40 = .ok (.iload_n 1, 1) := by decide +kernel
theorem dX12_all_41 : decode prog_14_method_119_code 41 = .ok (.iload 6, 2) := by decide +kernel
theorem dX12_all_43 : decode prog_14_method_119_code 43 = .ok (.invokestatic 259, 3) := by decide +kernel
theorem dX12_all_46 : decode prog_14_method_119_code 46 = .ok (.ifCond .eq 54, 3) := by decide +kernel
theorem dX12_all_49 : decode prog_14_method_119_code 49 = .ok (.iload_n 1, 1) := by decide +kernel
theorem dX12_all_50 : decode prog_14_method_119_code 50 = .ok (.iload 7, 2) := by decide +kernel
theorem dX12_all_52 : decode prog_14_method_119_code 52 = .ok (.invokestatic 259, 3) := by decide +kernel
theorem dX12_all_55 : decode prog_14_method_119_code 55 = .ok (.ifCond .ne 45, 3) := by decide +kernel
theorem dX12_all_58 : decode prog_14_method_119_code 58 = .ok (.aload_n 0, 1) := by decide +kernel
theorem dX12_all_59 : decode prog_14_method_119_code 59 = .ok (.iload 6, 2) := by decide +kernel
theorem dX12_all_61 : decode prog_14_method_119_code 61 = .ok (.iload 7, 2) := by decide +kernel
theorem dX12_all_63 : decode prog_14_method_119_code 63 = .ok (.invokevirtual 420, 3) := by decide +kernel
theorem dX12_all_66 : decode prog_14_method_119_code 66 = .ok (.iconst (-1), 1) := by decide +kernel
theorem dX12_all_67 : decode prog_14_method_119_code 67 = .ok (.if_icmp .eq 33, 3) := by decide +kernel
theorem dX12_all_70 : decode prog_14_method_119_code 70 = .ok (.aload_n 0, 1) := by decide +kernel
theorem dX12_all_71 : decode prog_14_method_119_code 71 = .ok (.iload 6, 2) := by decide +kernel
theorem dX12_all_73 : decode prog_14_method_119_code 73 = .ok (.iload 7, 2) := by decide +kernel
theorem dX12_all_75 : decode prog_14_method_119_code 75 = .ok (.invokevirtual 420, 3) := by decide +kernel
theorem dX12_all_78 : decode prog_14_method_119_code 78 = .ok (.iload 4, 2) := by decide +kernel
theorem dX12_all_80 : decode prog_14_method_119_code 80 = .ok (.if_icmp .lt 6, 3) := by decide +kernel
theorem dX12_all_83 : decode prog_14_method_119_code 83 = .ok (.goto 17, 3) := by decide +kernel
theorem dX12_all_86 : decode prog_14_method_119_code 86 = .ok (.aload_n 0, 1) := by decide +kernel
theorem dX12_all_87 : decode prog_14_method_119_code 87 = .ok (.iload 6, 2) := by decide +kernel
theorem dX12_all_89 : decode prog_14_method_119_code 89 = .ok (.iload 7, 2) := by decide +kernel
theorem dX12_all_91 : decode prog_14_method_119_code 91 = .ok (.invokevirtual 420, 3) := by decide +kernel
theorem dX12_all_94 : decode prog_14_method_119_code 94 = .ok (.istore 4, 2) := by decide +kernel
theorem dX12_all_96 : decode prog_14_method_119_code 96 = .ok (.iload 7, 2) := by decide +kernel
theorem dX12_all_98 : decode prog_14_method_119_code 98 = .ok (.istore 5, 2) := by decide +kernel
theorem dX12_all_100 : decode prog_14_method_119_code 100 = .ok (.iinc 7 1, 3) := by decide +kernel
theorem dX12_all_103 : decode prog_14_method_119_code 103 = .ok (.goto (-70), 3) := by decide +kernel
theorem dX12_all_106 : decode prog_14_method_119_code 106 = .ok (.iinc 6 1, 3) := by decide +kernel
theorem dX12_all_109 : decode prog_14_method_119_code 109 = .ok (.goto (-86), 3) := by decide +kernel
theorem dX12_all_112 : decode prog_14_method_119_code 112 = .ok (.iload 4, 2) := by decide +kernel
theorem dX12_all_114 : decode prog_14_method_119_code 114 = .ok (.ldc_w 423, 3) := by decide +kernel
theorem dX12_all_117 : decode prog_14_method_119_code 117 = .ok (.if_icmp .ne 5, 3) := by decide +kernel
theorem dX12_all_120 : decode prog_14_method_119_code 120 = .ok (.iconst (-1), 1) := by decide +kernel
theorem dX12_all_121 : decode prog_14_method_119_code 121 = .ok (.ireturn, 1) := by decide +kernel
theorem dX12_all_122 : decode prog_14_method_119_code 122 = .ok (.iload_n 1, 1) := by decide +kernel
theorem dX12_all_123 : decode prog_14_method_119_code 123 = .ok (.iconst 1, 1) := by decide +kernel
theorem dX12_all_124 : decode prog_14_method_119_code 124 = .ok (.iload 5, 2) := by decide +kernel
theorem dX12_all_126 : decode prog_14_method_119_code 126 = .ok (.ishl, 1) := by decide +kernel
theorem dX12_all_127 : decode prog_14_method_119_code 127 = .ok (.ior, 1) := by decide +kernel
theorem dX12_all_128 : decode prog_14_method_119_code 128 = .ok (.istore_n 1, 1) := by decide +kernel
theorem dX12_all_129 : decode prog_14_method_119_code 129 = .ok (.iload_n 2, 1) := by decide +kernel
theorem dX12_all_130 : decode prog_14_method_119_code 130 = .ok (.iload 4, 2) := by decide +kernel
theorem dX12_all_132 : decode prog_14_method_119_code 132 = .ok (.iadd, 1) := by decide +kernel
theorem dX12_all_133 : decode prog_14_method_119_code 133 = .ok (.istore_n 2, 1) := by decide +kernel
theorem dX12_all_134 : decode prog_14_method_119_code 134 = .ok (.iinc 3 1, 3) := by decide +kernel
theorem dX12_all_137 : decode prog_14_method_119_code 137 = .ok (.goto (-131), 3) := by decide +kernel
theorem dX12_all_140 : decode prog_14_method_119_code 140 = .ok (.iload_n 2, 1) := by decide +kernel
theorem dX12_all_141 : decode prog_14_method_119_code 141 = .ok (.ireturn, 1) := by decide +kernel
def ExA (c : Nat → Nat → Int) (T nx : Nat) (L : Int) : Prop := ∃ i, i < 6 ∧ T.testBit i = true ∧ c i nx = L
/-- the least so far, of the pairs before (p, r) -/
def SPA (c : Nat → Nat → Int) (T : Nat) (L : Int) (nx p r : Nat) : Prop := (∀ i j, i < 6 → j < 6 → (i < p ∨ (i = p ∧ j < r)) → T.testBit i = true → T.testBit j = false → c i j = -1 ∨ L ≤ c i j) ∧ ((L = 1000000 ∧ nx = 0) ∨ ((0 ≤ L ∧ L ≤ 79992) ∧ nx < 6 ∧ T.testBit nx = false ∧ ExA c T nx L))
theorem lp1_all {X k : Nat} {s : Int} (cs : CS S R) (hA : I 307 = A) (hN : BN A) (hT : RTx (I 309) A tx) (hn : 7 ≤ n) (hX : X < 64)  {p : Nat} (hp6 : p < 6) (hK : ∀ J (L : Int) (nx : Nat), SPA (cstA A tx) X L nx (p + 1) 0 → FD I J → WP n 0 0 mX12_all Post 106 [(0, .ref (S.2.1 306)), (1, .int (iI (X : Int))), (2, .int (iI s)), (3, .int (iI (k : Int))), (4, .int (iI L)), (5, .int (iI (nx : Int))), (6, .int (iI (p : Int)))] [] 0 0 S J R) : ∀ (d r : Nat) (J : CI) (L : Int) (nx : Nat), r ≤ 6 → 6 - r = d → SPA (cstA A tx) X L nx p r → FD I J → WP n 0 0 mX12_all Post 33 [(0, .ref (S.2.1 306)), (1, .int (iI (X : Int))), (2, .int (iI s)), (3, .int (iI (k : Int))), (4, .int (iI L)), (5, .int (iI (nx : Int))), (6, .int (iI (p : Int))), (7, .int (iI (r : Int)))] [] 0 0 S J R := by
  have hc := cst_r (tx := tx) hN
  intro d
  induction d using Nat.strongRecOn with
  | ind d ih =>
    intro r J L nx r1 r2 hS hF
    obtain ⟨s1, s2⟩ := id hS
    have aJ : J 307 = A := by rw [hF 307 (by omega) (by omega) (by omega)]; exact hA
    have tJ : RTx (J 309) A tx := by rw [hF 309 (by omega) (by omega) (by omega)]; exact hT
    have hcr := hc p r
    have hLb : 0 ≤ L ∧ L ≤ 1000000 := by omega
    refine x_iload dX12_all_33 rfl ?_
    refine x_bipush dX12_all_35 (by decide) ?_
    refine x_icmp_ge 106 dX12_all_37 (by decide) ⟨(by omega), (by omega)⟩ (fun w37 => ?_) (fun w37 => ?_)
    · refine x_sub [0, 1, 2, 3, 4, 5, 6] rfl ?_
      obtain rfl : r = 6 := by omega
      exact hK J L nx ⟨fun i j hi hj hh b1 b2 => s1 i j hi hj (by omega) b1 b2, s2⟩ hF
    · refine x_iload_n dX12_all_40 rfl ?_
      refine x_iload dX12_all_41 rfl ?_
      refine x_callS2 (mc1 := 0) (ms1 := 0) dX12_all_43 cv_RX12_259 (Nat.le_of_ble_eq_true rfl) (n1 := n - 1) (by omega) (by omega) (by omega) ?_
      refine sp_X12_has (by omega) (by omega) (fun r43 hr43 => ?_)
      refine x_if_eq 100 dX12_all_46 (by decide) (by omega) (fun w46 => ?_) (fun w46 => ?_)
      · refine x_iinc (lv2 := [(7, _), (0, _), (1, _), (2, _), (3, _), (4, _), (5, _), (6, _)]) dX12_all_100 rfl (by decide) rfl ?_
        refine x_goto 33 dX12_all_103 (by decide) ?_
        refine x_sub [1, 2, 3, 4, 5, 6, 7, 0] rfl ?_
        first
          | (refine ih _ (by omega) (r + 1) J L nx (by omega) rfl ⟨fun i j hi hj hh b1 b2 => ?_, s2⟩ hF
             by_cases e : i = p ∧ j = r
             · obtain ⟨e1, e2⟩ := e
               subst e1; subst e2
               first
                 | (rcases hr43 with h | h; (exfalso; omega); (rw [b1] at h; exact absurd h.2 (by decide)))
                 | (rcases hr52 with h | h; (rw [b2] at h; exact absurd h.2 (by decide)); (exfalso; omega))
                 | exact Or.inl (by omega)
                 | exact Or.inr (by omega)
             · exact s1 i j hi hj (by omega) b1 b2)
          | (refine ih _ (by omega) (r + 1) J63 L nx (by omega) rfl ⟨fun i j hi hj hh b1 b2 => ?_, s2⟩ (FD.tr hF f63)
             by_cases e : i = p ∧ j = r
             · obtain ⟨e1, e2⟩ := e
               subst e1; subst e2
               first
                 | (rcases hr43 with h | h; (exfalso; omega); (rw [b1] at h; exact absurd h.2 (by decide)))
                 | (rcases hr52 with h | h; (rw [b2] at h; exact absurd h.2 (by decide)); (exfalso; omega))
                 | exact Or.inl (by omega)
                 | exact Or.inr (by omega)
             · exact s1 i j hi hj (by omega) b1 b2)
          | (refine ih _ (by omega) (r + 1) J75 L nx (by omega) rfl ⟨fun i j hi hj hh b1 b2 => ?_, s2⟩ (FD.tr (FD.tr hF f63) f75)
             by_cases e : i = p ∧ j = r
             · obtain ⟨e1, e2⟩ := e
               subst e1; subst e2
               first
                 | (rcases hr43 with h | h; (exfalso; omega); (rw [b1] at h; exact absurd h.2 (by decide)))
                 | (rcases hr52 with h | h; (rw [b2] at h; exact absurd h.2 (by decide)); (exfalso; omega))
                 | exact Or.inl (by omega)
                 | exact Or.inr (by omega)
             · exact s1 i j hi hj (by omega) b1 b2)
          | (refine ih _ (by omega) (r + 1) J91 (cstA A tx p r) r (by omega) rfl ⟨fun i j hi hj hh b1 b2 => ?_, Or.inr ⟨by omega, by omega, (by rcases hr52 with h | h; (exfalso; omega); exact h.2), ⟨p, hp6, (by rcases hr43 with h | h; exact h.2; exfalso; omega), rfl⟩⟩⟩ (FD.tr (FD.tr (FD.tr hF f63) f75) f91)
             by_cases e : i = p ∧ j = r
             · obtain ⟨e1, e2⟩ := e
               subst e1; subst e2
               exact Or.inr (Int.le_refl _)
             · have := s1 i j hi hj (by omega) b1 b2
               omega)
      · refine x_iload_n dX12_all_49 rfl ?_
        refine x_iload dX12_all_50 rfl ?_
        refine x_callS2 (mc1 := 0) (ms1 := 0) dX12_all_52 cv_RX12_259 (Nat.le_of_ble_eq_true rfl) (n1 := n - 1) (by omega) (by omega) (by omega) ?_
        refine sp_X12_has (by omega) (by omega) (fun r52 hr52 => ?_)
        refine x_if_ne 100 dX12_all_55 (by decide) (by omega) (fun w55 => ?_) (fun w55 => ?_)
        · refine x_iinc (lv2 := [(7, _), (0, _), (1, _), (2, _), (3, _), (4, _), (5, _), (6, _)]) dX12_all_100 rfl (by decide) rfl ?_
          refine x_goto 33 dX12_all_103 (by decide) ?_
          refine x_sub [1, 2, 3, 4, 5, 6, 7, 0] rfl ?_
          first
            | (refine ih _ (by omega) (r + 1) J L nx (by omega) rfl ⟨fun i j hi hj hh b1 b2 => ?_, s2⟩ hF
               by_cases e : i = p ∧ j = r
               · obtain ⟨e1, e2⟩ := e
                 subst e1; subst e2
                 first
                   | (rcases hr43 with h | h; (exfalso; omega); (rw [b1] at h; exact absurd h.2 (by decide)))
                   | (rcases hr52 with h | h; (rw [b2] at h; exact absurd h.2 (by decide)); (exfalso; omega))
                   | exact Or.inl (by omega)
                   | exact Or.inr (by omega)
               · exact s1 i j hi hj (by omega) b1 b2)
            | (refine ih _ (by omega) (r + 1) J63 L nx (by omega) rfl ⟨fun i j hi hj hh b1 b2 => ?_, s2⟩ (FD.tr hF f63)
               by_cases e : i = p ∧ j = r
               · obtain ⟨e1, e2⟩ := e
                 subst e1; subst e2
                 first
                   | (rcases hr43 with h | h; (exfalso; omega); (rw [b1] at h; exact absurd h.2 (by decide)))
                   | (rcases hr52 with h | h; (rw [b2] at h; exact absurd h.2 (by decide)); (exfalso; omega))
                   | exact Or.inl (by omega)
                   | exact Or.inr (by omega)
               · exact s1 i j hi hj (by omega) b1 b2)
            | (refine ih _ (by omega) (r + 1) J75 L nx (by omega) rfl ⟨fun i j hi hj hh b1 b2 => ?_, s2⟩ (FD.tr (FD.tr hF f63) f75)
               by_cases e : i = p ∧ j = r
               · obtain ⟨e1, e2⟩ := e
                 subst e1; subst e2
                 first
                   | (rcases hr43 with h | h; (exfalso; omega); (rw [b1] at h; exact absurd h.2 (by decide)))
                   | (rcases hr52 with h | h; (rw [b2] at h; exact absurd h.2 (by decide)); (exfalso; omega))
                   | exact Or.inl (by omega)
                   | exact Or.inr (by omega)
               · exact s1 i j hi hj (by omega) b1 b2)
            | (refine ih _ (by omega) (r + 1) J91 (cstA A tx p r) r (by omega) rfl ⟨fun i j hi hj hh b1 b2 => ?_, Or.inr ⟨by omega, by omega, (by rcases hr52 with h | h; (exfalso; omega); exact h.2), ⟨p, hp6, (by rcases hr43 with h | h; exact h.2; exfalso; omega), rfl⟩⟩⟩ (FD.tr (FD.tr (FD.tr hF f63) f75) f91)
               by_cases e : i = p ∧ j = r
               · obtain ⟨e1, e2⟩ := e
                 subst e1; subst e2
                 exact Or.inr (Int.le_refl _)
               · have := s1 i j hi hj (by omega) b1 b2
                 omega)
        · have hpr : p ≠ r := (by
            intro e
            subst e
            rcases hr43 with h | h
            · rcases hr52 with h2 | h2
              · omega
              · rw [h.2] at h2; exact absurd h2.2 (by decide)
            · omega)
          refine x_aload_n dX12_all_58 rfl ?_
          refine x_iload dX12_all_59 rfl ?_
          refine x_iload dX12_all_61 rfl ?_
          refine x_callV2 (mc1 := 0) (ms1 := 0) dX12_all_63 cv_RX12_420 (ci := 12) (k_ob_306 cs) rfl (Nat.le_of_ble_eq_true rfl) (n1 := n - 1) (by omega) (by omega) (by omega) ?_
          refine sp_X12_costOf cs aJ hN tJ ⟨by omega, by omega⟩ hpr (by omega) (fun J63 f63 => ?_)
          refine x_iconst dX12_all_66 ?_
          refine x_icmp_eq 100 dX12_all_67 (by decide) ⟨(by omega), (by omega)⟩ (fun w67 => ?_) (fun w67 => ?_)
          · refine x_iinc (lv2 := [(7, _), (0, _), (1, _), (2, _), (3, _), (4, _), (5, _), (6, _)]) dX12_all_100 rfl (by decide) rfl ?_
            refine x_goto 33 dX12_all_103 (by decide) ?_
            refine x_sub [1, 2, 3, 4, 5, 6, 7, 0] rfl ?_
            first
              | (refine ih _ (by omega) (r + 1) J L nx (by omega) rfl ⟨fun i j hi hj hh b1 b2 => ?_, s2⟩ hF
                 by_cases e : i = p ∧ j = r
                 · obtain ⟨e1, e2⟩ := e
                   subst e1; subst e2
                   first
                     | (rcases hr43 with h | h; (exfalso; omega); (rw [b1] at h; exact absurd h.2 (by decide)))
                     | (rcases hr52 with h | h; (rw [b2] at h; exact absurd h.2 (by decide)); (exfalso; omega))
                     | exact Or.inl (by omega)
                     | exact Or.inr (by omega)
                 · exact s1 i j hi hj (by omega) b1 b2)
              | (refine ih _ (by omega) (r + 1) J63 L nx (by omega) rfl ⟨fun i j hi hj hh b1 b2 => ?_, s2⟩ (FD.tr hF f63)
                 by_cases e : i = p ∧ j = r
                 · obtain ⟨e1, e2⟩ := e
                   subst e1; subst e2
                   first
                     | (rcases hr43 with h | h; (exfalso; omega); (rw [b1] at h; exact absurd h.2 (by decide)))
                     | (rcases hr52 with h | h; (rw [b2] at h; exact absurd h.2 (by decide)); (exfalso; omega))
                     | exact Or.inl (by omega)
                     | exact Or.inr (by omega)
                 · exact s1 i j hi hj (by omega) b1 b2)
              | (refine ih _ (by omega) (r + 1) J75 L nx (by omega) rfl ⟨fun i j hi hj hh b1 b2 => ?_, s2⟩ (FD.tr (FD.tr hF f63) f75)
                 by_cases e : i = p ∧ j = r
                 · obtain ⟨e1, e2⟩ := e
                   subst e1; subst e2
                   first
                     | (rcases hr43 with h | h; (exfalso; omega); (rw [b1] at h; exact absurd h.2 (by decide)))
                     | (rcases hr52 with h | h; (rw [b2] at h; exact absurd h.2 (by decide)); (exfalso; omega))
                     | exact Or.inl (by omega)
                     | exact Or.inr (by omega)
                 · exact s1 i j hi hj (by omega) b1 b2)
              | (refine ih _ (by omega) (r + 1) J91 (cstA A tx p r) r (by omega) rfl ⟨fun i j hi hj hh b1 b2 => ?_, Or.inr ⟨by omega, by omega, (by rcases hr52 with h | h; (exfalso; omega); exact h.2), ⟨p, hp6, (by rcases hr43 with h | h; exact h.2; exfalso; omega), rfl⟩⟩⟩ (FD.tr (FD.tr (FD.tr hF f63) f75) f91)
                 by_cases e : i = p ∧ j = r
                 · obtain ⟨e1, e2⟩ := e
                   subst e1; subst e2
                   exact Or.inr (Int.le_refl _)
                 · have := s1 i j hi hj (by omega) b1 b2
                   omega)
          · refine x_aload_n dX12_all_70 rfl ?_
            refine x_iload dX12_all_71 rfl ?_
            refine x_iload dX12_all_73 rfl ?_
            refine x_callV2 (mc1 := 0) (ms1 := 0) dX12_all_75 cv_RX12_420 (ci := 12) (k_ob_306 cs) rfl (Nat.le_of_ble_eq_true rfl) (n1 := n - 1) (by omega) (by omega) (by omega) ?_
            refine sp_X12_costOf cs (by rw [f63 307 (by omega) (by omega) (by omega)]; exact aJ) hN (by rw [f63 309 (by omega) (by omega) (by omega)]; exact tJ) ⟨by omega, by omega⟩ hpr (by omega) (fun J75 f75 => ?_)
            refine x_iload dX12_all_78 rfl ?_
            refine x_icmp_lt 86 dX12_all_80 (by decide) ⟨(by omega), (by omega)⟩ (fun w80 => ?_) (fun w80 => ?_)
            · refine x_aload_n dX12_all_86 rfl ?_
              refine x_iload dX12_all_87 rfl ?_
              refine x_iload dX12_all_89 rfl ?_
              refine x_callV2 (mc1 := 0) (ms1 := 0) dX12_all_91 cv_RX12_420 (ci := 12) (k_ob_306 cs) rfl (Nat.le_of_ble_eq_true rfl) (n1 := n - 1) (by omega) (by omega) (by omega) ?_
              refine sp_X12_costOf cs (by rw [f75 307 (by omega) (by omega) (by omega), f63 307 (by omega) (by omega) (by omega)]; exact aJ) hN (by rw [f75 309 (by omega) (by omega) (by omega), f63 309 (by omega) (by omega) (by omega)]; exact tJ) ⟨by omega, by omega⟩ hpr (by omega) (fun J91 f91 => ?_)
              refine x_istore (lv2 := [(4, _), (0, _), (1, _), (2, _), (3, _), (5, _), (6, _), (7, _)]) dX12_all_94 (by decide) rfl ?_
              refine x_iload dX12_all_96 rfl ?_
              refine x_istore (lv2 := [(5, _), (4, _), (0, _), (1, _), (2, _), (3, _), (6, _), (7, _)]) dX12_all_98 (by decide) rfl ?_
              refine x_iinc (lv2 := [(7, _), (5, _), (4, _), (0, _), (1, _), (2, _), (3, _), (6, _)]) dX12_all_100 rfl (by decide) rfl ?_
              refine x_goto 33 dX12_all_103 (by decide) ?_
              refine x_sub [3, 4, 5, 6, 2, 1, 7, 0] rfl ?_
              first
                | (refine ih _ (by omega) (r + 1) J L nx (by omega) rfl ⟨fun i j hi hj hh b1 b2 => ?_, s2⟩ hF
                   by_cases e : i = p ∧ j = r
                   · obtain ⟨e1, e2⟩ := e
                     subst e1; subst e2
                     first
                       | (rcases hr43 with h | h; (exfalso; omega); (rw [b1] at h; exact absurd h.2 (by decide)))
                       | (rcases hr52 with h | h; (rw [b2] at h; exact absurd h.2 (by decide)); (exfalso; omega))
                       | exact Or.inl (by omega)
                       | exact Or.inr (by omega)
                   · exact s1 i j hi hj (by omega) b1 b2)
                | (refine ih _ (by omega) (r + 1) J63 L nx (by omega) rfl ⟨fun i j hi hj hh b1 b2 => ?_, s2⟩ (FD.tr hF f63)
                   by_cases e : i = p ∧ j = r
                   · obtain ⟨e1, e2⟩ := e
                     subst e1; subst e2
                     first
                       | (rcases hr43 with h | h; (exfalso; omega); (rw [b1] at h; exact absurd h.2 (by decide)))
                       | (rcases hr52 with h | h; (rw [b2] at h; exact absurd h.2 (by decide)); (exfalso; omega))
                       | exact Or.inl (by omega)
                       | exact Or.inr (by omega)
                   · exact s1 i j hi hj (by omega) b1 b2)
                | (refine ih _ (by omega) (r + 1) J75 L nx (by omega) rfl ⟨fun i j hi hj hh b1 b2 => ?_, s2⟩ (FD.tr (FD.tr hF f63) f75)
                   by_cases e : i = p ∧ j = r
                   · obtain ⟨e1, e2⟩ := e
                     subst e1; subst e2
                     first
                       | (rcases hr43 with h | h; (exfalso; omega); (rw [b1] at h; exact absurd h.2 (by decide)))
                       | (rcases hr52 with h | h; (rw [b2] at h; exact absurd h.2 (by decide)); (exfalso; omega))
                       | exact Or.inl (by omega)
                       | exact Or.inr (by omega)
                   · exact s1 i j hi hj (by omega) b1 b2)
                | (refine ih _ (by omega) (r + 1) J91 (cstA A tx p r) r (by omega) rfl ⟨fun i j hi hj hh b1 b2 => ?_, Or.inr ⟨by omega, by omega, (by rcases hr52 with h | h; (exfalso; omega); exact h.2), ⟨p, hp6, (by rcases hr43 with h | h; exact h.2; exfalso; omega), rfl⟩⟩⟩ (FD.tr (FD.tr (FD.tr hF f63) f75) f91)
                   by_cases e : i = p ∧ j = r
                   · obtain ⟨e1, e2⟩ := e
                     subst e1; subst e2
                     exact Or.inr (Int.le_refl _)
                   · have := s1 i j hi hj (by omega) b1 b2
                     omega)
            · refine x_goto 100 dX12_all_83 (by decide) ?_
              refine x_iinc (lv2 := [(7, _), (0, _), (1, _), (2, _), (3, _), (4, _), (5, _), (6, _)]) dX12_all_100 rfl (by decide) rfl ?_
              refine x_goto 33 dX12_all_103 (by decide) ?_
              refine x_sub [1, 2, 3, 4, 5, 6, 7, 0] rfl ?_
              first
                | (refine ih _ (by omega) (r + 1) J L nx (by omega) rfl ⟨fun i j hi hj hh b1 b2 => ?_, s2⟩ hF
                   by_cases e : i = p ∧ j = r
                   · obtain ⟨e1, e2⟩ := e
                     subst e1; subst e2
                     first
                       | (rcases hr43 with h | h; (exfalso; omega); (rw [b1] at h; exact absurd h.2 (by decide)))
                       | (rcases hr52 with h | h; (rw [b2] at h; exact absurd h.2 (by decide)); (exfalso; omega))
                       | exact Or.inl (by omega)
                       | exact Or.inr (by omega)
                   · exact s1 i j hi hj (by omega) b1 b2)
                | (refine ih _ (by omega) (r + 1) J63 L nx (by omega) rfl ⟨fun i j hi hj hh b1 b2 => ?_, s2⟩ (FD.tr hF f63)
                   by_cases e : i = p ∧ j = r
                   · obtain ⟨e1, e2⟩ := e
                     subst e1; subst e2
                     first
                       | (rcases hr43 with h | h; (exfalso; omega); (rw [b1] at h; exact absurd h.2 (by decide)))
                       | (rcases hr52 with h | h; (rw [b2] at h; exact absurd h.2 (by decide)); (exfalso; omega))
                       | exact Or.inl (by omega)
                       | exact Or.inr (by omega)
                   · exact s1 i j hi hj (by omega) b1 b2)
                | (refine ih _ (by omega) (r + 1) J75 L nx (by omega) rfl ⟨fun i j hi hj hh b1 b2 => ?_, s2⟩ (FD.tr (FD.tr hF f63) f75)
                   by_cases e : i = p ∧ j = r
                   · obtain ⟨e1, e2⟩ := e
                     subst e1; subst e2
                     first
                       | (rcases hr43 with h | h; (exfalso; omega); (rw [b1] at h; exact absurd h.2 (by decide)))
                       | (rcases hr52 with h | h; (rw [b2] at h; exact absurd h.2 (by decide)); (exfalso; omega))
                       | exact Or.inl (by omega)
                       | exact Or.inr (by omega)
                   · exact s1 i j hi hj (by omega) b1 b2)
                | (refine ih _ (by omega) (r + 1) J91 (cstA A tx p r) r (by omega) rfl ⟨fun i j hi hj hh b1 b2 => ?_, Or.inr ⟨by omega, by omega, (by rcases hr52 with h | h; (exfalso; omega); exact h.2), ⟨p, hp6, (by rcases hr43 with h | h; exact h.2; exfalso; omega), rfl⟩⟩⟩ (FD.tr (FD.tr (FD.tr hF f63) f75) f91)
                   by_cases e : i = p ∧ j = r
                   · obtain ⟨e1, e2⟩ := e
                     subst e1; subst e2
                     exact Or.inr (Int.le_refl _)
                   · have := s1 i j hi hj (by omega) b1 b2
                     omega)
theorem lp2_all {X k : Nat} {s : Int} (cs : CS S R) (hA : I 307 = A) (hN : BN A) (hT : RTx (I 309) A tx) (hn : 7 ≤ n) (hX : X < 64)  (hK : ∀ J (L : Int) (nx : Nat), SPA (cstA A tx) X L nx 6 0 → FD I J → WP n 0 0 mX12_all Post 112 [(0, .ref (S.2.1 306)), (1, .int (iI (X : Int))), (2, .int (iI s)), (3, .int (iI (k : Int))), (4, .int (iI L)), (5, .int (iI (nx : Int)))] [] 0 0 S J R) : ∀ (d p : Nat) (J : CI) (L : Int) (nx : Nat), p ≤ 6 → 6 - p = d → SPA (cstA A tx) X L nx p 0 → FD I J → WP n 0 0 mX12_all Post 23 [(0, .ref (S.2.1 306)), (1, .int (iI (X : Int))), (2, .int (iI s)), (3, .int (iI (k : Int))), (4, .int (iI L)), (5, .int (iI (nx : Int))), (6, .int (iI (p : Int)))] [] 0 0 S J R := by
  intro d
  induction d using Nat.strongRecOn with
  | ind d ih =>
    intro p J L nx r1 r2 hS hF
    have aJ : J 307 = A := by rw [hF 307 (by omega) (by omega) (by omega)]; exact hA
    have tJ : RTx (J 309) A tx := by rw [hF 309 (by omega) (by omega) (by omega)]; exact hT
    refine x_iload dX12_all_23 rfl ?_
    refine x_bipush dX12_all_25 (by decide) ?_
    refine x_icmp_ge 112 dX12_all_27 (by decide) ⟨(by omega), (by omega)⟩ (fun w27 => ?_) (fun w27 => ?_)
    · refine x_sub [0, 1, 2, 3, 4, 5] rfl ?_
      obtain rfl : p = 6 := by omega
      exact hK J L nx hS hF
    · refine x_iconst dX12_all_30 ?_
      refine x_istore (lv2 := [(7, _), (0, _), (1, _), (2, _), (3, _), (4, _), (5, _), (6, _)]) dX12_all_31 (by decide) rfl ?_
      refine x_sub [1, 2, 3, 4, 5, 6, 7, 0] rfl ?_
      refine lp1_all (I := J) (k := k) (s := s) cs aJ hN tJ hn hX (p := p) (by omega) (fun J1 L1 n1 h1 f1 => ?_) _ 0 J L nx (by omega) rfl hS FD.rf
      refine x_iinc (lv2 := [(6, _), (0, _), (1, _), (2, _), (3, _), (4, _), (5, _)]) dX12_all_106 rfl (by decide) rfl ?_
      refine x_goto 23 dX12_all_109 (by decide) ?_
      refine x_sub [1, 2, 3, 4, 5, 6, 0] rfl ?_
      exact ih _ (by omega) (p + 1) J1 L1 n1 (by omega) rfl h1 (FD.tr hF f1)
theorem lp3_all (cs : CS S R) (hA : I 307 = A) (hN : BN A) (hT : RTx (I 309) A tx) (hn : 7 ≤ n) (hp : ∀ J x, AnsA (cstA A tx) x → FD I J → Post (some (.int (iI x))) S J R) : ∀ (d k : Nat) (J : CI) (X : Nat) (s : Int), 1 ≤ k → k ≤ 6 → 6 - k = d → InvA (cstA A tx) (k - 1) X s → FD I J → WP n 0 0 mX12_all Post 6 [(0, .ref (S.2.1 306)), (1, .int (iI (X : Int))), (2, .int (iI s)), (3, .int (iI (k : Int)))] [] 0 0 S J R := by
  have hc := cst_r (tx := tx) hN
  intro d
  induction d using Nat.strongRecOn with
  | ind d ih =>
    intro k J X s k0 k1 k2 hI hF
    have aJ : J 307 = A := by rw [hF 307 (by omega) (by omega) (by omega)]; exact hA
    have tJ : RTx (J 309) A tx := by rw [hF 309 (by omega) (by omega) (by omega)]; exact hT
    refine x_iload_n dX12_all_6 rfl ?_
    refine x_bipush dX12_all_7 (by decide) ?_
    refine x_icmp_ge 140 dX12_all_9 (by decide) ⟨(by omega), (by omega)⟩ (fun w9 => ?_) (fun w9 => ?_)
    · refine x_iload_n dX12_all_140 rfl ?_
      exact x_ireturn dX12_all_141 rfl (by omega) (by omega) (by obtain rfl : k = 6 := (by omega); exact hp _ s (Inv_e hI) hF)
    · refine x_ldcw (z := 1000000) dX12_all_12 (bw_in (lwt_9 (List.mem_of_getElem? (i := 2) (by decide +kernel))) (by decide +kernel)) ?_
      refine x_istore (lv2 := [(4, _), (0, _), (1, _), (2, _), (3, _)]) dX12_all_15 (by decide) rfl ?_
      refine x_iconst dX12_all_17 ?_
      refine x_istore (lv2 := [(5, _), (4, _), (0, _), (1, _), (2, _), (3, _)]) dX12_all_18 (by decide) rfl ?_
      refine x_iconst dX12_all_20 ?_
      refine x_istore (lv2 := [(6, _), (5, _), (4, _), (0, _), (1, _), (2, _), (3, _)]) dX12_all_21 (by decide) rfl ?_
      refine x_sub [3, 4, 5, 6, 2, 1, 0] rfl ?_
      refine lp2_all (I := J) (k := k) (s := s) cs aJ hN tJ hn hI.1 (fun J1 L nx hS f1 => ?_) _ 0 J 1000000 0 (by omega) rfl ⟨fun i j hi hj hh => by omega, Or.inl ⟨rfl, rfl⟩⟩ FD.rf
      obtain ⟨s1, s2⟩ := hS
      have hX := hI.1
      refine x_iload dX12_all_112 rfl ?_
      refine x_ldcw (z := 1000000) dX12_all_114 (bw_in (lwt_9 (List.mem_of_getElem? (i := 2) (by decide +kernel))) (by decide +kernel)) ?_
      refine x_icmp_ne 122 dX12_all_117 (by decide) ⟨(by omega), (by omega)⟩ (fun w117 => ?_) (fun w117 => ?_)
      · refine x_iload_n dX12_all_122 rfl ?_
        refine x_iconst dX12_all_123 ?_
        refine x_iload dX12_all_124 rfl ?_
        refine x_ishl dX12_all_126 ?_
        rw [shl1_n (by omega)]
        have hpw := pw6 (p := nx) (by omega)
        refine x_ior dX12_all_127 ?_
        rw [orI_n (by omega) (by omega)]
        refine x_istore_n (lv2 := [(1, _), (0, _), (2, _), (3, _), (4, _), (5, _)]) dX12_all_128 (by decide) rfl ?_
        refine x_iload_n dX12_all_129 rfl ?_
        refine x_iload dX12_all_130 rfl ?_
        refine x_iadd dX12_all_132 ?_
        refine x_istore_n (lv2 := [(2, _), (1, _), (0, _), (3, _), (4, _), (5, _)]) dX12_all_133 (by decide) rfl ?_
        refine x_iinc (lv2 := [(3, _), (2, _), (1, _), (0, _), (4, _), (5, _)]) dX12_all_134 rfl (by decide) rfl ?_
        refine x_goto 6 dX12_all_137 (by decide) ?_
        refine x_sub [3, 2, 1, 0] rfl ?_
        have hst : StpA (cstA A tx) X L nx := by
          rcases s2 with h | ⟨g1, g2, g3, g7⟩
          · omega
          · exact ⟨g2, g3, g7, by omega, fun i j hi hj b1 b2 => s1 i j hi hj (Or.inl hi) b1 b2⟩
        have hns := Inv_s hN hc (by omega) hI hst
        rw [show k - 1 + 1 = k + 1 - 1 by omega] at hns
        exact ih _ (by omega) (k + 1) J1 _ _ (by omega) (by omega) rfl hns (FD.tr hF f1)
      · refine x_iconst dX12_all_120 ?_
        exact x_ireturn dX12_all_121 rfl (by omega) (by omega) (hp _ (-1) (Inv_n hN (by omega) hI (fun i j hi hj b1 b2 => by
          have := s1 i j hi hj (Or.inl hi) b1 b2
          have := hc i j
          omega)) (FD.tr hF f1))
theorem sp_X12_all  (cs : CS S R) (hA : I 307 = A) (hN : BN A) (hT : RTx (I 309) A tx) (hn : 7 ≤ n) (hp : ∀ J, FD I J → Post (some (.int (iI (f_all A tx)))) S J R) : Call n 0 0 mX12_all [.ref (S.2.1 306)] S I R Post := by
  refine Call.of (by decide +kernel) (Nat.le_of_ble_eq_true rfl) ?_
  show WP _ _ _ _ _ 0 [(0, _)] [] 0 0 _ _ _
  refine x_iconst dX12_all_0 ?_
  refine x_istore_n (lv2 := [(1, _), (0, _)]) dX12_all_1 (by decide) rfl ?_
  refine x_iconst dX12_all_2 ?_
  refine x_istore_n (lv2 := [(2, _), (1, _), (0, _)]) dX12_all_3 (by decide) rfl ?_
  refine x_iconst dX12_all_4 ?_
  refine x_istore_n (lv2 := [(3, _), (2, _), (1, _), (0, _)]) dX12_all_5 (by decide) rfl ?_
  refine x_sub [3, 2, 1, 0] rfl ?_
  exact lp3_all cs hA hN hT hn (fun J x hx hF => by
    have e : x = f_all A tx := Ans_u hx (all_ans hN (cst_r hN))
    rw [e]; exact hp J hF) _ 1 I 1 0 (by omega) (by omega) rfl Inv_0 FD.rf
end Ref27
