section Ref19
variable {n mc ms : Nat} {M : Md} {pc : Nat} {lv : List (Nat × Value)} {st : List Value} {k j : Nat} {Post : PT} {S : Sh} {I : CI} {R : CR} {A : Nat → Int} {tx : Nat → Nat → Int}
def prK (sp : Nat → Nat) (s p : Nat) : Nat → Int
  | 0 => 0
  | k + 1 => prK sp s p k + (if s.testBit p = true ∧ s.testBit k = false ∧ (sp p).testBit k = true then 1 else 0)
theorem prK_b {sp : Nat → Nat} {s p : Nat} : ∀ k : Nat, 0 ≤ prK sp s p k ∧ prK sp s p k ≤ k := by
  intro k
  induction k with
  | zero => simp [prK]
  | succ k ih => simp only [prK]; split <;> omega
theorem prK_6 {sp : Nat → Nat} {s p : Nat} (h : sp p < 64) : prK sp s p 6 = if s.testBit p then (bcN (sdN (sp p) s) : Int) else 0 := by
  have h0 : ∀ x : Fin 64, bcN x.val = (if x.val.testBit 0 then 1 else 0) + (if x.val.testBit 1 then 1 else 0) + (if x.val.testBit 2 then 1 else 0) + (if x.val.testBit 3 then 1 else 0) + (if x.val.testBit 4 then 1 else 0) + (if x.val.testBit 5 then 1 else 0) := by decide +kernel
  have hl : sdN (sp p) s < 64 := by have := sdN_le (sp p) s; omega
  have e := h0 ⟨sdN (sp p) s, hl⟩
  dsimp only at e
  have ht : ∀ k, (sdN (sp p) s).testBit k = ((sp p).testBit k && !s.testBit k) := fun k => sdN_tb (by omega)
  cases hs : s.testBit p
  · simp [prK, hs]
  · rw [if_pos rfl, e, ht, ht, ht, ht, ht, ht]
    simp only [prK, hs]
    cases s.testBit 0 <;> cases s.testBit 1 <;> cases s.testBit 2 <;> cases s.testBit 3 <;> cases s.testBit 4 <;> cases s.testBit 5 <;> cases (sp p).testBit 0 <;> cases (sp p).testBit 1 <;> cases (sp p).testBit 2 <;> cases (sp p).testBit 3 <;> cases (sp p).testBit 4 <;> cases (sp p).testBit 5 <;> rfl
theorem pq_s {sp : Nat → Nat} {s p : Nat} (h : sp p < 64) : pqK sp s (p + 1) = pqK sp s p + prK sp s p 6 := by
  rw [prK_6 h]
  simp only [pqK]
  cases s.testBit p <;> simp
theorem pq_36 {sp : Nat → Nat} {s : Nat} (h : ∀ i, i < 6 → sp i < 64) : ∀ i : Nat, i ≤ 6 → pqK sp s i ≤ 6 * i := by
  intro i
  induction i with
  | zero => intro _; simp [pqK]
  | succ i ih =>
    intro hi
    have h1 := ih (by omega)
    have h2 := bc_64 (x := sdN (sp i) s) (by have := sdN_le (sp i) s; have := h i (by omega); omega)
    simp only [pqK]
    split <;> omega
theorem dX12_cut_0 : decode prog_14_method_120_code 0 = .ok (.iload_n 1, 1) := by decide +kernel
theorem dX12_cut_1 : decode prog_14_method_120_code 1 = .ok (.iload_n 2, 1) := by decide +kernel
theorem dX12_cut_2 : decode prog_14_method_120_code 2 = .ok (.invokestatic 411, 3) := by decide +kernel
theorem dX12_cut_5 : decode prog_14_method_120_code 5 = .ok (.ifCond .ne 5, 3) := by decide +kernel
theorem dX12_cut_8 : decode prog_14_method_120_code 8 = .ok (.iconst (-1), 1) := by decide +kernel
theorem dX12_cut_9 : decode prog_14_method_120_code 9 = .ok (.ireturn, 1) := by decide +kernel
theorem dX12_cut_10 : decode prog_14_method_120_code 10 = .ok (.ldc_w 423, 3) := by decide +kernel
theorem dX12_cut_13 : decode prog_14_method_120_code 13 = .ok (.istore_n 3, 1) := by decide +kernel
theorem dX12_cut_14 : decode prog_14_method_120_code 14 = .ok (.iconst 0, 1) := by decide +kernel
theorem dX12_cut_15 : decode prog_14_method_120_code 15 = .ok (.istore 4, 2) := by decide +kernel
theorem dX12_cut_17 : decode prog_14_method_120_code 17 = .ok (.iload 4, 2) := by decide +kernel
theorem dX12_cut_19 : decode prog_14_method_120_code 19 = .ok (.bipush 64, 2) := by decide +kernel
theorem dX12_cut_21 : decode prog_14_method_120_code 21 = .ok (.if_icmp .ge 119, 3) := by decide +kernel
theorem dX12_cut_24 : decode prog_14_method_120_code 24 = .ok (.iload 4, 2) := by decide +kernel
theorem dX12_cut_26 : decode prog_14_method_120_code 26 = .ok (.iload_n 1, 1) := by decide +kernel
theorem dX12_cut_27 : decode prog_14_method_120_code 27 = .ok (.invokestatic 259, 3) := by decide +kernel
theorem dX12_cut_30 : decode prog_14_method_120_code 30 = .ok (.ifCond .eq 104, 3) := by decide +kernel
theorem dX12_cut_33 : decode prog_14_method_120_code 33 = .ok (.iload 4, 2) := by decide +kernel
theorem dX12_cut_35 : decode prog_14_method_120_code 35 = .ok (.iload_n 2, 1) := by decide +kernel
theorem dX12_cut_36 : decode prog_14_method_120_code 36 = .ok (.invokestatic 259, 3) := by decide +kernel
theorem dX12_cut_39 : decode prog_14_method_120_code 39 = .ok (.ifCond .eq 6, 3) := by decide +kernel
theorem dX12_cut_42 : decode prog_14_method_120_code 42 = .ok (.goto 92, 3) := by decide +kernel
theorem dX12_cut_45 : decode prog_14_method_120_code 45 = .ok (.iconst 0, 1) := by decide +kernel
theorem dX12_cut_46 : decode prog_14_method_120_code 46 = .ok (.istore 5, 2) := by decide +kernel
theorem dX12_cut_48 : decode prog_14_method_120_code 48 = .ok (.iconst 0, 1) := by decide +kernel
theorem dX12_cut_49 : decode prog_14_method_120_code 49 = .ok (.istore 6, 2) := by decide +kernel
theorem dX12_cut_51 : decode prog_14_method_120_code 51 = .ok (.iload 6, 2) := by decide +kernel
theorem dX12_cut_53 : decode prog_14_method_120_code 53 = .ok (.bipush 6, 2) := by decide +kernel
theorem dX12_cut_55 : decode prog_14_method_120_code 55 = .ok (.if_icmp .ge 66, 3) := by decide +kernel
theorem dX12_cut_58 : decode prog_14_method_120_code 58 = .ok (.iconst 0, 1) := by decide +kernel
theorem dX12_cut_59 : decode prog_14_method_120_code 59 = .ok (.istore 7, 2) := by decide +kernel
theorem dX12_cut_61 : decode prog_14_method_120_code 61 = .ok (.iload 7, 2) := by decide +kernel
theorem dX12_cut_63 : decode prog_14_method_120_code 63 = .ok (.bipush 6, 2) := by decide +kernel
theorem dX12_cut_65 : decode prog_14_method_120_code 65 = .ok (.if_icmp .ge 50, 3) := by decide +kernel
theorem dX12_cut_68 : decode prog_14_method_120_code 68 = .ok (.iload 5, 2) := by decide +kernel
theorem dX12_cut_70 : decode prog_14_method_120_code 70 = .ok (.iload 4, 2) := by decide +kernel
theorem dX12_cut_72 : decode prog_14_method_120_code 72 = .ok (.iload 6, 2) := by decide +kernel
theorem dX12_cut_74 : decode prog_14_method_120_code 74 = .ok (.invokestatic 259, 3) := by decide +kernel
theorem dX12_cut_77 : decode prog_14_method_120_code 77 = .ok (.ifCond .eq 28, 3) := by decide +kernel
theorem dX12_cut_80 : decode prog_14_method_120_code 80 = .ok (.iload 4, 2) := by decide +kernel
theorem dX12_cut_82 : decode prog_14_method_120_code 82 = .ok (.iload 7, 2) := by decide +kernel
theorem dX12_cut_84 : decode prog_14_method_120_code 84 = .ok (.invokestatic 259, 3) := by decide +kernel
theorem dX12_cut_87 : decode prog_14_method_120_code 87 = .ok (.ifCond .ne 18, 3) := by decide +kernel
theorem dX12_cut_90 : decode prog_14_method_120_code 90 = .ok (.aload_n 0, 1) := by decide +kernel
theorem dX12_cut_91 : decode prog_14_method_120_code 91 = .ok (.iload 6, 2) := by decide +kernel
theorem dX12_cut_93 : decode prog_14_method_120_code 93 = .ok (.iload 7, 2) := by decide +kernel
theorem dX12_cut_95 : decode prog_14_method_120_code 95 = .ok (.invokevirtual 414, 3) := by decide +kernel
theorem dX12_cut_98 : decode prog_14_method_120_code 98 = .ok (.ifCond .eq 7, 3) := by decide +kernel
theorem dX12_cut_101 : decode prog_14_method_120_code 101 = .ok (.iconst 1, 1) := by decide +kernel
theorem dX12_cut_102 : decode prog_14_method_120_code 102 = .ok (.goto 4, 3) := by decide +kernel
theorem dX12_cut_105 : decode prog_14_method_120_code 105 = .ok (.iconst 0, 1) := by decide +kernel
theorem dX12_cut_106 : decode prog_14_method_120_code 106 = .ok (.iadd, 1) := by decide +kernel
theorem dX12_cut_107 : decode prog_14_method_120_code 107 = .ok (.istore 5, 2) := by decide +kernel
theorem dX12_cut_109 : decode prog_14_method_120_code 109 = .ok (.iinc 7 1, 3) := by decide +kernel
theorem dX12_cut_112 : decode prog_14_method_120_code 112 = .ok (.goto (-51), 3) := by decide +kernel
theorem dX12_cut_115 : decode prog_14_method_120_code 115 = .ok (.iinc 6 1, 3) := by decide +kernel
theorem dX12_cut_118 : decode prog_14_method_120_code 118 = .ok (.goto (-67), 3) := by decide +kernel
theorem dX12_cut_121 : decode prog_14_method_120_code 121 = .ok (.iload 5, 2) := by decide +kernel
theorem dX12_cut_123 : decode prog_14_method_120_code 123 = .ok (.iload_n 3, 1) := by decide +kernel
theorem dX12_cut_124 : decode prog_14_method_120_code 124 = .ok (.if_icmp .ge 8, 3) := by decide +kernel
theorem dX12_cut_127 : decode prog_14_method_120_code 127 = .ok (.iload 5, 2) := by decide +kernel
theorem dX12_cut_129 : decode prog_14_method_120_code 129 = .ok (.goto 4, 3) := by decide +kernel
theorem dX12_cut_132 : decode prog_14_method_120_code 132 = .ok (.iload_n 3, 1) := by decide +kernel
theorem dX12_cut_133 : decode prog_14_method_120_code 133 = .ok (.istore_n 3, 1) := by decide +kernel
theorem dX12_cut_134 : decode prog_14_method_120_code 134 = .ok (.iinc 4 1, 3) := by decide +kernel
theorem dX12_cut_137 : decode prog_14_method_120_code 137 = .ok (.goto (-120), 3) := by decide +kernel
theorem dX12_cut_140 : decode prog_14_method_120_code 140 = .ok (.iload_n 3, 1) := by decide +kernel
theorem dX12_cut_141 : decode prog_14_method_120_code 141 = .ok (.ireturn, 1) := by decide +kernel
theorem lp1_cut {a b s : Nat} {L : Int} (cs : CS S R) (hA : I 307 = A) (hb : BA A) (hs : s < 64) (hn : 3 ≤ n)  {p : Nat} (hp6 : p < 6) {c : Int} (hc : 0 ≤ c ∧ c ≤ 100) (hK : WP n 0 0 mX12_cut Post 115 [(0, .ref (S.2.1 306)), (1, .int (iI (a : Int))), (2, .int (iI (b : Int))), (3, .int (iI L)), (4, .int (iI (s : Int))), (5, .int (iI (c + prK (spA A) s p 6))), (6, .int (iI (p : Int)))] [] 0 0 S I R) : ∀ (d r : Nat), r ≤ 6 → 6 - r = d → WP n 0 0 mX12_cut Post 61 [(0, .ref (S.2.1 306)), (1, .int (iI (a : Int))), (2, .int (iI (b : Int))), (3, .int (iI L)), (4, .int (iI (s : Int))), (5, .int (iI (c + prK (spA A) s p r))), (6, .int (iI (p : Int))), (7, .int (iI (r : Int)))] [] 0 0 S I R := by
  intro d
  induction d using Nat.strongRecOn with
  | ind d ih =>
    intro r r1 r2
    have hpr := prK_b (sp := spA A) (s := s) (p := p) r
    refine x_iload dX12_cut_61 rfl ?_
    refine x_bipush dX12_cut_63 (by decide) ?_
    refine x_icmp_ge 115 dX12_cut_65 (by decide) ⟨(by omega), (by omega)⟩ (fun w65 => ?_) (fun w65 => ?_)
    · refine x_sub [0, 1, 2, 3, 4, 5, 6] rfl ?_
      obtain rfl : r = 6 := by omega
      exact hK
    · refine x_iload dX12_cut_68 rfl ?_
      refine x_iload dX12_cut_70 rfl ?_
      refine x_iload dX12_cut_72 rfl ?_
      refine x_callS2 (mc1 := 0) (ms1 := 0) dX12_cut_74 cv_RX12_259 (Nat.le_of_ble_eq_true rfl) (n1 := n - 1) (by omega) (by omega) (by omega) ?_
      refine sp_X12_has (by omega) (by omega) (fun r74 hr74 => ?_)
      refine x_if_eq 105 dX12_cut_77 (by decide) (by omega) (fun w77 => ?_) (fun w77 => ?_)
      · refine x_iconst dX12_cut_105 ?_
        refine x_iadd dX12_cut_106 ?_
        refine x_istore (lv2 := [(5, _), (0, _), (1, _), (2, _), (3, _), (4, _), (6, _), (7, _)]) dX12_cut_107 (by decide) rfl ?_
        refine x_iinc (lv2 := [(7, _), (5, _), (0, _), (1, _), (2, _), (3, _), (4, _), (6, _)]) dX12_cut_109 rfl (by decide) rfl ?_
        refine x_goto 61 dX12_cut_112 (by decide) ?_
        refine x_sub [2, 3, 4, 5, 6, 1, 7, 0] rfl ?_
        have hg := ih _ (by omega) (r + 1) (by omega) rfl
        first
          | (rw [show prK (spA A) s p (r + 1) = prK (spA A) s p r + 1 from congrArg _ (if_pos ⟨by rcases hr74 with h | h; exact h.2; exfalso; omega, by rcases hr84 with h | h; exfalso; omega; exact h.2, by rcases hr95 with h | h; exact h.2; exfalso; omega⟩), ← Int.add_assoc] at hg
             exact hg)
          | (rw [show prK (spA A) s p (r + 1) = prK (spA A) s p r + 0 from congrArg _ (if_neg (fun hh => by
               first
                 | (rcases hr74 with h | h; omega; rw [hh.1] at h; exact absurd h.2 (by decide))
                 | (rcases hr84 with h | h; rw [hh.2.1] at h; exact absurd h.2 (by decide); omega)
                 | (rcases hr95 with h | h; omega; rw [hh.2.2] at h; exact absurd h.2 (by decide)))), ← Int.add_assoc] at hg
             exact hg)
      · refine x_iload dX12_cut_80 rfl ?_
        refine x_iload dX12_cut_82 rfl ?_
        refine x_callS2 (mc1 := 0) (ms1 := 0) dX12_cut_84 cv_RX12_259 (Nat.le_of_ble_eq_true rfl) (n1 := n - 1) (by omega) (by omega) (by omega) ?_
        refine sp_X12_has (by omega) (by omega) (fun r84 hr84 => ?_)
        refine x_if_ne 105 dX12_cut_87 (by decide) (by omega) (fun w87 => ?_) (fun w87 => ?_)
        · refine x_iconst dX12_cut_105 ?_
          refine x_iadd dX12_cut_106 ?_
          refine x_istore (lv2 := [(5, _), (0, _), (1, _), (2, _), (3, _), (4, _), (6, _), (7, _)]) dX12_cut_107 (by decide) rfl ?_
          refine x_iinc (lv2 := [(7, _), (5, _), (0, _), (1, _), (2, _), (3, _), (4, _), (6, _)]) dX12_cut_109 rfl (by decide) rfl ?_
          refine x_goto 61 dX12_cut_112 (by decide) ?_
          refine x_sub [2, 3, 4, 5, 6, 1, 7, 0] rfl ?_
          have hg := ih _ (by omega) (r + 1) (by omega) rfl
          first
            | (rw [show prK (spA A) s p (r + 1) = prK (spA A) s p r + 1 from congrArg _ (if_pos ⟨by rcases hr74 with h | h; exact h.2; exfalso; omega, by rcases hr84 with h | h; exfalso; omega; exact h.2, by rcases hr95 with h | h; exact h.2; exfalso; omega⟩), ← Int.add_assoc] at hg
               exact hg)
            | (rw [show prK (spA A) s p (r + 1) = prK (spA A) s p r + 0 from congrArg _ (if_neg (fun hh => by
                 first
                   | (rcases hr74 with h | h; omega; rw [hh.1] at h; exact absurd h.2 (by decide))
                   | (rcases hr84 with h | h; rw [hh.2.1] at h; exact absurd h.2 (by decide); omega)
                   | (rcases hr95 with h | h; omega; rw [hh.2.2] at h; exact absurd h.2 (by decide)))), ← Int.add_assoc] at hg
               exact hg)
        · refine x_aload_n dX12_cut_90 rfl ?_
          refine x_iload dX12_cut_91 rfl ?_
          refine x_iload dX12_cut_93 rfl ?_
          refine x_callV2 (mc1 := 0) (ms1 := 0) dX12_cut_95 cv_RX12_414 (ci := 12) (k_ob_306 cs) rfl (Nat.le_of_ble_eq_true rfl) (n1 := n - 1) (by omega) (by omega) (by omega) ?_
          refine sp_X12_doSpeak cs hA (BA_bn hb) (BA_dif hb) ⟨by omega, by omega⟩ (by omega) (fun r95 hr95 => ?_)
          refine x_if_eq 105 dX12_cut_98 (by decide) (by omega) (fun w98 => ?_) (fun w98 => ?_)
          · refine x_iconst dX12_cut_105 ?_
            refine x_iadd dX12_cut_106 ?_
            refine x_istore (lv2 := [(5, _), (0, _), (1, _), (2, _), (3, _), (4, _), (6, _), (7, _)]) dX12_cut_107 (by decide) rfl ?_
            refine x_iinc (lv2 := [(7, _), (5, _), (0, _), (1, _), (2, _), (3, _), (4, _), (6, _)]) dX12_cut_109 rfl (by decide) rfl ?_
            refine x_goto 61 dX12_cut_112 (by decide) ?_
            refine x_sub [2, 3, 4, 5, 6, 1, 7, 0] rfl ?_
            have hg := ih _ (by omega) (r + 1) (by omega) rfl
            first
              | (rw [show prK (spA A) s p (r + 1) = prK (spA A) s p r + 1 from congrArg _ (if_pos ⟨by rcases hr74 with h | h; exact h.2; exfalso; omega, by rcases hr84 with h | h; exfalso; omega; exact h.2, by rcases hr95 with h | h; exact h.2; exfalso; omega⟩), ← Int.add_assoc] at hg
                 exact hg)
              | (rw [show prK (spA A) s p (r + 1) = prK (spA A) s p r + 0 from congrArg _ (if_neg (fun hh => by
                   first
                     | (rcases hr74 with h | h; omega; rw [hh.1] at h; exact absurd h.2 (by decide))
                     | (rcases hr84 with h | h; rw [hh.2.1] at h; exact absurd h.2 (by decide); omega)
                     | (rcases hr95 with h | h; omega; rw [hh.2.2] at h; exact absurd h.2 (by decide)))), ← Int.add_assoc] at hg
                 exact hg)
          · refine x_iconst dX12_cut_101 ?_
            refine x_goto 106 dX12_cut_102 (by decide) ?_
            refine x_iadd dX12_cut_106 ?_
            refine x_istore (lv2 := [(5, _), (0, _), (1, _), (2, _), (3, _), (4, _), (6, _), (7, _)]) dX12_cut_107 (by decide) rfl ?_
            refine x_iinc (lv2 := [(7, _), (5, _), (0, _), (1, _), (2, _), (3, _), (4, _), (6, _)]) dX12_cut_109 rfl (by decide) rfl ?_
            refine x_goto 61 dX12_cut_112 (by decide) ?_
            refine x_sub [2, 3, 4, 5, 6, 1, 7, 0] rfl ?_
            have hg := ih _ (by omega) (r + 1) (by omega) rfl
            first
              | (rw [show prK (spA A) s p (r + 1) = prK (spA A) s p r + 1 from congrArg _ (if_pos ⟨by rcases hr74 with h | h; exact h.2; exfalso; omega, by rcases hr84 with h | h; exfalso; omega; exact h.2, by rcases hr95 with h | h; exact h.2; exfalso; omega⟩), ← Int.add_assoc] at hg
                 exact hg)
              | (rw [show prK (spA A) s p (r + 1) = prK (spA A) s p r + 0 from congrArg _ (if_neg (fun hh => by
                   first
                     | (rcases hr74 with h | h; omega; rw [hh.1] at h; exact absurd h.2 (by decide))
                     | (rcases hr84 with h | h; rw [hh.2.1] at h; exact absurd h.2 (by decide); omega)
                     | (rcases hr95 with h | h; omega; rw [hh.2.2] at h; exact absurd h.2 (by decide)))), ← Int.add_assoc] at hg
                 exact hg)
theorem lp2_cut {a b s : Nat} {L : Int} (cs : CS S R) (hA : I 307 = A) (hb : BA A) (hs : s < 64) (hn : 3 ≤ n)  (hK : WP n 0 0 mX12_cut Post 121 [(0, .ref (S.2.1 306)), (1, .int (iI (a : Int))), (2, .int (iI (b : Int))), (3, .int (iI L)), (4, .int (iI (s : Int))), (5, .int (iI (pqK (spA A) s 6)))] [] 0 0 S I R) : ∀ (d p : Nat), p ≤ 6 → 6 - p = d → WP n 0 0 mX12_cut Post 51 [(0, .ref (S.2.1 306)), (1, .int (iI (a : Int))), (2, .int (iI (b : Int))), (3, .int (iI L)), (4, .int (iI (s : Int))), (5, .int (iI (pqK (spA A) s p))), (6, .int (iI (p : Int)))] [] 0 0 S I R := by
  intro d
  induction d using Nat.strongRecOn with
  | ind d ih =>
    intro p p1 p2
    have hpq := pqK_b (sp := spA A) (s := s) p
    refine x_iload dX12_cut_51 rfl ?_
    refine x_bipush dX12_cut_53 (by decide) ?_
    refine x_icmp_ge 121 dX12_cut_55 (by decide) ⟨(by omega), (by omega)⟩ (fun w55 => ?_) (fun w55 => ?_)
    · refine x_sub [0, 1, 2, 3, 4, 5] rfl ?_
      obtain rfl : p = 6 := by omega
      exact hK
    · refine x_iconst dX12_cut_58 ?_
      refine x_istore (lv2 := [(7, _), (0, _), (1, _), (2, _), (3, _), (4, _), (5, _), (6, _)]) dX12_cut_59 (by decide) rfl ?_
      refine x_sub [1, 2, 3, 4, 5, 6, 7, 0] rfl ?_
      have hz : pqK (spA A) s p = pqK (spA A) s p + prK (spA A) s p 0 := by simp [prK]
      rw [hz]
      refine lp1_cut cs hA hb hs hn (p := p) (by omega) (c := pqK (spA A) s p) (by omega) ?_ _ 0 (by omega) rfl
      refine x_iinc (lv2 := [(6, _), (0, _), (1, _), (2, _), (3, _), (4, _), (5, _)]) dX12_cut_115 rfl (by decide) rfl ?_
      refine x_goto 51 dX12_cut_118 (by decide) ?_
      refine x_sub [1, 2, 3, 4, 5, 6, 0] rfl ?_
      rw [← pq_s (spA_lt p)]
      exact ih _ (by omega) (p + 1) (by omega) rfl
theorem lp3_cut {a b : Nat} (cs : CS S R) (hA : I 307 = A) (hb : BA A) (hab : a < 6 ∧ b < 6 ∧ a ≠ b) (hn : 3 ≤ n) (hp : Post (some (.int (iI (cuK (spA A) a b 64)))) S I R) : ∀ (d s : Nat) (L : Int), s ≤ 64 → 64 - s = d → (0 ≤ L ∧ L ≤ 1000000) → cuK (spA A) a b s = (if L ≤ 36 then L else 36) → (2 ^ a < s → L ≤ 36) → WP n 0 0 mX12_cut Post 17 [(0, .ref (S.2.1 306)), (1, .int (iI (a : Int))), (2, .int (iI (b : Int))), (3, .int (iI L)), (4, .int (iI (s : Int)))] [] 0 0 S I R := by
  intro d
  induction d using Nat.strongRecOn with
  | ind d ih =>
    intro s L s1 s2 hL hcu h36
    have hpq := pqK_b (sp := spA A) (s := s) 6
    have hp36 := pq_36 (sp := spA A) (s := s) (fun i _ => spA_lt i) 6 (by omega)
    have hpw := pw6 hab.1
    have hbit : s = 2 ^ a → s.testBit a = true ∧ s.testBit b = false := by
      intro e
      rw [e]
      refine ⟨Nat.testBit_two_pow_self, ?_⟩
      rw [Nat.testBit_two_pow]
      simp; exact hab.2.2
    have es : cuK (spA A) a b (s + 1) = if s.testBit a = true ∧ s.testBit b = false then (if cuK (spA A) a b s ≤ pqK (spA A) s 6 then cuK (spA A) a b s else pqK (spA A) s 6) else cuK (spA A) a b s := rfl
    refine x_iload dX12_cut_17 rfl ?_
    refine x_bipush dX12_cut_19 (by decide) ?_
    refine x_icmp_ge 140 dX12_cut_21 (by decide) ⟨(by omega), (by omega)⟩ (fun w21 => ?_) (fun w21 => ?_)
    · refine x_iload_n dX12_cut_140 rfl ?_
      exact x_ireturn dX12_cut_141 rfl (by omega) (by omega) (by obtain rfl : s = 64 := (by omega); rw [hcu, if_pos (h36 (by omega))] at hp; exact hp)
    · refine x_iload dX12_cut_24 rfl ?_
      refine x_iload_n dX12_cut_26 rfl ?_
      refine x_callS2 (mc1 := 0) (ms1 := 0) dX12_cut_27 cv_RX12_259 (Nat.le_of_ble_eq_true rfl) (n1 := n - 1) (by omega) (by omega) (by omega) ?_
      refine sp_X12_has (by omega) (by omega) (fun r27 hr27 => ?_)
      refine x_if_eq 134 dX12_cut_30 (by decide) (by omega) (fun w30 => ?_) (fun w30 => ?_)
      · refine x_iinc (lv2 := [(4, _), (0, _), (1, _), (2, _), (3, _)]) dX12_cut_134 rfl (by decide) rfl ?_
        refine x_goto 17 dX12_cut_137 (by decide) ?_
        refine x_sub [1, 2, 3, 4, 0] rfl ?_
        first
          | (refine ih _ (by omega) (s + 1) L (by omega) rfl hL ?_ (fun h => ?_)
             · rw [es, if_neg ?_]
               · exact hcu
               · intro hh
                 rcases hr27 with h | h
                 · omega
                 · rw [hh.1] at h; exact absurd h.2 (by decide)
             · by_cases e : s = 2 ^ a
               · exfalso
                 have h2 := hbit e
                 rcases hr27 with h | h
                 · omega
                 · rw [h2.1] at h; exact absurd h.2 (by decide)
               · exact h36 (by omega))
          | (refine ih _ (by omega) (s + 1) L (by omega) rfl hL ?_ (fun h => ?_)
             · rw [es, if_neg ?_]
               · exact hcu
               · intro hh
                 rcases hr36 with h | h
                 · rw [hh.2] at h; exact absurd h.2 (by decide)
                 · omega
             · by_cases e : s = 2 ^ a
               · exfalso
                 have h2 := hbit e
                 rcases hr36 with h | h
                 · rw [h2.2] at h; exact absurd h.2 (by decide)
                 · omega
               · exact h36 (by omega))
      · refine x_iload dX12_cut_33 rfl ?_
        refine x_iload_n dX12_cut_35 rfl ?_
        refine x_callS2 (mc1 := 0) (ms1 := 0) dX12_cut_36 cv_RX12_259 (Nat.le_of_ble_eq_true rfl) (n1 := n - 1) (by omega) (by omega) (by omega) ?_
        refine sp_X12_has (by omega) (by omega) (fun r36 hr36 => ?_)
        refine x_if_eq 45 dX12_cut_39 (by decide) (by omega) (fun w39 => ?_) (fun w39 => ?_)
        · refine x_iconst dX12_cut_45 ?_
          refine x_istore (lv2 := [(5, _), (0, _), (1, _), (2, _), (3, _), (4, _)]) dX12_cut_46 (by decide) rfl ?_
          refine x_iconst dX12_cut_48 ?_
          refine x_istore (lv2 := [(6, _), (5, _), (0, _), (1, _), (2, _), (3, _), (4, _)]) dX12_cut_49 (by decide) rfl ?_
          refine x_sub [2, 3, 4, 5, 6, 1, 0] rfl ?_
          refine lp2_cut cs hA hb (by omega) hn ?_ _ 0 (by omega) rfl
          have hq : s.testBit a = true ∧ s.testBit b = false := ⟨by rcases hr27 with h | h; exact h.2; exfalso; omega, by rcases hr36 with h | h; exfalso; omega; exact h.2⟩
          refine x_iload dX12_cut_121 rfl ?_
          refine x_iload_n dX12_cut_123 rfl ?_
          refine x_icmp_ge 132 dX12_cut_124 (by decide) ⟨(by omega), (by omega)⟩ (fun w124 => ?_) (fun w124 => ?_)
          · refine x_iload_n dX12_cut_132 rfl ?_
            refine x_istore_n (lv2 := [(3, _), (0, _), (1, _), (2, _), (4, _), (5, _)]) dX12_cut_133 (by decide) rfl ?_
            refine x_iinc (lv2 := [(4, _), (3, _), (0, _), (1, _), (2, _), (5, _)]) dX12_cut_134 rfl (by decide) rfl ?_
            refine x_goto 17 dX12_cut_137 (by decide) ?_
            refine x_sub [2, 3, 4, 1, 0] rfl ?_
            first
              | (refine ih _ (by omega) (s + 1) L (by omega) rfl hL ?_ (fun _ => by omega)
                 rw [es, if_pos hq, hcu]
                 by_cases h1 : L ≤ 36
                 · rw [if_pos h1, if_pos (by omega)]
                 · exfalso; omega)
              | (refine ih _ (by omega) (s + 1) (pqK (spA A) s 6) (by omega) rfl (by omega) ?_ (fun _ => by omega)
                 rw [es, if_pos hq, hcu, if_pos (show pqK (spA A) s 6 ≤ 36 by omega)]
                 by_cases h1 : L ≤ 36
                 · rw [if_pos h1, if_neg (by omega)]
                 · rw [if_neg h1]
                   by_cases h2 : (36 : Int) ≤ pqK (spA A) s 6
                   · rw [if_pos h2]; omega
                   · rw [if_neg h2])
          · refine x_iload dX12_cut_127 rfl ?_
            refine x_goto 133 dX12_cut_129 (by decide) ?_
            refine x_istore_n (lv2 := [(3, _), (0, _), (1, _), (2, _), (4, _), (5, _)]) dX12_cut_133 (by decide) rfl ?_
            refine x_iinc (lv2 := [(4, _), (3, _), (0, _), (1, _), (2, _), (5, _)]) dX12_cut_134 rfl (by decide) rfl ?_
            refine x_goto 17 dX12_cut_137 (by decide) ?_
            refine x_sub [2, 3, 4, 1, 0] rfl ?_
            first
              | (refine ih _ (by omega) (s + 1) L (by omega) rfl hL ?_ (fun _ => by omega)
                 rw [es, if_pos hq, hcu]
                 by_cases h1 : L ≤ 36
                 · rw [if_pos h1, if_pos (by omega)]
                 · exfalso; omega)
              | (refine ih _ (by omega) (s + 1) (pqK (spA A) s 6) (by omega) rfl (by omega) ?_ (fun _ => by omega)
                 rw [es, if_pos hq, hcu, if_pos (show pqK (spA A) s 6 ≤ 36 by omega)]
                 by_cases h1 : L ≤ 36
                 · rw [if_pos h1, if_neg (by omega)]
                 · rw [if_neg h1]
                   by_cases h2 : (36 : Int) ≤ pqK (spA A) s 6
                   · rw [if_pos h2]; omega
                   · rw [if_neg h2])
        · refine x_goto 134 dX12_cut_42 (by decide) ?_
          refine x_iinc (lv2 := [(4, _), (0, _), (1, _), (2, _), (3, _)]) dX12_cut_134 rfl (by decide) rfl ?_
          refine x_goto 17 dX12_cut_137 (by decide) ?_
          refine x_sub [1, 2, 3, 4, 0] rfl ?_
          first
            | (refine ih _ (by omega) (s + 1) L (by omega) rfl hL ?_ (fun h => ?_)
               · rw [es, if_neg ?_]
                 · exact hcu
                 · intro hh
                   rcases hr27 with h | h
                   · omega
                   · rw [hh.1] at h; exact absurd h.2 (by decide)
               · by_cases e : s = 2 ^ a
                 · exfalso
                   have h2 := hbit e
                   rcases hr27 with h | h
                   · omega
                   · rw [h2.1] at h; exact absurd h.2 (by decide)
                 · exact h36 (by omega))
            | (refine ih _ (by omega) (s + 1) L (by omega) rfl hL ?_ (fun h => ?_)
               · rw [es, if_neg ?_]
                 · exact hcu
                 · intro hh
                   rcases hr36 with h | h
                   · rw [hh.2] at h; exact absurd h.2 (by decide)
                   · omega
               · by_cases e : s = 2 ^ a
                 · exfalso
                   have h2 := hbit e
                   rcases hr36 with h | h
                   · rw [h2.2] at h; exact absurd h.2 (by decide)
                   · omega
                 · exact h36 (by omega))
theorem sp_X12_cut {a b : Int} (cs : CS S R) (hA : I 307 = A) (hb : BA A) (ha : Rg a) (hb6 : Rg b) (hn : 3 ≤ n) (hp : Post (some (.int (iI (f_cut A a b)))) S I R) : Call n 0 0 mX12_cut [.ref (S.2.1 306), .int (iI a), .int (iI b)] S I R Post := by
  unfold f_cut at hp
  refine Call.of (by decide +kernel) (Nat.le_of_ble_eq_true rfl) ?_
  show WP _ _ _ _ _ 0 [(0, _), (1, _), (2, _)] [] 0 0 _ _ _
  refine x_iload_n dX12_cut_0 rfl ?_
  refine x_iload_n dX12_cut_1 rfl ?_
  refine x_callS2 (mc1 := 0) (ms1 := 0) dX12_cut_2 cv_RX12_411 (Nat.le_of_ble_eq_true rfl) (n1 := n - 1) (by omega) (by omega) (by omega) ?_
  refine sp_X12_areTwo (by omega) (by omega) (by omega) (fun r2 hr2 => ?_)
  refine x_if_ne 10 dX12_cut_5 (by decide) (by omega) (fun w5 => ?_) (fun w5 => ?_)
  · refine x_ldcw (z := 1000000) dX12_cut_10 (bw_in (lwt_9 (List.mem_of_getElem? (i := 2) (by decide +kernel))) (by decide +kernel)) ?_
    refine x_istore_n (lv2 := [(3, _), (0, _), (1, _), (2, _)]) dX12_cut_13 (by decide) rfl ?_
    refine x_iconst dX12_cut_14 ?_
    refine x_istore (lv2 := [(4, _), (3, _), (0, _), (1, _), (2, _)]) dX12_cut_15 (by decide) rfl ?_
    refine x_sub [2, 3, 4, 1, 0] rfl ?_
    rw [if_pos (by omega)] at hp
    rw [asN (a := a) (by omega), asN (a := b) (by omega)]
    exact lp3_cut cs hA hb ⟨by omega, by omega, by omega⟩ hn hp _ 0 1000000 (by omega) rfl (by omega) rfl (fun h => absurd h (Nat.not_lt_zero _))
  · refine x_iconst dX12_cut_8 ?_
    exact x_ireturn dX12_cut_9 rfl (by omega) (by omega) (by rw [if_neg (by omega)] at hp; exact hp)
theorem dX12_best_0 : decode prog_14_method_128_code 0 = .ok (.aload_n 0, 1) := by decide +kernel
theorem dX12_best_1 : decode prog_14_method_128_code 1 = .ok (.iload_n 1, 1) := by decide +kernel
theorem dX12_best_2 : decode prog_14_method_128_code 2 = .ok (.invokevirtual 342, 3) := by decide +kernel
theorem dX12_best_5 : decode prog_14_method_128_code 5 = .ok (.ifCond .eq 21, 3) := by decide +kernel
theorem dX12_best_8 : decode prog_14_method_128_code 8 = .ok (.aload_n 0, 1) := by decide +kernel
theorem dX12_best_9 : decode prog_14_method_128_code 9 = .ok (.iload_n 1, 1) := by decide +kernel
theorem dX12_best_10 : decode prog_14_method_128_code 10 = .ok (.invokevirtual 89, 3) := by decide +kernel
theorem dX12_best_13 : decode prog_14_method_128_code 13 = .ok (.ifCond .eq 13, 3) := by decide +kernel
theorem dX12_best_16 : decode prog_14_method_128_code 16 = .ok (.iload_n 2, 1) := by decide +kernel
theorem dX12_best_17 : decode prog_14_method_128_code 17 = .ok (.iconst 0, 1) := by decide +kernel
theorem dX12_best_18 : decode prog_14_method_128_code 18 = .ok (.bipush 60, 2) := by decide +kernel
theorem dX12_best_20 : decode prog_14_method_128_code 20 = .ok (.invokestatic 81, 3) := by decide +kernel
theorem dX12_best_23 : decode prog_14_method_128_code 23 = .ok (.ifCond .ne 5, 3) := by decide +kernel
theorem dX12_best_26 : decode prog_14_method_128_code 26 = .ok (.iconst (-1), 1) := by decide +kernel
theorem dX12_best_27 : decode prog_14_method_128_code 27 = .ok (.ireturn, 1) := by decide +kernel
theorem dX12_best_28 : decode prog_14_method_128_code 28 = .ok (.iconst 0, 1) := by decide +kernel
theorem dX12_best_29 : decode prog_14_method_128_code 29 = .ok (.istore 4, 2) := by decide +kernel
theorem dX12_best_31 : decode prog_14_method_128_code 31 = .ok (.aload_n 0, 1) := by decide +kernel
theorem dX12_best_32 : decode prog_14_method_128_code 32 = .ok (.iload_n 1, 1) := by decide +kernel
theorem dX12_best_33 : decode prog_14_method_128_code 33 = .ok (.invokevirtual 330, 3) := by decide +kernel
theorem dX12_best_36 : decode prog_14_method_128_code 36 = .ok (.istore 5, 2) := by decide +kernel
theorem dX12_best_38 : decode prog_14_method_128_code 38 = .ok (.iconst 1, 1) := by decide +kernel
theorem dX12_best_39 : decode prog_14_method_128_code 39 = .ok (.istore 6, 2) := by decide +kernel
theorem dX12_best_41 : decode prog_14_method_128_code 41 = .ok (.iload 6, 2) := by decide +kernel
theorem dX12_best_43 : decode prog_14_method_128_code 43 = .ok (.iload_n 2, 1) := by decide +kernel
theorem dX12_best_44 : decode prog_14_method_128_code 44 = .ok (.if_icmp .gt 49, 3) := by decide +kernel
theorem dX12_best_47 : decode prog_14_method_128_code 47 = .ok (.aload_n 0, 1) := by decide +kernel
theorem dX12_best_48 : decode prog_14_method_128_code 48 = .ok (.aload_n 0, 1) := by decide +kernel
theorem dX12_best_49 : decode prog_14_method_128_code 49 = .ok (.getfield 7, 3) := by decide +kernel
theorem dX12_best_52 : decode prog_14_method_128_code 52 = .ok (.iconst 2, 1) := by decide +kernel
theorem dX12_best_53 : decode prog_14_method_128_code 53 = .ok (.iaload, 1) := by decide +kernel
theorem dX12_best_54 : decode prog_14_method_128_code 54 = .ok (.iload_n 1, 1) := by decide +kernel
theorem dX12_best_55 : decode prog_14_method_128_code 55 = .ok (.iload 6, 2) := by decide +kernel
theorem dX12_best_57 : decode prog_14_method_128_code 57 = .ok (.aload_n 0, 1) := by decide +kernel
theorem dX12_best_58 : decode prog_14_method_128_code 58 = .ok (.getfield 7, 3) := by decide +kernel
theorem dX12_best_61 : decode prog_14_method_128_code 61 = .ok (.bipush 9, 2) := by decide +kernel
theorem dX12_best_63 : decode prog_14_method_128_code 63 = .ok (.iaload, 1) := by decide +kernel
theorem dX12_best_64 : decode prog_14_method_128_code 64 = .ok (.invokevirtual 320, 3) := by decide +kernel
theorem dX12_best_67 : decode prog_14_method_128_code 67 = .ok (.istore 7, 2) := by decide +kernel
theorem dX12_best_69 : decode prog_14_method_128_code 69 = .ok (.iload 7, 2) := by decide +kernel
theorem dX12_best_71 : decode prog_14_method_128_code 71 = .ok (.iload 5, 2) := by decide +kernel
theorem dX12_best_73 : decode prog_14_method_128_code 73 = .ok (.if_icmp .lt 6, 3) := by decide +kernel
theorem dX12_best_76 : decode prog_14_method_128_code 76 = .ok (.goto 11, 3) := by decide +kernel
theorem dX12_best_79 : decode prog_14_method_128_code 79 = .ok (.iload 7, 2) := by decide +kernel
theorem dX12_best_81 : decode prog_14_method_128_code 81 = .ok (.istore 5, 2) := by decide +kernel
theorem dX12_best_83 : decode prog_14_method_128_code 83 = .ok (.iload 6, 2) := by decide +kernel
theorem dX12_best_85 : decode prog_14_method_128_code 85 = .ok (.istore 4, 2) := by decide +kernel
theorem dX12_best_87 : decode prog_14_method_128_code 87 = .ok (.iinc 6 1, 3) := by decide +kernel
theorem dX12_best_90 : decode prog_14_method_128_code 90 = .ok (.goto (-49), 3) := by decide +kernel
theorem dX12_best_93 : decode prog_14_method_128_code 93 = .ok (.iload_n 3, 1) := by decide +kernel
theorem dX12_best_94 : decode prog_14_method_128_code 94 = .ok (.ifCond .eq 8, 3) := by decide +kernel
theorem dX12_best_97 : decode prog_14_method_128_code 97 = .ok (.iload 4, 2) := by decide +kernel
theorem dX12_best_99 : decode prog_14_method_128_code 99 = .ok (.goto 5, 3) := by decide +kernel
theorem dX12_best_102 : decode prog_14_method_128_code 102 = .ok (.iload 5, 2) := by decide +kernel
theorem dX12_best_104 : decode prog_14_method_128_code 104 = .ok (.ireturn, 1) := by decide +kernel
theorem ch_2 {q : Nat} : ∀ k : Nat, 0 < k → (chL A tx q k).2 = duesP A tx (A 2) q (chL A tx q k).1 (A 9) := by
  intro k
  induction k with
  | zero => intro h; omega
  | succ k ih =>
    intro _
    simp only [chL]
    split
    · rfl
    · rename_i h
      by_cases hk : 0 < k
      · exact ih hk
      · obtain rfl : k = 0 := by omega
        have := duesP_b A tx (A 2) q ((0 : Nat) : Int) (A 9)
        have e : (chL A tx q 0).2 = 10000 := rfl
        omega
theorem lp_X12_best {q : Nat} {m w : Int} (cs : CS S R) (hA : I 307 = A) (hN : BN A) (hT : RTx (I 309) A tx) (hq : q < 8) (hm : 0 ≤ m ∧ m ≤ 60) (hw : w = 0 ∨ w = 1) (hn : 6 ≤ n) (hp : ∀ I', FD I I' → Post (some (.int (iI (if w = 0 then (chL A tx q (m.toNat + 1)).2 else (chL A tx q (m.toNat + 1)).1)))) S I' R) : ∀ (d k : Nat) (J : CI), 1 ≤ k → (k : Int) ≤ m + 1 → m.toNat + 1 - k = d → FD I J → WP n 0 0 mX12_best Post 41 [(0, .ref (S.2.1 306)), (1, .int (iI (q : Int))), (2, .int (iI m)), (3, .int (iI w)), (4, .int (iI (chL A tx q k).1)), (5, .int (iI (chL A tx q k).2)), (6, .int (iI (k : Int)))] [] 0 0 S J R := by
  obtain ⟨b0, b1, b2, b7, b8, b9, b10, bq⟩ := id hN
  intro d
  induction d using Nat.strongRecOn with
  | ind d ih =>
    intro k J k0 k1 k2 hF
    have aJ : J 307 = A := by rw [hF 307 (by omega) (by omega) (by omega)]; exact hA
    have tJ : RTx (J 309) A tx := by rw [hF 309 (by omega) (by omega) (by omega)]; exact hT
    have hcb := chL_b (A := A) (tx := tx) q k
    have hdb := duesP_b A tx (A 2) q k (A 9)
    have es : chL A tx q (k + 1) = if duesP A tx (A 2) q k (A 9) < (chL A tx q k).2 then ((k : Int), duesP A tx (A 2) q k (A 9)) else chL A tx q k := rfl
    refine x_iload dX12_best_41 rfl ?_
    refine x_iload_n dX12_best_43 rfl ?_
    refine x_icmp_gt 93 dX12_best_44 (by decide) ⟨(by omega), (by omega)⟩ (fun w44 => ?_) (fun w44 => ?_)
    · refine x_iload_n dX12_best_93 rfl ?_
      refine x_if_eq 102 dX12_best_94 (by decide) (by omega) (fun w94 => ?_) (fun w94 => ?_)
      · refine x_iload dX12_best_102 rfl ?_
        exact x_ireturn dX12_best_104 rfl (by omega) (by omega) (by obtain rfl : k = m.toNat + 1 := (by omega); first | (rw [if_pos (by omega)] at hp; exact hp _ hF) | (rw [if_neg (by omega)] at hp; exact hp _ hF))
      · refine x_iload dX12_best_97 rfl ?_
        refine x_goto 104 dX12_best_99 (by decide) ?_
        exact x_ireturn dX12_best_104 rfl (by omega) (by omega) (by obtain rfl : k = m.toNat + 1 := (by omega); first | (rw [if_pos (by omega)] at hp; exact hp _ hF) | (rw [if_neg (by omega)] at hp; exact hp _ hF))
    · refine x_aload_n dX12_best_47 rfl ?_
      refine x_aload_n dX12_best_48 rfl ?_
      refine x_getR (b := 307) dX12_best_49 gf_RX12_7 (k_ob_306 cs) (fun _ _ => rfl) (k_r_306_0 cs) ?_
      refine x_iconst dX12_best_52 ?_
      refine x_ald7 (kk := 2) (v := A 2) dX12_best_53 cs (by omega) (by omega) (by rw [aJ]; repeat (first | rfl | rw [upA_s] | rw [upA_o (by omega)])) ?_
      refine x_iload_n dX12_best_54 rfl ?_
      refine x_iload dX12_best_55 rfl ?_
      refine x_aload_n dX12_best_57 rfl ?_
      refine x_getR (b := 307) dX12_best_58 gf_RX12_7 (k_ob_306 cs) (fun _ _ => rfl) (k_r_306_0 cs) ?_
      refine x_bipush dX12_best_61 (by decide) ?_
      refine x_ald7 (kk := 9) (v := A 9) dX12_best_63 cs (by omega) (by omega) (by rw [aJ]; repeat (first | rfl | rw [upA_s] | rw [upA_o (by omega)])) ?_
      refine x_callV4 (mc1 := 0) (ms1 := 0) dX12_best_64 cv_RX12_320 (ci := 12) (k_ob_306 cs) rfl (Nat.le_of_ble_eq_true rfl) (n1 := n - 1) (by omega) (by omega) (by omega) ?_
      refine sp_X12_duesBy cs aJ hN tJ (by omega) hq (by omega) (by omega) (by omega) (fun J64 f64 => ?_)
      refine x_istore (lv2 := [(7, _), (0, _), (1, _), (2, _), (3, _), (4, _), (5, _), (6, _)]) dX12_best_67 (by decide) rfl ?_
      refine x_iload dX12_best_69 rfl ?_
      refine x_iload dX12_best_71 rfl ?_
      refine x_icmp_lt 79 dX12_best_73 (by decide) ⟨(by omega), (by omega)⟩ (fun w73 => ?_) (fun w73 => ?_)
      · refine x_iload dX12_best_79 rfl ?_
        refine x_istore (lv2 := [(5, _), (7, _), (0, _), (1, _), (2, _), (3, _), (4, _), (6, _)]) dX12_best_81 (by decide) rfl ?_
        refine x_iload dX12_best_83 rfl ?_
        refine x_istore (lv2 := [(4, _), (5, _), (7, _), (0, _), (1, _), (2, _), (3, _), (6, _)]) dX12_best_85 (by decide) rfl ?_
        refine x_iinc (lv2 := [(6, _), (4, _), (5, _), (7, _), (0, _), (1, _), (2, _), (3, _)]) dX12_best_87 rfl (by decide) rfl ?_
        refine x_goto 41 dX12_best_90 (by decide) ?_
        refine x_sub [4, 5, 6, 7, 1, 2, 0] rfl ?_
        have hg := ih _ (by omega) (k + 1) J64 (by omega) (by omega) rfl (FD.tr hF f64)
        first
          | (rw [es, if_neg (by omega)] at hg; exact hg)
          | (rw [es, if_pos (by omega)] at hg; exact hg)
      · refine x_goto 87 dX12_best_76 (by decide) ?_
        refine x_iinc (lv2 := [(6, _), (7, _), (0, _), (1, _), (2, _), (3, _), (4, _), (5, _)]) dX12_best_87 rfl (by decide) rfl ?_
        refine x_goto 41 dX12_best_90 (by decide) ?_
        refine x_sub [2, 3, 4, 5, 6, 7, 0] rfl ?_
        have hg := ih _ (by omega) (k + 1) J64 (by omega) (by omega) rfl (FD.tr hF f64)
        first
          | (rw [es, if_neg (by omega)] at hg; exact hg)
          | (rw [es, if_pos (by omega)] at hg; exact hg)
theorem sp_X12_best {q m w : Int} (cs : CS S R) (hA : I 307 = A) (hN : BN A) (hT : RTx (I 309) A tx) (hq : Rg q) (hm : Rg m) (hw : w = 0 ∨ w = 1) (hn : 6 ≤ n) (hp : ∀ I', FD I I' → Post (some (.int (iI (f_best A tx q m w)))) S I' R) : Call n 0 0 mX12_best [.ref (S.2.1 306), .int (iI q), .int (iI m), .int (iI w)] S I R Post := by
  obtain ⟨b0, b1, b2, b7, b8, b9, b10, bq⟩ := id hN
  unfold f_best at hp
  refine Call.of (by decide +kernel) (Nat.le_of_ble_eq_true rfl) ?_
  show WP _ _ _ _ _ 0 [(0, _), (1, _), (2, _), (3, _)] [] 0 0 _ _ _
  refine x_aload_n dX12_best_0 rfl ?_
  refine x_iload_n dX12_best_1 rfl ?_
  refine x_callV1 (mc1 := 0) (ms1 := 0) dX12_best_2 cv_RX12_342 (ci := 12) (k_ob_306 cs) rfl (Nat.le_of_ble_eq_true rfl) (n1 := n - 1) (by omega) (by omega) (by omega) ?_
  refine sp_X12_isQuarrel cs hA (by omega) (by omega) (by omega) (fun r2 hr2 => ?_)
  refine x_if_eq 26 dX12_best_5 (by decide) (by omega) (fun w5 => ?_) (fun w5 => ?_)
  · refine x_iconst dX12_best_26 ?_
    exact x_ireturn dX12_best_27 rfl (by omega) (by omega) (by rw [if_neg (by omega)] at hp; exact hp _ FD.rf)
  · refine x_aload_n dX12_best_8 rfl ?_
    refine x_iload_n dX12_best_9 rfl ?_
    refine x_callV1 (mc1 := 0) (ms1 := 0) dX12_best_10 cv_RX12_89 (ci := 12) (k_ob_306 cs) rfl (Nat.le_of_ble_eq_true rfl) (n1 := n - 1) (by omega) (by omega) (by omega) ?_
    have bqq := bq q.toNat (by omega)
    refine sp_X12_isPawned_z cs hA (by omega) (by omega) (by omega) (fun r10 hr10 => ?_)
    refine x_if_eq 26 dX12_best_13 (by decide) (by omega) (fun w13 => ?_) (fun w13 => ?_)
    · refine x_iconst dX12_best_26 ?_
      exact x_ireturn dX12_best_27 rfl (by omega) (by omega) (by rw [if_neg (by omega)] at hp; exact hp _ FD.rf)
    · refine x_iload_n dX12_best_16 rfl ?_
      refine x_iconst dX12_best_17 ?_
      refine x_bipush dX12_best_18 (by decide) ?_
      refine x_callS3 (mc1 := 0) (ms1 := 0) dX12_best_20 cv_RX12_81 (Nat.le_of_ble_eq_true rfl) (n1 := n - 1) (by omega) (by omega) (by omega) ?_
      refine sp_X12_isIn (by omega) (by omega) (by omega) (fun r20 hr20 => ?_)
      refine x_if_ne 28 dX12_best_23 (by decide) (by omega) (fun w23 => ?_) (fun w23 => ?_)
      · refine x_iconst dX12_best_28 ?_
        refine x_istore (lv2 := [(4, _), (0, _), (1, _), (2, _), (3, _)]) dX12_best_29 (by decide) rfl ?_
        refine x_aload_n dX12_best_31 rfl ?_
        refine x_iload_n dX12_best_32 rfl ?_
        refine x_callV1 (mc1 := 0) (ms1 := 0) dX12_best_33 cv_RX12_330 (ci := 12) (k_ob_306 cs) rfl (Nat.le_of_ble_eq_true rfl) (n1 := n - 1) (by omega) (by omega) (by omega) ?_
        refine sp_X12_duesOf_z cs hA hN hT (by omega) (by omega) (fun J33 f33 => ?_)
        refine x_istore (lv2 := [(5, _), (4, _), (0, _), (1, _), (2, _), (3, _)]) dX12_best_36 (by decide) rfl ?_
        refine x_iconst dX12_best_38 ?_
        refine x_istore (lv2 := [(6, _), (5, _), (4, _), (0, _), (1, _), (2, _), (3, _)]) dX12_best_39 (by decide) rfl ?_
        refine x_sub [3, 4, 5, 6, 2, 1, 0] rfl ?_
        rw [if_pos (by omega)] at hp
        have hdb := duesP_b A tx (A 2) q.toNat 0 (A 9)
        have e1 : chL A tx q.toNat 1 = (0, duesP A tx (A 2) q.toNat 0 (A 9)) := if_pos (by show duesP A tx (A 2) q.toNat 0 (A 9) < 10000; omega)
        have hg := lp_X12_best (I := J33) (A := A) (tx := tx) (q := q.toNat) (m := m) (w := w) (n := n) (Post := Post) cs (by rw [f33 307 (by omega) (by omega) (by omega)]; exact hA) hN (by rw [f33 309 (by omega) (by omega) (by omega)]; exact hT) (by omega) (by omega) hw hn (fun I2 h2 => by have h3 := hp I2 (FD.tr f33 h2); rw [← ch_2 _ (by omega)] at h3; exact h3) _ 1 J33 (by omega) (by omega) rfl FD.rf
        rw [e1] at hg
        rw [asN (a := q) (by omega)]
        exact hg
      · refine x_iconst dX12_best_26 ?_
        exact x_ireturn dX12_best_27 rfl (by omega) (by omega) (by rw [if_neg (by omega)] at hp; exact hp _ FD.rf)
end Ref19
