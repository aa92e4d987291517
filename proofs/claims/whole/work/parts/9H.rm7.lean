section Rm7s
variable {n mc ms : Nat} {M : Md} {pc : Nat} {lv : List (Nat × Value)} {st : List Value} {k j : Nat} {Post : PT} {S : Sh} {I : CI} {R : CR} {A : Nat → Int} {tx : Nat → Nat → Int}
variable {t : Nat → Int} {l o : Nat} {sl : Bool} {cu : Cu} {p b : List Int}
theorem rfb_st {J : CI} {g : Int} (h : RfB I t l o sl p cu b) (s1 : PlS J (stl g p b).1) (c1 : CdS J o (stl g p b).2) (f1 : Fst o I J) : RfB J t l o sl (stl g p b).1 cu (stl g p b).2 := by
  obtain ⟨h1, h2, h3, h4, h5, h6, h7, h8⟩ := h
  have hlen := stl_len (g := g) p b
  have hok := stl_ok (g := g) p b h5
  refine ⟨tk_fr h1 (f1.1 310 (by omega) (by omega)) (fun a ha => f1.2.1 a (by omega) (by omega) (by omega)), s1, c1, ?_, hok.1, ?_, ?_, h8⟩
  · rw [f1.2.1 14 (by omega) (by omega) (by omega)]; exact h4
  · have := hok.2; omega
  · omega
theorem rfb_nx {J : CI} (h : RfB I t l o sl p cu b) (k1 : TpR J t l ∧ TkR J (adv t l cu.1) ∧ CuOK l (adv t l cu.1)) (m1 : cu.2.1 ≤ (adv t l cu.1).2.1) (f1 : FcR I J) : RfB J t l o sl p (adv t l cu.1) b := by
  obtain ⟨h1, h2, h3, h4, h5, h6, h7, h8⟩ := h
  refine ⟨k1, pls_fc h2 f1, cds_fc h3 f1, ?_, h5, h6, ?_, h8⟩
  · rw [f1.2 14 (by omega)]; exact h4
  · omega
theorem rfb_pop {J : CI} {x : Int} {q : List Int} (h : RfB I t l o sl (x :: q) cu b) (hx : opT x = true) (e1 : ∀ a, a ≠ 306 → J a = I a) (e6 : ∀ a, a ≠ 16 → a ≠ 17 → J 306 a = I 306 a) (e16 : J 306 16 = (q.length : Int)) (e17 : J 306 17 = (nOp q : Int)) : RfB J t l o sl q cu b := by
  obtain ⟨h1, h2, h3, h4, h5, h6, h7, h8⟩ := h
  rw [nOp_c hx] at h6
  rw [List.length_cons] at h7
  refine ⟨tk_fr h1 (e1 310 (by omega)) (fun a ha => e6 a (by omega) (by omega)), ⟨PlA.w h2.1.2 (fun i _ => by rw [e1 311 (by omega)]), e16, e17⟩, ⟨by rw [e1 309 (by omega)]; exact h3.1, (e6 13 (by omega) (by omega)).trans h3.2.1, (e6 12 (by omega) (by omega)).trans h3.2.2⟩, ?_, h5.1, by omega, by omega, h8⟩
  rw [e6 14 (by omega) (by omega)]; exact h4
/-- behind the pushing of what comes between two, and the next token -/
theorem rfb_psh {K J : CI} {x : Int} (h : RfB I t l o sl p cu b) (hk : okP (x :: p)) (hx : opT x = false) (e1 : ∀ a, a ≠ 306 → a ≠ 311 → K a = I a) (e6 : ∀ a, a ≠ 16 → a ≠ 18 → K 306 a = I 306 a) (e16 : K 306 16 = (p.length : Int) + 1) (e11 : ∀ i, i ≠ p.length → K 311 i = I 311 i) (ex : K 311 p.length = x) (k1 : TpR J t l ∧ TkR J (adv t l cu.1) ∧ CuOK l (adv t l cu.1)) (s1 : cu.2.1 < (adv t l cu.1).2.1) (f1 : FcR K J) : RfB J t l o sl (x :: p) (adv t l cu.1) b := by
  obtain ⟨h1, h2, h3, h4, h5, h6, h7, h8⟩ := h
  refine ⟨k1, pls_fc ⟨⟨ex, PlA.w h2.1 (fun i hi => e11 i (by omega))⟩, ?_, ?_⟩ f1, cds_fc ⟨by rw [e1 309 (by omega) (by omega)]; exact h3.1, (e6 13 (by omega) (by omega)).trans h3.2.1, (e6 12 (by omega) (by omega)).trans h3.2.2⟩ f1, ?_, hk, ?_, ?_, h8⟩
  · rw [e16, List.length_cons]; omega
  · rw [e6 17 (by omega) (by omega), nOp_n hx]; exact h2.2.2
  · rw [f1.2 14 (by omega), e6 14 (by omega) (by omega)]; exact h4
  · rw [nOp_n hx]; exact h6
  · rw [List.length_cons]; omega
/-- what is open has its next part -/
theorem rfb_prt {J : CI} {x v : Int} {q : List Int} (h : RfB I t l o sl (x :: q) cu b) (hx : opT x = true) (hv : opT v = true ∧ vld v) (e1 : ∀ a, a ≠ 306 → a ≠ 311 → J a = I a) (e6 : ∀ a, a ≠ 18 → J 306 a = I 306 a) (e11 : ∀ i, i ≠ q.length → J 311 i = I 311 i) (ex : J 311 q.length = v) : RfB J t l o sl (v :: q) cu b := by
  obtain ⟨h1, h2, h3, h4, h5, h6, h7, h8⟩ := h
  rw [List.length_cons] at h7
  refine ⟨tk_fr h1 (e1 310 (by omega) (by omega)) (fun a ha => e6 a (by omega)), ⟨⟨ex, PlA.w h2.1.2 (fun i hi => e11 i (by omega))⟩, ?_, ?_⟩, ⟨by rw [e1 309 (by omega) (by omega)]; exact h3.1, (e6 13 (by omega)).trans h3.2.1, (e6 12 (by omega)).trans h3.2.2⟩, ?_, ⟨h5.1, hv.2, Or.inl hv.1⟩, ?_, ?_, h8⟩
  · rw [e6 16 (by omega), List.length_cons]; exact h2.2.1
  · rw [e6 17 (by omega), nOp_c hv.1]
    have := h2.2.2
    rw [nOp_c hx] at this
    exact this
  · rw [e6 14 (by omega)]; exact h4
  · rw [nOp_c hv.1]; rw [nOp_c hx] at h6; exact h6
  · rw [List.length_cons]; omega
/-- behind a settling of all that waits, what is open lies on top -/
theorem stl1_hd : ∀ (p b : List Int), 0 ≤ opn p → okP p → ∃ q, (stl 1 p b).1 = opn p :: q ∧ 40 ≤ opn p := by
  intro p
  induction p with
  | nil => intro b h _; exfalso; have h2 : (0 : Int) ≤ -1 := h; omega
  | cons x p ih =>
    intro b h hk
    by_cases hx : 40 ≤ x
    · have e : opn (x :: p) = x := if_pos hx
      have e2 : rk x = 0 := if_pos hx
      rw [stl_no (by omega), e]
      exact ⟨p, rfl, hx⟩
    · have e : opn (x :: p) = opn p := if_neg hx
      have hv := hk.2.1
      have e2 : 1 ≤ rk x := by
        have hh : x = 2 ∨ x = 4 ∨ x = 5 ∨ x = 6 ∨ x = 7 ∨ x = 8 ∨ x = 9 ∨ x = 10 ∨ x = 11 ∨ x = 12 ∨ x = 13 ∨ x = 14 ∨ x = 15 ∨ x = 20 ∨ x = 21 ∨ x = 22 := by omega
        rcases hh with rfl | rfl | rfl | rfl | rfl | rfl | rfl | rfl | rfl | rfl | rfl | rfl | rfl | rfl | rfl | rfl <;> decide
      rw [stl_go e2, e]
      exact ih _ (by rw [← e]; exact h) hk.1
theorem btw_0 {w : Int} (h : 0 ≤ btw p w) : w ≠ 0 := by
  intro h0
  subst h0
  have hn : ((0 : Int) ≠ 43 ∧ (0 : Int) ≠ 45 ∧ (0 : Int) ≠ 42 ∧ (0 : Int) ≠ 47) := by decide
  by_cases ho : opn p = 42
  · cases hc : cmpd p with
    | false =>
      rw [btw_c hn ho hc] at h
      have h2 : (0 : Int) ≤ -1 := h
      omega
    | true =>
      rw [btw_a hn ho hc] at h
      have h2 : (0 : Int) ≤ -1 := h
      omega
  · rw [btw_n hn ho] at h; omega
theorem prt_v {w : Int} : prt p w = -1 ∨ prt p w = 0 ∨ prt p w = 43 ∨ prt p w = 44 := by
  unfold prt
  repeat' split
  all_goals omega
theorem prt_o {w : Int} (hk : okP p) (h : 0 ≤ prt p w) : 40 ≤ opn p ∧ (prt p w = 0 ∨ prt p w = 43 ∨ prt p w = 44) := by
  have hv := opn_v hk
  have hp := prt_v (p := p) (w := w)
  refine ⟨?_, by omega⟩
  rcases hv with hv | hv
  · exfalso
    unfold prt at h
    rw [if_neg (by omega), if_neg (by omega), if_neg (by omega), if_neg (by omega)] at h
    omega
  · exact hv.1
theorem rfb_em {J : CI} {x : Int} (h : RfB I t l o sl p cu b) (c1 : CdS J o (b ++ [x])) (e1 : ∀ a, a ≠ 13 → J 306 a = I 306 a) (f1 : Fst o I J) (hl : b.length + p.length + 1 ≤ cu.2.1) : RfB J t l o sl p cu (b ++ [x]) := by
  obtain ⟨h1, h2, h3, h4, h5, h6, h7, h8⟩ := h
  refine ⟨tk_fr h1 (f1.1 310 (by omega) (by omega)) (fun a ha => e1 a (by omega)), ⟨PlA.w h2.1 (fun i _ => by rw [f1.1 311 (by omega) (by omega)]), (e1 16 (by omega)).trans h2.2.1, (e1 17 (by omega)).trans h2.2.2⟩, c1, by rw [e1 14 (by omega)]; exact h4, h5, h6, ?_, h8⟩
  rw [List.length_append, List.length_singleton]
  omega
theorem opI_c {x : Int} {q : List Int} (h : 40 ≤ x) : opI (x :: q) = (q.length : Int) := if_pos h
theorem dX12_behindOne_0 : decode prog_14_method_50_code 0 = .ok (.aload_n 0, 1) := by decide +kernel
theorem dX12_behindOne_1 : decode prog_14_method_50_code 1 = .ok (.invokevirtual 221, 3) := by decide +kernel
theorem dX12_behindOne_4 : decode prog_14_method_50_code 4 = .ok (.istore_n 1, 1) := by decide +kernel
theorem dX12_behindOne_5 : decode prog_14_method_50_code 5 = .ok (.iload_n 1, 1) := by decide +kernel
theorem dX12_behindOne_6 : decode prog_14_method_50_code 6 = .ok (.ifCond .lt 54, 3) := by decide +kernel
theorem dX12_behindOne_9 : decode prog_14_method_50_code 9 = .ok (.aload_n 0, 1) := by decide +kernel
theorem dX12_behindOne_10 : decode prog_14_method_50_code 10 = .ok (.iload_n 1, 1) := by decide +kernel
theorem dX12_behindOne_11 : decode prog_14_method_50_code 11 = .ok (.invokestatic 169, 3) := by decide +kernel
theorem dX12_behindOne_14 : decode prog_14_method_50_code 14 = .ok (.iconst 4, 1) := by decide +kernel
theorem dX12_behindOne_15 : decode prog_14_method_50_code 15 = .ok (.if_icmp .ne 7, 3) := by decide +kernel
theorem dX12_behindOne_18 : decode prog_14_method_50_code 18 = .ok (.iconst 5, 1) := by decide +kernel
theorem dX12_behindOne_19 : decode prog_14_method_50_code 19 = .ok (.goto 7, 3) := by decide +kernel
theorem dX12_behindOne_22 : decode prog_14_method_50_code 22 = .ok (.iload_n 1, 1) := by decide +kernel
theorem dX12_behindOne_23 : decode prog_14_method_50_code 23 = .ok (.invokestatic 169, 3) := by decide +kernel
theorem dX12_behindOne_26 : decode prog_14_method_50_code 26 = .ok (.invokevirtual 209, 3) := by decide +kernel
theorem dX12_behindOne_29 : decode prog_14_method_50_code 29 = .ok (.aload_n 0, 1) := by decide +kernel
theorem dX12_behindOne_30 : decode prog_14_method_50_code 30 = .ok (.getfield 29, 3) := by decide +kernel
theorem dX12_behindOne_33 : decode prog_14_method_50_code 33 = .ok (.aload_n 0, 1) := by decide +kernel
theorem dX12_behindOne_34 : decode prog_14_method_50_code 34 = .ok (.getfield 166, 3) := by decide +kernel
theorem dX12_behindOne_37 : decode prog_14_method_50_code 37 = .ok (.iload_n 1, 1) := by decide +kernel
theorem dX12_behindOne_38 : decode prog_14_method_50_code 38 = .ok (.iastore, 1) := by decide +kernel
theorem dX12_behindOne_39 : decode prog_14_method_50_code 39 = .ok (.aload_n 0, 1) := by decide +kernel
theorem dX12_behindOne_40 : decode prog_14_method_50_code 40 = .ok (.dup, 1) := by decide +kernel
theorem dX12_behindOne_41 : decode prog_14_method_50_code 41 = .ok (.getfield 166, 3) := by decide +kernel
theorem dX12_behindOne_44 : decode prog_14_method_50_code 44 = .ok (.iconst 1, 1) := by decide +kernel
theorem dX12_behindOne_45 : decode prog_14_method_50_code 45 = .ok (.iadd, 1) := by decide +kernel
theorem dX12_behindOne_46 : decode prog_14_method_50_code 46 = .ok (.putfield 166, 3) := by decide +kernel
theorem dX12_behindOne_49 : decode prog_14_method_50_code 49 = .ok (.aload_n 0, 1) := by decide +kernel
theorem dX12_behindOne_50 : decode prog_14_method_50_code 50 = .ok (.iconst 0, 1) := by decide +kernel
theorem dX12_behindOne_51 : decode prog_14_method_50_code 51 = .ok (.putfield 212, 3) := by decide +kernel
theorem dX12_behindOne_54 : decode prog_14_method_50_code 54 = .ok (.aload_n 0, 1) := by decide +kernel
theorem dX12_behindOne_55 : decode prog_14_method_50_code 55 = .ok (.invokevirtual 186, 3) := by decide +kernel
theorem dX12_behindOne_58 : decode prog_14_method_50_code 58 = .ok (.iconst 0, 1) := by decide +kernel
theorem dX12_behindOne_59 : decode prog_14_method_50_code 59 = .ok (.ireturn, 1) := by decide +kernel
theorem dX12_behindOne_60 : decode prog_14_method_50_code 60 = .ok (.aload_n 0, 1) := by decide +kernel
theorem dX12_behindOne_61 : decode prog_14_method_50_code 61 = .ok (.invokevirtual 183, 3) := by decide +kernel
theorem dX12_behindOne_64 : decode prog_14_method_50_code 64 = .ok (.istore_n 2, 1) := by decide +kernel
theorem dX12_behindOne_65 : decode prog_14_method_50_code 65 = .ok (.aload_n 0, 1) := by decide +kernel
theorem dX12_behindOne_66 : decode prog_14_method_50_code 66 = .ok (.iload_n 2, 1) := by decide +kernel
theorem dX12_behindOne_67 : decode prog_14_method_50_code 67 = .ok (.invokevirtual 224, 3) := by decide +kernel
theorem dX12_behindOne_70 : decode prog_14_method_50_code 70 = .ok (.istore_n 3, 1) := by decide +kernel
theorem dX12_behindOne_71 : decode prog_14_method_50_code 71 = .ok (.iload_n 3, 1) := by decide +kernel
theorem dX12_behindOne_72 : decode prog_14_method_50_code 72 = .ok (.ifCond .ge 5, 3) := by decide +kernel
theorem dX12_behindOne_75 : decode prog_14_method_50_code 75 = .ok (.iconst (-1), 1) := by decide +kernel
theorem dX12_behindOne_76 : decode prog_14_method_50_code 76 = .ok (.ireturn, 1) := by decide +kernel
theorem dX12_behindOne_77 : decode prog_14_method_50_code 77 = .ok (.aload_n 0, 1) := by decide +kernel
theorem dX12_behindOne_78 : decode prog_14_method_50_code 78 = .ok (.iconst 1, 1) := by decide +kernel
theorem dX12_behindOne_79 : decode prog_14_method_50_code 79 = .ok (.invokevirtual 209, 3) := by decide +kernel
theorem dX12_behindOne_82 : decode prog_14_method_50_code 82 = .ok (.aload_n 0, 1) := by decide +kernel
theorem dX12_behindOne_83 : decode prog_14_method_50_code 83 = .ok (.invokevirtual 186, 3) := by decide +kernel
theorem dX12_behindOne_86 : decode prog_14_method_50_code 86 = .ok (.iload_n 3, 1) := by decide +kernel
theorem dX12_behindOne_87 : decode prog_14_method_50_code 87 = .ok (.ifCond .ne 40, 3) := by decide +kernel
theorem dX12_behindOne_90 : decode prog_14_method_50_code 90 = .ok (.aload_n 0, 1) := by decide +kernel
theorem dX12_behindOne_91 : decode prog_14_method_50_code 91 = .ok (.dup, 1) := by decide +kernel
theorem dX12_behindOne_92 : decode prog_14_method_50_code 92 = .ok (.getfield 176, 3) := by decide +kernel
theorem dX12_behindOne_95 : decode prog_14_method_50_code 95 = .ok (.iconst 1, 1) := by decide +kernel
theorem dX12_behindOne_96 : decode prog_14_method_50_code 96 = .ok (.isub, 1) := by decide +kernel
theorem dX12_behindOne_97 : decode prog_14_method_50_code 97 = .ok (.putfield 176, 3) := by decide +kernel
theorem dX12_behindOne_100 : decode prog_14_method_50_code 100 = .ok (.aload_n 0, 1) := by decide +kernel
theorem dX12_behindOne_101 : decode prog_14_method_50_code 101 = .ok (.dup, 1) := by decide +kernel
theorem dX12_behindOne_102 : decode prog_14_method_50_code 102 = .ok (.getfield 166, 3) := by decide +kernel
theorem dX12_behindOne_105 : decode prog_14_method_50_code 105 = .ok (.iconst 1, 1) := by decide +kernel
theorem dX12_behindOne_106 : decode prog_14_method_50_code 106 = .ok (.isub, 1) := by decide +kernel
theorem dX12_behindOne_107 : decode prog_14_method_50_code 107 = .ok (.putfield 166, 3) := by decide +kernel
theorem dX12_behindOne_110 : decode prog_14_method_50_code 110 = .ok (.iload_n 2, 1) := by decide +kernel
theorem dX12_behindOne_111 : decode prog_14_method_50_code 111 = .ok (.bipush 44, 2) := by decide +kernel
theorem dX12_behindOne_113 : decode prog_14_method_50_code 113 = .ok (.if_icmp .ne 9, 3) := by decide +kernel
theorem dX12_behindOne_116 : decode prog_14_method_50_code 116 = .ok (.aload_n 0, 1) := by decide +kernel
theorem dX12_behindOne_117 : decode prog_14_method_50_code 117 = .ok (.iconst 3, 1) := by decide +kernel
theorem dX12_behindOne_118 : decode prog_14_method_50_code 118 = .ok (.iconst 0, 1) := by decide +kernel
theorem dX12_behindOne_119 : decode prog_14_method_50_code 119 = .ok (.invokevirtual 172, 3) := by decide +kernel
theorem dX12_behindOne_122 : decode prog_14_method_50_code 122 = .ok (.aload_n 0, 1) := by decide +kernel
theorem dX12_behindOne_123 : decode prog_14_method_50_code 123 = .ok (.invokevirtual 195, 3) := by decide +kernel
theorem dX12_behindOne_126 : decode prog_14_method_50_code 126 = .ok (.ireturn, 1) := by decide +kernel
theorem dX12_behindOne_127 : decode prog_14_method_50_code 127 = .ok (.aload_n 0, 1) := by decide +kernel
theorem dX12_behindOne_128 : decode prog_14_method_50_code 128 = .ok (.getfield 29, 3) := by decide +kernel
theorem dX12_behindOne_131 : decode prog_14_method_50_code 131 = .ok (.aload_n 0, 1) := by decide +kernel
theorem dX12_behindOne_132 : decode prog_14_method_50_code 132 = .ok (.invokevirtual 179, 3) := by decide +kernel
theorem dX12_behindOne_135 : decode prog_14_method_50_code 135 = .ok (.iload_n 3, 1) := by decide +kernel
theorem dX12_behindOne_136 : decode prog_14_method_50_code 136 = .ok (.iastore, 1) := by decide +kernel
theorem dX12_behindOne_137 : decode prog_14_method_50_code 137 = .ok (.aload_n 0, 1) := by decide +kernel
theorem dX12_behindOne_138 : decode prog_14_method_50_code 138 = .ok (.iconst 0, 1) := by decide +kernel
theorem dX12_behindOne_139 : decode prog_14_method_50_code 139 = .ok (.putfield 212, 3) := by decide +kernel
theorem dX12_behindOne_142 : decode prog_14_method_50_code 142 = .ok (.iconst 0, 1) := by decide +kernel
theorem dX12_behindOne_143 : decode prog_14_method_50_code 143 = .ok (.ireturn, 1) := by decide +kernel
theorem sp_X12_behindOne (cs : CS S R) (hn : 6 ≤ n) (h : RfB I t l o sl p cu b) (hw : I 306 18 = 1) (hpe : btw p cu.2.2.1 < 0 → prt p cu.2.2.1 < 0 → Post (some (.int (iI (-1)))) S I R) (hp : ∀ J, (0 ≤ btw p cu.2.2.1 ∨ 0 ≤ prt p cu.2.2.1) → RfS J t l o sl (behO t l p cu b).2 → Frf o I J → Post (some (.int (iI (behO t l p cu b).1))) S J R) : Call n 0 0 mX12_behindOne [.ref (S.2.1 306)] S I R Post := by
  obtain ⟨h1, h2, h3, h4, h5, h6, h7, h8⟩ := id h
  have hl := okP_160 h5 h6
  have l3 := h1.1.2.2.1
  have ok1 := h1.2.2.1
  have ok2 := h1.2.2.2.1
  have hov := opn_v h5
  obtain ⟨x, hx⟩ : ∃ x, btw p cu.2.2.1 = x := ⟨_, rfl⟩
  obtain ⟨v, hv⟩ : ∃ v, prt p cu.2.2.1 = v := ⟨_, rfl⟩
  obtain ⟨w, hw2⟩ : ∃ w, opn p = w := ⟨_, rfl⟩
  have hbv := btw_v (p := p) (w := cu.2.2.1)
  have hpv := prt_v (p := p) (w := cu.2.2.1)
  rw [hx] at hbv hp hpe
  rw [hv] at hpv hp hpe
  rw [hw2] at hov
  have hrx := rk_b x
  refine Call.of (by decide +kernel) (Nat.le_of_ble_eq_true rfl) ?_
  show WP _ _ _ _ _ 0 [(0, _)] [] 0 0 _ _ _
  refine x_aload_n dX12_behindOne_0 rfl ?_
  refine x_callV0 (mc1 := 0) (ms1 := 0) dX12_behindOne_1 cv_RX12_221 (ci := 12) (k_ob_306 cs) rfl (Nat.le_of_ble_eq_true rfl) (n1 := n - 1) (by omega) (by omega) (by omega) ?_
  refine sp_X12_betweenOf (t := t) (l := l) (o := o) (sl := sl) (p := p) (cu := cu) (b := b) cs (by omega) h ?_
  rw [hx]
  refine x_istore_n (lv2 := [(1, _), (0, _)]) dX12_behindOne_4 (by decide) rfl ?_
  refine x_iload_n dX12_behindOne_5 rfl ?_
  refine x_if_lt 60 dX12_behindOne_6 (by decide) (by omega) (fun w6 => ?_) (fun w6 => ?_)
  · refine x_aload_n dX12_behindOne_60 rfl ?_
    refine x_callV0 (mc1 := 0) (ms1 := 0) dX12_behindOne_61 cv_RX12_183 (ci := 12) (k_ob_306 cs) rfl (Nat.le_of_ble_eq_true rfl) (n1 := n - 1) (by omega) (by omega) (by omega) ?_
    refine sp_X12_openNow cs (by omega) h2 h5 (by omega) ?_
    rw [hw2]
    refine x_istore_n (lv2 := [(2, _), (1, _), (0, _)]) dX12_behindOne_64 (by decide) rfl ?_
    refine x_aload_n dX12_behindOne_65 rfl ?_
    refine x_iload_n dX12_behindOne_66 rfl ?_
    refine x_callV1 (mc1 := 0) (ms1 := 0) dX12_behindOne_67 cv_RX12_224 (ci := 12) (k_ob_306 cs) rfl (Nat.le_of_ble_eq_true rfl) (n1 := n - 1) (by omega) (by omega) (by omega) ?_
    refine sp_X12_partOf (t := t) (l := l) (o := o) (sl := sl) (p := p) (cu := cu) (b := b) cs (by omega) h hw2 ?_
    rw [hv]
    refine x_istore_n (lv2 := [(3, _), (2, _), (1, _), (0, _)]) dX12_behindOne_70 (by decide) rfl ?_
    refine x_iload_n dX12_behindOne_71 rfl ?_
    refine x_if_ge 77 dX12_behindOne_72 (by decide) (by omega) (fun w72 => ?_) (fun w72 => ?_)
    · refine x_aload_n dX12_behindOne_77 rfl ?_
      refine x_iconst dX12_behindOne_78 ?_
      refine x_callV1 (mc1 := 0) (ms1 := 0) dX12_behindOne_79 cv_RX12_209 (ci := 12) (k_ob_306 cs) rfl (Nat.le_of_ble_eq_true rfl) (n1 := n - 1) (by omega) (by omega) (by omega) ?_
      have hpo := prt_o (p := p) (w := cu.2.2.1) h5 (by omega)
      rw [hv, hw2] at hpo
      obtain ⟨q, hq, hq40⟩ := stl1_hd p b (by omega) h5
      rw [hw2] at hq hq40
      have ox : opT w = true := decide_eq_true (by omega)
      refine sp_X12_settle (g := 1) (o := o) (p := p) (b := b) cs (by omega) (by omega) h8 h2 h3 h5 (by omega) (by omega) (fun J79 s79 c79 f79 => ?_)
      have r79a := rfb_st h s79 c79 f79
      have e79a : behO t l p cu b = if v = 0 then endO t l (stl 1 p b).1.tail (adv t l cu.1) (if w = 44 then (stl 1 p b).2 ++ [294912] else (stl 1 p b).2) else (0, (v :: (stl 1 p b).1.tail, false, adv t l cu.1, (stl 1 p b).2)) := by
        unfold behO
        rw [hx, hv, hw2, if_neg (by omega), if_neg (by omega)]
      obtain ⟨q2, b2, hqb⟩ : ∃ q2 b2, stl 1 p b = (q2, b2) := ⟨_, _, rfl⟩
      rw [hqb] at r79a e79a hq
      have hq' : q2 = w :: q := hq
      subst hq'
      have r79 : RfB J79 t l o sl (w :: q) cu b2 := r79a
      have e79 : behO t l p cu b = if v = 0 then endO t l q (adv t l cu.1) (if w = 44 then b2 ++ [294912] else b2) else (0, (v :: q, false, adv t l cu.1, b2)) := e79a
      have hl79 := okP_160 r79.2.2.2.2.1 r79.2.2.2.2.2.1
      rw [List.length_cons] at hl79
      have h779 := r79.2.2.2.2.2.2.1
      rw [List.length_cons] at h779
      refine x_aload_n dX12_behindOne_82 rfl ?_
      refine x_callV0 (mc1 := 0) (ms1 := 0) dX12_behindOne_83 cv_RX12_186 (ci := 12) (k_ob_306 cs) rfl (Nat.le_of_ble_eq_true rfl) (n1 := n - 1) (by omega) (by omega) (by omega) ?_
      refine sp_nxt (t := t) (l := l) (cu := cu) cs (by omega) r79.1 (fun J83 k83 s83 m83 f83 => ?_)
      have r83 : RfB J83 t l o sl (w :: q) (adv t l cu.1) b2 := rfb_nx r79 k83 m83 f83
      have p83a : J83 306 17 = (nOp q : Int) + 1 := by have := r83.2.1.2.2; rw [nOp_c ox] at this; rw [this]; omega
      have p83b : J83 306 16 = (q.length : Int) + 1 := by have := r83.2.1.2.1; rw [List.length_cons] at this; rw [this]; omega
      refine x_iload_n dX12_behindOne_86 rfl ?_
      refine x_if_ne 127 dX12_behindOne_87 (by decide) (by omega) (fun w87 => ?_) (fun w87 => ?_)
      · refine x_aload_n dX12_behindOne_127 rfl ?_
        refine x_getR (b := 311) dX12_behindOne_128 gf_RX12_29 (k_ob_306 cs) (fun _ _ => rfl) (k_r_306_15 cs) ?_
        refine x_aload_n dX12_behindOne_131 rfl ?_
        refine x_callV0 (mc1 := 0) (ms1 := 0) dX12_behindOne_132 cv_RX12_179 (ci := 12) (k_ob_306 cs) rfl (Nat.le_of_ble_eq_true rfl) (n1 := n - 1) (by omega) (by omega) (by omega) ?_
        refine sp_X12_openAt cs r83.2.1 r83.2.2.2.2.1 (by rw [List.length_cons]; omega) ?_
        rw [opI_c (by omega)]
        refine x_iload_n dX12_behindOne_135 rfl ?_
        refine x_iastore dX12_behindOne_136 (k_ar_311 cs) (by omega) (by omega) ?_
        refine x_aload_n dX12_behindOne_137 rfl ?_
        refine x_iconst dX12_behindOne_138 ?_
        refine x_putZ dX12_behindOne_139 gf_RX12_212 (k_ob_306 cs) rfl (by omega) ?_
        refine x_iconst dX12_behindOne_142 ?_
        exact x_ireturn dX12_behindOne_143 rfl (by omega) (by omega) (by first
 | (exact hpe (by omega) (by omega))
 | (rw [e26] at hp
    refine hp J55 (Or.inl (by omega)) ⟨rfb_psh r26 hok26 hop26 (fun a h8 h9 => by rw [uI_row h8, uI_row h8, uI_row h9]) (fun a h8 h9 => by rw [uI_o (by omega), uI_o (by omega), uI_row (by omega)]) ?_ (fun i hi => ?_) ?_ k55 hs55 f55, Or.inr ⟨?_, rfl⟩⟩ (Frf.tr (Frf.u6 (Frf.u6 (Frf.u1 (Fst.frf f26)) (by omega)) (by omega)) (FcR.frf f55))
    · rw [uI_o (by omega), uI_s]
    · have hi' : i ≠ q.length := hi
      rw [uI_row (by omega), uI_row (by omega), uI_o (by omega)]
    · show _ = _
      rw [uI_row (by omega), uI_row (by omega), uI_x rfl (by show q.length = _; omega)]
    · rw [f55.2 18 (by omega), uI_s])
 | (rw [e79, if_pos (by omega)] at hp
    first
    | (rw [if_pos (by omega)] at hp
       exact hp J123 (Or.inr (by omega)) s123 (Frf.tr (Frf.tr (Frf.u6 (Frf.u6 (Frf.tr (Fst.frf f79) (FcR.frf f83)) (by omega)) (by omega)) (Fst.frf f119)) f123))
    | (rw [if_neg (by omega)] at hp
       exact hp J123 (Or.inr (by omega)) s123 (Frf.tr (Frf.u6 (Frf.u6 (Frf.tr (Fst.frf f79) (FcR.frf f83)) (by omega)) (by omega)) f123)))
 | (rw [e79, if_neg (by omega)] at hp
    refine hp _ (Or.inr (by omega)) ⟨rfb_prt r83 ox ⟨?_, ?_⟩ (fun a h8 h9 => by rw [uI_row h8, uI_row h9]) (fun a h8 => by rw [uI_o (by omega), uI_row (by omega)]) (fun i hi => ?_) ?_, Or.inr ⟨by rw [uI_s], rfl⟩⟩ (Frf.u6 (Frf.u1 (Frf.tr (Fst.frf f79) (FcR.frf f83))) (by omega))
    · exact decide_eq_true (by omega)
    · omega
    · rw [uI_row (by omega), uI_o (by omega)]
    · rw [uI_row (by omega), uI_x rfl (by omega)]))
      · refine x_aload_n dX12_behindOne_90 rfl ?_
        refine x_dup dX12_behindOne_91 rfl ?_
        refine x_getIv (z := (nOp q : Int) + 1) dX12_behindOne_92 gf_RX12_176 (k_ob_306 cs) (fun _ _ => rfl) (by first | exact p26 | (rw [uI_row (by omega)]; exact p26) | exact p83a | (rw [uI_o (by omega)]; exact p83b)) ?_
        refine x_iconst dX12_behindOne_95 ?_
        refine x_isub dX12_behindOne_96 ?_
        refine x_putI dX12_behindOne_97 gf_RX12_176 (k_ob_306 cs) rfl ?_
        refine x_aload_n dX12_behindOne_100 rfl ?_
        refine x_dup dX12_behindOne_101 rfl ?_
        refine x_getIv (z := (q.length : Int) + 1) dX12_behindOne_102 gf_RX12_166 (k_ob_306 cs) (fun _ _ => rfl) (by first | exact p26 | (rw [uI_row (by omega)]; exact p26) | exact p83a | (rw [uI_o (by omega)]; exact p83b)) ?_
        refine x_iconst dX12_behindOne_105 ?_
        refine x_isub dX12_behindOne_106 ?_
        refine x_putI dX12_behindOne_107 gf_RX12_166 (k_ob_306 cs) rfl ?_
        have r107 := rfb_pop (J := uI (uI J83 306 17 ((nOp q : Int) + 1 - 1)) 306 16 ((q.length : Int) + 1 - 1)) r83 ox (fun a h9 => by rw [uI_row h9, uI_row h9]) (fun a h8 h9 => by rw [uI_o (by omega), uI_o (by omega)]) (by rw [uI_s]; omega) (by rw [uI_o (by omega), uI_s]; omega)
        refine x_iload_n dX12_behindOne_110 rfl ?_
        refine x_bipush dX12_behindOne_111 (by decide) ?_
        refine x_icmp_ne 122 dX12_behindOne_113 (by decide) ⟨(by omega), (by omega)⟩ (fun w113 => ?_) (fun w113 => ?_)
        · refine x_aload_n dX12_behindOne_122 rfl ?_
          refine x_callV0 (mc1 := 0) (ms1 := 0) dX12_behindOne_123 cv_RX12_195 (ci := 12) (k_ob_306 cs) rfl (Nat.le_of_ble_eq_true rfl) (n1 := n - 1) (by omega) (by omega) (by omega) ?_
          refine sp_X12_endOne (t := t) (l := l) (o := o) (sl := sl) (p := q) (cu := adv t l cu.1) (b := b2) cs (by omega) r107 (fun J123 s123 f123 => ?_)
          exact x_ireturn dX12_behindOne_126 rfl (by omega) (by omega) (by first
 | (exact hpe (by omega) (by omega))
 | (rw [e26] at hp
    refine hp J55 (Or.inl (by omega)) ⟨rfb_psh r26 hok26 hop26 (fun a h8 h9 => by rw [uI_row h8, uI_row h8, uI_row h9]) (fun a h8 h9 => by rw [uI_o (by omega), uI_o (by omega), uI_row (by omega)]) ?_ (fun i hi => ?_) ?_ k55 hs55 f55, Or.inr ⟨?_, rfl⟩⟩ (Frf.tr (Frf.u6 (Frf.u6 (Frf.u1 (Fst.frf f26)) (by omega)) (by omega)) (FcR.frf f55))
    · rw [uI_o (by omega), uI_s]
    · have hi' : i ≠ q.length := hi
      rw [uI_row (by omega), uI_row (by omega), uI_o (by omega)]
    · show _ = _
      rw [uI_row (by omega), uI_row (by omega), uI_x rfl (by show q.length = _; omega)]
    · rw [f55.2 18 (by omega), uI_s])
 | (rw [e79, if_pos (by omega)] at hp
    first
    | (rw [if_pos (by omega)] at hp
       exact hp J123 (Or.inr (by omega)) s123 (Frf.tr (Frf.tr (Frf.u6 (Frf.u6 (Frf.tr (Fst.frf f79) (FcR.frf f83)) (by omega)) (by omega)) (Fst.frf f119)) f123))
    | (rw [if_neg (by omega)] at hp
       exact hp J123 (Or.inr (by omega)) s123 (Frf.tr (Frf.u6 (Frf.u6 (Frf.tr (Fst.frf f79) (FcR.frf f83)) (by omega)) (by omega)) f123)))
 | (rw [e79, if_neg (by omega)] at hp
    refine hp _ (Or.inr (by omega)) ⟨rfb_prt r83 ox ⟨?_, ?_⟩ (fun a h8 h9 => by rw [uI_row h8, uI_row h9]) (fun a h8 => by rw [uI_o (by omega), uI_row (by omega)]) (fun i hi => ?_) ?_, Or.inr ⟨by rw [uI_s], rfl⟩⟩ (Frf.u6 (Frf.u1 (Frf.tr (Fst.frf f79) (FcR.frf f83))) (by omega))
    · exact decide_eq_true (by omega)
    · omega
    · rw [uI_row (by omega), uI_o (by omega)]
    · rw [uI_row (by omega), uI_x rfl (by omega)]))
        · refine x_aload_n dX12_behindOne_116 rfl ?_
          refine x_iconst dX12_behindOne_117 ?_
          refine x_iconst dX12_behindOne_118 ?_
          refine x_callV2 (mc1 := 0) (ms1 := 0) dX12_behindOne_119 cv_RX12_172 (ci := 12) (k_ob_306 cs) rfl (Nat.le_of_ble_eq_true rfl) (n1 := n - 1) (by omega) (by omega) (by omega) ?_
          refine sp_X12_emit (o := o) (b := b2) (x := 294912) (op := 3) (v := 0) cs h8 (by omega) (by decide) r107.2.2.1 (fun J119 c119 e119 f119 => ?_)
          refine x_aload_n dX12_behindOne_122 rfl ?_
          refine x_callV0 (mc1 := 0) (ms1 := 0) dX12_behindOne_123 cv_RX12_195 (ci := 12) (k_ob_306 cs) rfl (Nat.le_of_ble_eq_true rfl) (n1 := n - 1) (by omega) (by omega) (by omega) ?_
          have r119 : RfB J119 t l o sl q (adv t l cu.1) (b2 ++ [294912]) := rfb_em r107 c119 e119 f119 (by omega)
          refine sp_X12_endOne (t := t) (l := l) (o := o) (sl := sl) (p := q) (cu := adv t l cu.1) (b := b2 ++ [294912]) cs (by omega) r119 (fun J123 s123 f123 => ?_)
          exact x_ireturn dX12_behindOne_126 rfl (by omega) (by omega) (by first
 | (exact hpe (by omega) (by omega))
 | (rw [e26] at hp
    refine hp J55 (Or.inl (by omega)) ⟨rfb_psh r26 hok26 hop26 (fun a h8 h9 => by rw [uI_row h8, uI_row h8, uI_row h9]) (fun a h8 h9 => by rw [uI_o (by omega), uI_o (by omega), uI_row (by omega)]) ?_ (fun i hi => ?_) ?_ k55 hs55 f55, Or.inr ⟨?_, rfl⟩⟩ (Frf.tr (Frf.u6 (Frf.u6 (Frf.u1 (Fst.frf f26)) (by omega)) (by omega)) (FcR.frf f55))
    · rw [uI_o (by omega), uI_s]
    · have hi' : i ≠ q.length := hi
      rw [uI_row (by omega), uI_row (by omega), uI_o (by omega)]
    · show _ = _
      rw [uI_row (by omega), uI_row (by omega), uI_x rfl (by show q.length = _; omega)]
    · rw [f55.2 18 (by omega), uI_s])
 | (rw [e79, if_pos (by omega)] at hp
    first
    | (rw [if_pos (by omega)] at hp
       exact hp J123 (Or.inr (by omega)) s123 (Frf.tr (Frf.tr (Frf.u6 (Frf.u6 (Frf.tr (Fst.frf f79) (FcR.frf f83)) (by omega)) (by omega)) (Fst.frf f119)) f123))
    | (rw [if_neg (by omega)] at hp
       exact hp J123 (Or.inr (by omega)) s123 (Frf.tr (Frf.u6 (Frf.u6 (Frf.tr (Fst.frf f79) (FcR.frf f83)) (by omega)) (by omega)) f123)))
 | (rw [e79, if_neg (by omega)] at hp
    refine hp _ (Or.inr (by omega)) ⟨rfb_prt r83 ox ⟨?_, ?_⟩ (fun a h8 h9 => by rw [uI_row h8, uI_row h9]) (fun a h8 => by rw [uI_o (by omega), uI_row (by omega)]) (fun i hi => ?_) ?_, Or.inr ⟨by rw [uI_s], rfl⟩⟩ (Frf.u6 (Frf.u1 (Frf.tr (Fst.frf f79) (FcR.frf f83))) (by omega))
    · exact decide_eq_true (by omega)
    · omega
    · rw [uI_row (by omega), uI_o (by omega)]
    · rw [uI_row (by omega), uI_x rfl (by omega)]))
    · refine x_iconst dX12_behindOne_75 ?_
      exact x_ireturn dX12_behindOne_76 rfl (by omega) (by omega) (by first
 | (exact hpe (by omega) (by omega))
 | (rw [e26] at hp
    refine hp J55 (Or.inl (by omega)) ⟨rfb_psh r26 hok26 hop26 (fun a h8 h9 => by rw [uI_row h8, uI_row h8, uI_row h9]) (fun a h8 h9 => by rw [uI_o (by omega), uI_o (by omega), uI_row (by omega)]) ?_ (fun i hi => ?_) ?_ k55 hs55 f55, Or.inr ⟨?_, rfl⟩⟩ (Frf.tr (Frf.u6 (Frf.u6 (Frf.u1 (Fst.frf f26)) (by omega)) (by omega)) (FcR.frf f55))
    · rw [uI_o (by omega), uI_s]
    · have hi' : i ≠ q.length := hi
      rw [uI_row (by omega), uI_row (by omega), uI_o (by omega)]
    · show _ = _
      rw [uI_row (by omega), uI_row (by omega), uI_x rfl (by show q.length = _; omega)]
    · rw [f55.2 18 (by omega), uI_s])
 | (rw [e79, if_pos (by omega)] at hp
    first
    | (rw [if_pos (by omega)] at hp
       exact hp J123 (Or.inr (by omega)) s123 (Frf.tr (Frf.tr (Frf.u6 (Frf.u6 (Frf.tr (Fst.frf f79) (FcR.frf f83)) (by omega)) (by omega)) (Fst.frf f119)) f123))
    | (rw [if_neg (by omega)] at hp
       exact hp J123 (Or.inr (by omega)) s123 (Frf.tr (Frf.u6 (Frf.u6 (Frf.tr (Fst.frf f79) (FcR.frf f83)) (by omega)) (by omega)) f123)))
 | (rw [e79, if_neg (by omega)] at hp
    refine hp _ (Or.inr (by omega)) ⟨rfb_prt r83 ox ⟨?_, ?_⟩ (fun a h8 h9 => by rw [uI_row h8, uI_row h9]) (fun a h8 => by rw [uI_o (by omega), uI_row (by omega)]) (fun i hi => ?_) ?_, Or.inr ⟨by rw [uI_s], rfl⟩⟩ (Frf.u6 (Frf.u1 (Frf.tr (Fst.frf f79) (FcR.frf f83))) (by omega))
    · exact decide_eq_true (by omega)
    · omega
    · rw [uI_row (by omega), uI_o (by omega)]
    · rw [uI_row (by omega), uI_x rfl (by omega)]))
  · refine x_aload_n dX12_behindOne_9 rfl ?_
    refine x_iload_n dX12_behindOne_10 rfl ?_
    refine x_callS1 (mc1 := 0) (ms1 := 0) dX12_behindOne_11 cv_RX12_169 (Nat.le_of_ble_eq_true rfl) (n1 := n - 1) (by omega) (by omega) (by omega) ?_
    refine sp_X12_rank (by omega) ?_
    refine x_iconst dX12_behindOne_14 ?_
    refine x_icmp_ne 22 dX12_behindOne_15 (by decide) ⟨(by omega), (by omega)⟩ (fun w15 => ?_) (fun w15 => ?_)
    · refine x_iload_n dX12_behindOne_22 rfl ?_
      refine x_callS1 (mc1 := 0) (ms1 := 0) dX12_behindOne_23 cv_RX12_169 (Nat.le_of_ble_eq_true rfl) (n1 := n - 1) (by omega) (by omega) (by omega) ?_
      refine sp_X12_rank (by omega) ?_
      refine x_callV1 (mc1 := 0) (ms1 := 0) dX12_behindOne_26 cv_RX12_209 (ci := 12) (k_ob_306 cs) rfl (Nat.le_of_ble_eq_true rfl) (n1 := n - 1) (by omega) (by omega) (by omega) ?_
      have hok26a := beh_okP (b := b) h5 hx (by omega)
      have eg26 : (if rk x = 4 then 5 else rk x) = (rk x) := if_neg (by omega)
      rw [eg26] at hok26a
      refine sp_X12_settle (g := (rk x)) (o := o) (p := p) (b := b) cs (by omega) (by have := hok26a.2.2.1; omega) h8 h2 h3 h5 (by omega) (by omega) (fun J26 s26 c26 f26 => ?_)
      have r26a := rfb_st h s26 c26 f26
      have e26a : behO t l p cu b = (0, (x :: (stl (rk x) p b).1, false, adv t l cu.1, (stl (rk x) p b).2)) := by
        unfold behO
        rw [hx, if_pos (by omega), eg26]
      have hlen26a := stl_len (g := (rk x)) p b
      obtain ⟨q, b2, hqb⟩ : ∃ q b2, stl (rk x) p b = (q, b2) := ⟨_, _, rfl⟩
      rw [hqb] at r26a e26a hlen26a hok26a
      have r26 : RfB J26 t l o sl q cu b2 := r26a
      have e26 : behO t l p cu b = (0, (x :: q, false, adv t l cu.1, b2)) := e26a
      have hlen26 : b2.length + q.length = b.length + p.length := hlen26a
      have hok26 : okP (x :: q) := hok26a.1
      have hop26 : opT x = false := hok26a.2.1
      have hl26 := okP_160 r26.2.2.2.2.1 r26.2.2.2.2.2.1
      have p26 : J26 306 16 = (q.length : Int) := r26.2.1.2.1
      refine x_aload_n dX12_behindOne_29 rfl ?_
      refine x_getR (b := 311) dX12_behindOne_30 gf_RX12_29 (k_ob_306 cs) (fun _ _ => rfl) (k_r_306_15 cs) ?_
      refine x_aload_n dX12_behindOne_33 rfl ?_
      refine x_getIv (z := (q.length : Int)) dX12_behindOne_34 gf_RX12_166 (k_ob_306 cs) (fun _ _ => rfl) (by first | exact p26 | (rw [uI_row (by omega)]; exact p26) | exact p83a | (rw [uI_o (by omega)]; exact p83b)) ?_
      refine x_iload_n dX12_behindOne_37 rfl ?_
      refine x_iastore dX12_behindOne_38 (k_ar_311 cs) (by omega) (by omega) ?_
      refine x_aload_n dX12_behindOne_39 rfl ?_
      refine x_dup dX12_behindOne_40 rfl ?_
      refine x_getIv (z := (q.length : Int)) dX12_behindOne_41 gf_RX12_166 (k_ob_306 cs) (fun _ _ => rfl) (by first | exact p26 | (rw [uI_row (by omega)]; exact p26) | exact p83a | (rw [uI_o (by omega)]; exact p83b)) ?_
      refine x_iconst dX12_behindOne_44 ?_
      refine x_iadd dX12_behindOne_45 ?_
      refine x_putI dX12_behindOne_46 gf_RX12_166 (k_ob_306 cs) rfl ?_
      refine x_aload_n dX12_behindOne_49 rfl ?_
      refine x_iconst dX12_behindOne_50 ?_
      refine x_putZ dX12_behindOne_51 gf_RX12_212 (k_ob_306 cs) rfl (by omega) ?_
      refine x_aload_n dX12_behindOne_54 rfl ?_
      refine x_callV0 (mc1 := 0) (ms1 := 0) dX12_behindOne_55 cv_RX12_186 (ci := 12) (k_ob_306 cs) rfl (Nat.le_of_ble_eq_true rfl) (n1 := n - 1) (by omega) (by omega) (by omega) ?_
      have k0 := btw_0 (p := p) (w := cu.2.2.1) (by omega)
      refine sp_nxt (t := t) (l := l) (cu := cu) cs (by omega) (tk_fr r26.1 (by rw [uI_row (by omega), uI_row (by omega), uI_row (by omega)]) (fun a ha => by rw [uI_o (by omega), uI_o (by omega), uI_row (by omega)])) (fun J55 k55 s55 m55 f55 => ?_)
      have hs55 := s55 k0
      refine x_iconst dX12_behindOne_58 ?_
      exact x_ireturn dX12_behindOne_59 rfl (by omega) (by omega) (by first
 | (exact hpe (by omega) (by omega))
 | (rw [e26] at hp
    refine hp J55 (Or.inl (by omega)) ⟨rfb_psh r26 hok26 hop26 (fun a h8 h9 => by rw [uI_row h8, uI_row h8, uI_row h9]) (fun a h8 h9 => by rw [uI_o (by omega), uI_o (by omega), uI_row (by omega)]) ?_ (fun i hi => ?_) ?_ k55 hs55 f55, Or.inr ⟨?_, rfl⟩⟩ (Frf.tr (Frf.u6 (Frf.u6 (Frf.u1 (Fst.frf f26)) (by omega)) (by omega)) (FcR.frf f55))
    · rw [uI_o (by omega), uI_s]
    · have hi' : i ≠ q.length := hi
      rw [uI_row (by omega), uI_row (by omega), uI_o (by omega)]
    · show _ = _
      rw [uI_row (by omega), uI_row (by omega), uI_x rfl (by show q.length = _; omega)]
    · rw [f55.2 18 (by omega), uI_s])
 | (rw [e79, if_pos (by omega)] at hp
    first
    | (rw [if_pos (by omega)] at hp
       exact hp J123 (Or.inr (by omega)) s123 (Frf.tr (Frf.tr (Frf.u6 (Frf.u6 (Frf.tr (Fst.frf f79) (FcR.frf f83)) (by omega)) (by omega)) (Fst.frf f119)) f123))
    | (rw [if_neg (by omega)] at hp
       exact hp J123 (Or.inr (by omega)) s123 (Frf.tr (Frf.u6 (Frf.u6 (Frf.tr (Fst.frf f79) (FcR.frf f83)) (by omega)) (by omega)) f123)))
 | (rw [e79, if_neg (by omega)] at hp
    refine hp _ (Or.inr (by omega)) ⟨rfb_prt r83 ox ⟨?_, ?_⟩ (fun a h8 h9 => by rw [uI_row h8, uI_row h9]) (fun a h8 => by rw [uI_o (by omega), uI_row (by omega)]) (fun i hi => ?_) ?_, Or.inr ⟨by rw [uI_s], rfl⟩⟩ (Frf.u6 (Frf.u1 (Frf.tr (Fst.frf f79) (FcR.frf f83))) (by omega))
    · exact decide_eq_true (by omega)
    · omega
    · rw [uI_row (by omega), uI_o (by omega)]
    · rw [uI_row (by omega), uI_x rfl (by omega)]))
    · refine x_iconst dX12_behindOne_18 ?_
      refine x_goto 26 dX12_behindOne_19 (by decide) ?_
      refine x_callV1 (mc1 := 0) (ms1 := 0) dX12_behindOne_26 cv_RX12_209 (ci := 12) (k_ob_306 cs) rfl (Nat.le_of_ble_eq_true rfl) (n1 := n - 1) (by omega) (by omega) (by omega) ?_
      have hok26a := beh_okP (b := b) h5 hx (by omega)
      have eg26 : (if rk x = 4 then 5 else rk x) = 5 := if_pos (by omega)
      rw [eg26] at hok26a
      refine sp_X12_settle (g := 5) (o := o) (p := p) (b := b) cs (by omega) (by have := hok26a.2.2.1; omega) h8 h2 h3 h5 (by omega) (by omega) (fun J26 s26 c26 f26 => ?_)
      have r26a := rfb_st h s26 c26 f26
      have e26a : behO t l p cu b = (0, (x :: (stl 5 p b).1, false, adv t l cu.1, (stl 5 p b).2)) := by
        unfold behO
        rw [hx, if_pos (by omega), eg26]
      have hlen26a := stl_len (g := 5) p b
      obtain ⟨q, b2, hqb⟩ : ∃ q b2, stl 5 p b = (q, b2) := ⟨_, _, rfl⟩
      rw [hqb] at r26a e26a hlen26a hok26a
      have r26 : RfB J26 t l o sl q cu b2 := r26a
      have e26 : behO t l p cu b = (0, (x :: q, false, adv t l cu.1, b2)) := e26a
      have hlen26 : b2.length + q.length = b.length + p.length := hlen26a
      have hok26 : okP (x :: q) := hok26a.1
      have hop26 : opT x = false := hok26a.2.1
      have hl26 := okP_160 r26.2.2.2.2.1 r26.2.2.2.2.2.1
      have p26 : J26 306 16 = (q.length : Int) := r26.2.1.2.1
      refine x_aload_n dX12_behindOne_29 rfl ?_
      refine x_getR (b := 311) dX12_behindOne_30 gf_RX12_29 (k_ob_306 cs) (fun _ _ => rfl) (k_r_306_15 cs) ?_
      refine x_aload_n dX12_behindOne_33 rfl ?_
      refine x_getIv (z := (q.length : Int)) dX12_behindOne_34 gf_RX12_166 (k_ob_306 cs) (fun _ _ => rfl) (by first | exact p26 | (rw [uI_row (by omega)]; exact p26) | exact p83a | (rw [uI_o (by omega)]; exact p83b)) ?_
      refine x_iload_n dX12_behindOne_37 rfl ?_
      refine x_iastore dX12_behindOne_38 (k_ar_311 cs) (by omega) (by omega) ?_
      refine x_aload_n dX12_behindOne_39 rfl ?_
      refine x_dup dX12_behindOne_40 rfl ?_
      refine x_getIv (z := (q.length : Int)) dX12_behindOne_41 gf_RX12_166 (k_ob_306 cs) (fun _ _ => rfl) (by first | exact p26 | (rw [uI_row (by omega)]; exact p26) | exact p83a | (rw [uI_o (by omega)]; exact p83b)) ?_
      refine x_iconst dX12_behindOne_44 ?_
      refine x_iadd dX12_behindOne_45 ?_
      refine x_putI dX12_behindOne_46 gf_RX12_166 (k_ob_306 cs) rfl ?_
      refine x_aload_n dX12_behindOne_49 rfl ?_
      refine x_iconst dX12_behindOne_50 ?_
      refine x_putZ dX12_behindOne_51 gf_RX12_212 (k_ob_306 cs) rfl (by omega) ?_
      refine x_aload_n dX12_behindOne_54 rfl ?_
      refine x_callV0 (mc1 := 0) (ms1 := 0) dX12_behindOne_55 cv_RX12_186 (ci := 12) (k_ob_306 cs) rfl (Nat.le_of_ble_eq_true rfl) (n1 := n - 1) (by omega) (by omega) (by omega) ?_
      have k0 := btw_0 (p := p) (w := cu.2.2.1) (by omega)
      refine sp_nxt (t := t) (l := l) (cu := cu) cs (by omega) (tk_fr r26.1 (by rw [uI_row (by omega), uI_row (by omega), uI_row (by omega)]) (fun a ha => by rw [uI_o (by omega), uI_o (by omega), uI_row (by omega)])) (fun J55 k55 s55 m55 f55 => ?_)
      have hs55 := s55 k0
      refine x_iconst dX12_behindOne_58 ?_
      exact x_ireturn dX12_behindOne_59 rfl (by omega) (by omega) (by first
 | (exact hpe (by omega) (by omega))
 | (rw [e26] at hp
    refine hp J55 (Or.inl (by omega)) ⟨rfb_psh r26 hok26 hop26 (fun a h8 h9 => by rw [uI_row h8, uI_row h8, uI_row h9]) (fun a h8 h9 => by rw [uI_o (by omega), uI_o (by omega), uI_row (by omega)]) ?_ (fun i hi => ?_) ?_ k55 hs55 f55, Or.inr ⟨?_, rfl⟩⟩ (Frf.tr (Frf.u6 (Frf.u6 (Frf.u1 (Fst.frf f26)) (by omega)) (by omega)) (FcR.frf f55))
    · rw [uI_o (by omega), uI_s]
    · have hi' : i ≠ q.length := hi
      rw [uI_row (by omega), uI_row (by omega), uI_o (by omega)]
    · show _ = _
      rw [uI_row (by omega), uI_row (by omega), uI_x rfl (by show q.length = _; omega)]
    · rw [f55.2 18 (by omega), uI_s])
 | (rw [e79, if_pos (by omega)] at hp
    first
    | (rw [if_pos (by omega)] at hp
       exact hp J123 (Or.inr (by omega)) s123 (Frf.tr (Frf.tr (Frf.u6 (Frf.u6 (Frf.tr (Fst.frf f79) (FcR.frf f83)) (by omega)) (by omega)) (Fst.frf f119)) f123))
    | (rw [if_neg (by omega)] at hp
       exact hp J123 (Or.inr (by omega)) s123 (Frf.tr (Frf.u6 (Frf.u6 (Frf.tr (Fst.frf f79) (FcR.frf f83)) (by omega)) (by omega)) f123)))
 | (rw [e79, if_neg (by omega)] at hp
    refine hp _ (Or.inr (by omega)) ⟨rfb_prt r83 ox ⟨?_, ?_⟩ (fun a h8 h9 => by rw [uI_row h8, uI_row h9]) (fun a h8 => by rw [uI_o (by omega), uI_row (by omega)]) (fun i hi => ?_) ?_, Or.inr ⟨by rw [uI_s], rfl⟩⟩ (Frf.u6 (Frf.u1 (Frf.tr (Fst.frf f79) (FcR.frf f83))) (by omega))
    · exact decide_eq_true (by omega)
    · omega
    · rw [uI_row (by omega), uI_o (by omega)]
    · rw [uI_row (by omega), uI_x rfl (by omega)]))
end Rm7s
