section Rd5
variable {n mc ms : Nat} {M : Md} {pc : Nat} {lv : List (Nat × Value)} {st : List Value} {k j : Nat} {Post : PT} {S : Sh} {I : CI} {R : CR} {A : Nat → Int} {tx : Nat → Nat → Int}
variable {t : Nat → Int} {l : Nat} {F : Int → Nat → Prop} {G : TMS → Prop}
def EnC (J : CI) (k : Nat) (e : CE) : Prop := J 290 (4 * k) = e.1 ∧ (138 ≤ e.1 ∨ e.1 = 128 → J 290 (4 * k + 1) = e.2.1) ∧ (e.1 = 138 → J 290 (4 * k + 2) = e.2.2.1 ∧ J 290 (4 * k + 3) = e.2.2.2)
def ClC (J : CI) (cl : List CE) (code : List Int) : Prop := J 287 7 = (cl.length : Int) ∧ (∀ k e, cl[k]? = some e → EnC J k e) ∧ LwC cl 136 (J 287 8) (J 287 9) ∧ LwC cl 137 (J 287 10) (J 287 11) ∧ (∀ e ∈ cl, EnOK code e) ∧ cl.length ≤ 24
def OutT (J : CI) (t : Nat → Int) (l : Nat) (F : Int → Nat → Prop) (G : TMS → Prop) : Prop := (TpC J t l ∧ (0 ≤ J 287 12 ∧ J 287 12 ≤ 1) ∧ CB J) ∧ (((1 ≤ J 287 4 ∧ J 287 4 ≤ 6) ∧ (∃ cu, CuC J cu ∧ CuOK l cu) ∧ ∃ pl : Nat, J 287 5 = (pl : Int) ∧ F (J 287 4) pl) ∨ (J 287 4 = 0 ∧ ∃ s : TMS, RdC J l s.2.2 s.2.1 ∧ ClC J s.1 s.2.1 ∧ G s))
theorem lw_b {cl : List CE} {code : List Int} {w fr to : Int} (h : LwC cl w fr to) (hw : isLw w) (hE : ∀ e ∈ cl, EnOK code e) (h3 : code.length ≤ 300) : 0 ≤ to ∧ to ≤ 300 := by
  rcases h with ⟨c, e, h1, h2, h4, h5, h6, h7⟩ | ⟨h1, h2, h4⟩
  · have h8 := (hE e (List.mem_of_getElem? h1)).2 (by rw [h2]; exact hw)
    obtain ⟨a, v, b, e1, e2, e3, -⟩ := h8
    have e4 : code.length = (a ++ v).length + b.length := by rw [e1, List.length_append]
    omega
  · omega
theorem clc_app {J : CI} {cl : List CE} {code code2 : List Int} {e : CE} (h : ClC I cl code) (h7 : J 287 7 = ((cl.length + 1 : Nat) : Int)) (hold : ∀ k, k < 4 * cl.length → J 290 k = I 290 k) (he : EnC J cl.length e) (hl1 : LwC (cl ++ [e]) 136 (J 287 8) (J 287 9)) (hl2 : LwC (cl ++ [e]) 137 (J 287 10) (J 287 11)) (hok : EnOK code2 e) (hcode : ∃ v, code2 = code ++ v) (hlt : cl.length < 24) : ClC J (cl ++ [e]) code2 := by
  obtain ⟨a1, a2, a3, a4, a5, a6⟩ := h
  refine ⟨by rw [h7, List.length_append, List.length_singleton], fun k e2 hk => ?_, hl1, hl2, fun e2 h2 => ?_, by rw [List.length_append, List.length_singleton]; omega⟩
  · by_cases hc : k < cl.length
    · rw [List.getElem?_append_left hc] at hk
      obtain ⟨b1, b2, b3⟩ := a2 k e2 hk
      unfold EnC
      rw [hold (4 * k) (by omega), hold (4 * k + 1) (by omega), hold (4 * k + 2) (by omega), hold (4 * k + 3) (by omega)]
      exact ⟨b1, b2, b3⟩
    · have hk2 : k = cl.length := by
        have := (List.getElem?_eq_some_iff.mp hk).1
        rw [List.length_append, List.length_singleton] at this
        omega
      subst hk2
      rw [List.getElem?_append_right (Nat.le_refl _), Nat.sub_self] at hk
      cases hk
      exact he
  · rcases List.mem_append.mp h2 with h3 | h3
    · obtain ⟨v, rfl⟩ := hcode
      exact ⟨(a5 e2 h3).1, fun h4 => law_app ((a5 e2 h3).2 h4)⟩
    · rw [List.mem_singleton.mp h3]; exact hok
theorem outT_f {J : CI} {sl : Bool} (h : OutC J t l sl F (fun _ _ => False)) (hc : CB J) : OutT J t l F G := by
  have hb := out_b h
  refine ⟨⟨h.1.1, hb.2.2.1, hc⟩, ?_⟩
  rcases h.2 with h1 | ⟨_, _, _, _, h1⟩
  · exact Or.inl h1
  · exact h1.elim
theorem outT_o {J : CI} {sl : Bool} {G0 : Cu → List Int → Prop} (h : OutC J t l sl F G0) (hc : CB J) (hG : ∀ cu c, J 287 4 = 0 → RdC J l cu c → G0 cu c → ∃ cl, ClC J cl c ∧ G (cl, c, cu)) : OutT J t l F G := by
  have hb := out_b h
  refine ⟨⟨h.1.1, hb.2.2.1, hc⟩, ?_⟩
  rcases h.2 with h1 | ⟨h0, cu, c, h1, h2⟩
  · exact Or.inl h1
  · obtain ⟨cl, h3, h4⟩ := hG cu c h0 h1 h2
    exact Or.inr ⟨h0, (cl, c, cu), h1, h3, h4⟩
theorem dX5_readClause_0 : decode prog_7_method_13_code 0 = .ok (.aload_n 0, 1) := by decide +kernel
theorem dX5_readClause_1 : decode prog_7_method_13_code 1 = .ok (.getfield 41, 3) := by decide +kernel
theorem dX5_readClause_4 : decode prog_7_method_13_code 4 = .ok (.istore_n 2, 1) := by decide +kernel
theorem dX5_readClause_5 : decode prog_7_method_13_code 5 = .ok (.iload_n 2, 1) := by decide +kernel
theorem dX5_readClause_6 : decode prog_7_method_13_code 6 = .ok (.invokestatic 119, 3) := by decide +kernel
theorem dX5_readClause_9 : decode prog_7_method_13_code 9 = .ok (.ifCond .ne 11, 3) := by decide +kernel
theorem dX5_readClause_12 : decode prog_7_method_13_code 12 = .ok (.aload_n 0, 1) := by decide +kernel
theorem dX5_readClause_13 : decode prog_7_method_13_code 13 = .ok (.iconst 1, 1) := by decide +kernel
theorem dX5_readClause_14 : decode prog_7_method_13_code 14 = .ok (.invokevirtual 122, 3) := by decide +kernel
theorem dX5_readClause_17 : decode prog_7_method_13_code 17 = .ok (.goto 160, 3) := by decide +kernel
theorem dX5_readClause_20 : decode prog_7_method_13_code 20 = .ok (.iload_n 2, 1) := by decide +kernel
theorem dX5_readClause_21 : decode prog_7_method_13_code 21 = .ok (.sipush 136, 3) := by decide +kernel
theorem dX5_readClause_24 : decode prog_7_method_13_code 24 = .ok (.if_icmp .ne 10, 3) := by decide +kernel
theorem dX5_readClause_27 : decode prog_7_method_13_code 27 = .ok (.aload_n 0, 1) := by decide +kernel
theorem dX5_readClause_28 : decode prog_7_method_13_code 28 = .ok (.getfield 62, 3) := by decide +kernel
theorem dX5_readClause_31 : decode prog_7_method_13_code 31 = .ok (.ifCond .gt 17, 3) := by decide +kernel
theorem dX5_readClause_34 : decode prog_7_method_13_code 34 = .ok (.iload_n 2, 1) := by decide +kernel
theorem dX5_readClause_35 : decode prog_7_method_13_code 35 = .ok (.sipush 137, 3) := by decide +kernel
theorem dX5_readClause_38 : decode prog_7_method_13_code 38 = .ok (.if_icmp .ne 18, 3) := by decide +kernel
theorem dX5_readClause_41 : decode prog_7_method_13_code 41 = .ok (.aload_n 0, 1) := by decide +kernel
theorem dX5_readClause_42 : decode prog_7_method_13_code 42 = .ok (.getfield 68, 3) := by decide +kernel
theorem dX5_readClause_45 : decode prog_7_method_13_code 45 = .ok (.ifCond .le 11, 3) := by decide +kernel
theorem dX5_readClause_48 : decode prog_7_method_13_code 48 = .ok (.aload_n 0, 1) := by decide +kernel
theorem dX5_readClause_49 : decode prog_7_method_13_code 49 = .ok (.iconst 4, 1) := by decide +kernel
theorem dX5_readClause_50 : decode prog_7_method_13_code 50 = .ok (.invokevirtual 122, 3) := by decide +kernel
theorem dX5_readClause_53 : decode prog_7_method_13_code 53 = .ok (.goto 124, 3) := by decide +kernel
theorem dX5_readClause_56 : decode prog_7_method_13_code 56 = .ok (.iload_n 1, 1) := by decide +kernel
theorem dX5_readClause_57 : decode prog_7_method_13_code 57 = .ok (.bipush 24, 2) := by decide +kernel
theorem dX5_readClause_59 : decode prog_7_method_13_code 59 = .ok (.if_icmp .lt 12, 3) := by decide +kernel
theorem dX5_readClause_62 : decode prog_7_method_13_code 62 = .ok (.aload_n 0, 1) := by decide +kernel
theorem dX5_readClause_63 : decode prog_7_method_13_code 63 = .ok (.bipush 6, 2) := by decide +kernel
theorem dX5_readClause_65 : decode prog_7_method_13_code 65 = .ok (.invokevirtual 122, 3) := by decide +kernel
theorem dX5_readClause_68 : decode prog_7_method_13_code 68 = .ok (.goto 109, 3) := by decide +kernel
theorem dX5_readClause_71 : decode prog_7_method_13_code 71 = .ok (.aload_n 0, 1) := by decide +kernel
theorem dX5_readClause_72 : decode prog_7_method_13_code 72 = .ok (.getfield 18, 3) := by decide +kernel
theorem dX5_readClause_75 : decode prog_7_method_13_code 75 = .ok (.iload_n 1, 1) := by decide +kernel
theorem dX5_readClause_76 : decode prog_7_method_13_code 76 = .ok (.iconst 4, 1) := by decide +kernel
theorem dX5_readClause_77 : decode prog_7_method_13_code 77 = .ok (.imul, 1) := by decide +kernel
theorem dX5_readClause_78 : decode prog_7_method_13_code 78 = .ok (.iload_n 2, 1) := by decide +kernel
theorem dX5_readClause_79 : decode prog_7_method_13_code 79 = .ok (.iastore, 1) := by decide +kernel
theorem dX5_readClause_80 : decode prog_7_method_13_code 80 = .ok (.aload_n 0, 1) := by decide +kernel
theorem dX5_readClause_81 : decode prog_7_method_13_code 81 = .ok (.iload_n 1, 1) := by decide +kernel
theorem dX5_readClause_82 : decode prog_7_method_13_code 82 = .ok (.iconst 1, 1) := by decide +kernel
theorem dX5_readClause_83 : decode prog_7_method_13_code 83 = .ok (.iadd, 1) := by decide +kernel
theorem dX5_readClause_84 : decode prog_7_method_13_code 84 = .ok (.putfield 56, 3) := by decide +kernel
theorem dX5_readClause_87 : decode prog_7_method_13_code 87 = .ok (.aload_n 0, 1) := by decide +kernel
theorem dX5_readClause_88 : decode prog_7_method_13_code 88 = .ok (.invokevirtual 34, 3) := by decide +kernel
theorem dX5_readClause_91 : decode prog_7_method_13_code 91 = .ok (.iload_n 2, 1) := by decide +kernel
theorem dX5_readClause_92 : decode prog_7_method_13_code 92 = .ok (.sipush 136, 3) := by decide +kernel
theorem dX5_readClause_95 : decode prog_7_method_13_code 95 = .ok (.if_icmp .ne 32, 3) := by decide +kernel
theorem dX5_readClause_98 : decode prog_7_method_13_code 98 = .ok (.aload_n 0, 1) := by decide +kernel
theorem dX5_readClause_99 : decode prog_7_method_13_code 99 = .ok (.iconst 0, 1) := by decide +kernel
theorem dX5_readClause_100 : decode prog_7_method_13_code 100 = .ok (.putfield 125, 3) := by decide +kernel
theorem dX5_readClause_103 : decode prog_7_method_13_code 103 = .ok (.aload_n 0, 1) := by decide +kernel
theorem dX5_readClause_104 : decode prog_7_method_13_code 104 = .ok (.aload_n 0, 1) := by decide +kernel
theorem dX5_readClause_105 : decode prog_7_method_13_code 105 = .ok (.getfield 53, 3) := by decide +kernel
theorem dX5_readClause_108 : decode prog_7_method_13_code 108 = .ok (.putfield 59, 3) := by decide +kernel
theorem dX5_readClause_111 : decode prog_7_method_13_code 111 = .ok (.aload_n 0, 1) := by decide +kernel
theorem dX5_readClause_112 : decode prog_7_method_13_code 112 = .ok (.iconst 0, 1) := by decide +kernel
theorem dX5_readClause_113 : decode prog_7_method_13_code 113 = .ok (.invokevirtual 129, 3) := by decide +kernel
theorem dX5_readClause_116 : decode prog_7_method_13_code 116 = .ok (.aload_n 0, 1) := by decide +kernel
theorem dX5_readClause_117 : decode prog_7_method_13_code 117 = .ok (.aload_n 0, 1) := by decide +kernel
theorem dX5_readClause_118 : decode prog_7_method_13_code 118 = .ok (.getfield 53, 3) := by decide +kernel
theorem dX5_readClause_121 : decode prog_7_method_13_code 121 = .ok (.putfield 62, 3) := by decide +kernel
theorem dX5_readClause_124 : decode prog_7_method_13_code 124 = .ok (.goto 47, 3) := by decide +kernel
theorem dX5_readClause_127 : decode prog_7_method_13_code 127 = .ok (.iload_n 2, 1) := by decide +kernel
theorem dX5_readClause_128 : decode prog_7_method_13_code 128 = .ok (.sipush 137, 3) := by decide +kernel
theorem dX5_readClause_131 : decode prog_7_method_13_code 131 = .ok (.if_icmp .ne 32, 3) := by decide +kernel
theorem dX5_readClause_134 : decode prog_7_method_13_code 134 = .ok (.aload_n 0, 1) := by decide +kernel
theorem dX5_readClause_135 : decode prog_7_method_13_code 135 = .ok (.iconst 1, 1) := by decide +kernel
theorem dX5_readClause_136 : decode prog_7_method_13_code 136 = .ok (.putfield 125, 3) := by decide +kernel
theorem dX5_readClause_139 : decode prog_7_method_13_code 139 = .ok (.aload_n 0, 1) := by decide +kernel
theorem dX5_readClause_140 : decode prog_7_method_13_code 140 = .ok (.aload_n 0, 1) := by decide +kernel
theorem dX5_readClause_141 : decode prog_7_method_13_code 141 = .ok (.getfield 53, 3) := by decide +kernel
theorem dX5_readClause_144 : decode prog_7_method_13_code 144 = .ok (.putfield 65, 3) := by decide +kernel
theorem dX5_readClause_147 : decode prog_7_method_13_code 147 = .ok (.aload_n 0, 1) := by decide +kernel
theorem dX5_readClause_148 : decode prog_7_method_13_code 148 = .ok (.iconst 0, 1) := by decide +kernel
theorem dX5_readClause_149 : decode prog_7_method_13_code 149 = .ok (.invokevirtual 129, 3) := by decide +kernel
theorem dX5_readClause_152 : decode prog_7_method_13_code 152 = .ok (.aload_n 0, 1) := by decide +kernel
theorem dX5_readClause_153 : decode prog_7_method_13_code 153 = .ok (.aload_n 0, 1) := by decide +kernel
theorem dX5_readClause_154 : decode prog_7_method_13_code 154 = .ok (.getfield 53, 3) := by decide +kernel
theorem dX5_readClause_157 : decode prog_7_method_13_code 157 = .ok (.putfield 68, 3) := by decide +kernel
theorem dX5_readClause_160 : decode prog_7_method_13_code 160 = .ok (.goto 11, 3) := by decide +kernel
theorem dX5_readClause_163 : decode prog_7_method_13_code 163 = .ok (.aload_n 0, 1) := by decide +kernel
theorem dX5_readClause_164 : decode prog_7_method_13_code 164 = .ok (.iload_n 2, 1) := by decide +kernel
theorem dX5_readClause_165 : decode prog_7_method_13_code 165 = .ok (.iload_n 1, 1) := by decide +kernel
theorem dX5_readClause_166 : decode prog_7_method_13_code 166 = .ok (.iconst 4, 1) := by decide +kernel
theorem dX5_readClause_167 : decode prog_7_method_13_code 167 = .ok (.imul, 1) := by decide +kernel
theorem dX5_readClause_168 : decode prog_7_method_13_code 168 = .ok (.invokevirtual 132, 3) := by decide +kernel
theorem dX5_readClause_171 : decode prog_7_method_13_code 171 = .ok (.aload_n 0, 1) := by decide +kernel
theorem dX5_readClause_172 : decode prog_7_method_13_code 172 = .ok (.bipush 59, 2) := by decide +kernel
theorem dX5_readClause_174 : decode prog_7_method_13_code 174 = .ok (.invokevirtual 136, 3) := by decide +kernel
theorem dX5_readClause_177 : decode prog_7_method_13_code 177 = .ok (.return_, 1) := by decide +kernel
theorem sp_X5_readClause {cl : List CE} {code : List Int} {cu : Cu} {i : Nat} (cs : CS S R) (hn : 76 ≤ n) (hi : cl.length = i) (hT : TpC I t l) (h12 : 0 ≤ I 287 12 ∧ I 287 12 ≤ 1) (hcb : CB I) (h0 : I 287 4 = 0) (hR : RdC I l cu code) (hC : ClC I cl code) (hF : ∀ f pl, ClF t l (cl, code, cu) f pl → F f pl) (hG : ∀ s2, ClG t l (cl, code, cu) s2 → G s2) (hp : ∀ J, Frc I J → OutT J t l F G → Post none S J R) : Call n 0 0 mX5_readClause [.ref (S.2.1 287), .int (iI (i : Int))] S I R Post := by
  obtain ⟨sl, hsl⟩ : ∃ sl : Bool, (I 287 12 = 1 ∧ sl = true) ∨ (I 287 12 = 0 ∧ sl = false) := by
    by_cases h : I 287 12 = 1
    · exact ⟨true, Or.inl ⟨h, rfl⟩⟩
    · exact ⟨false, Or.inr ⟨by omega, rfl⟩⟩
  have k1 := hR.1.2.2.1
  have k2 := hR.2.1.2.2.2.2.1
  have k3 := hR.2.1.1
  have k4 := hR.2.1.2.1
  have l3 := hT.2.2.1
  have k5 := hR.2.2.2.2.1
  have c24 := hC.2.2.2.2.2
  have lb1 := lw_b hC.2.2.1 (Or.inl rfl) hC.2.2.2.2.1 (by omega)
  have lb2 := lw_b hC.2.2.2.1 (Or.inr rfl) hC.2.2.2.2.1 (by omega)
  have lh1 := lw_has hC.2.2.1
  have lh2 := lw_has hC.2.2.2.1
  have hRf : ∀ f : Int, F f cu.2.1 → OutC I t l sl F (fun cu c => F f cu.2.1) := fun f hf => ⟨⟨hT, hsl⟩, Or.inr ⟨h0, cu, code, hR, hf⟩⟩
  refine Call.of (by decide +kernel) (Nat.le_of_ble_eq_true rfl) ?_
  show WP _ _ _ _ _ 0 [(0, _), (1, _)] [] 0 0 _ _ _
  refine x_aload_n dX5_readClause_0 rfl ?_
  refine x_getI dX5_readClause_1 gf_RX5_41 (k_ob_287 cs) (fun _ _ => rfl) ?_
  refine x_istore_n (lv2 := [(2, _), (0, _), (1, _)]) dX5_readClause_4 (by decide) rfl ?_
  refine x_iload_n dX5_readClause_5 rfl ?_
  refine x_callS1 (mc1 := 0) (ms1 := 0) dX5_readClause_6 cv_RX5_119 (Nat.le_of_ble_eq_true rfl) (n1 := n - 1) (by omega) (by omega) (by omega) ?_
  refine sp_X5_beginsClause (by omega) (fun r6 hr6 => ?_)
  refine x_if_ne 20 dX5_readClause_9 (by decide) (by omega) (fun w9 => ?_) (fun w9 => ?_)
  · refine x_iload_n dX5_readClause_20 rfl ?_
    refine x_sipush dX5_readClause_21 (by decide) ?_
    refine x_icmp_ne 34 dX5_readClause_24 (by decide) ⟨(by omega), (by omega)⟩ (fun w24 => ?_) (fun w24 => ?_)
    · refine x_iload_n dX5_readClause_34 rfl ?_
      refine x_sipush dX5_readClause_35 (by decide) ?_
      refine x_icmp_ne 56 dX5_readClause_38 (by decide) ⟨(by omega), (by omega)⟩ (fun w38 => ?_) (fun w38 => ?_)
      · refine x_iload_n dX5_readClause_56 rfl ?_
        refine x_bipush dX5_readClause_57 (by decide) ?_
        refine x_icmp_lt 71 dX5_readClause_59 (by decide) ⟨(by omega), (by omega)⟩ (fun w59 => ?_) (fun w59 => ?_)
        · refine x_aload_n dX5_readClause_71 rfl ?_
          refine x_getR (b := 290) dX5_readClause_72 gf_RX5_18 (k_ob_287 cs) (fun _ _ => rfl) (k_r_287_2 cs) ?_
          refine x_iload_n dX5_readClause_75 rfl ?_
          refine x_iconst dX5_readClause_76 ?_
          refine x_imul dX5_readClause_77 ?_
          refine x_iload_n dX5_readClause_78 rfl ?_
          refine x_iastore dX5_readClause_79 (k_ar_290 cs) (by omega) (by omega) ?_
          refine x_aload_n dX5_readClause_80 rfl ?_
          refine x_iload_n dX5_readClause_81 rfl ?_
          refine x_iconst dX5_readClause_82 ?_
          refine x_iadd dX5_readClause_83 ?_
          refine x_putI dX5_readClause_84 gf_RX5_56 (k_ob_287 cs) rfl ?_
          refine x_aload_n dX5_readClause_87 rfl ?_
          refine x_callV0 (mc1 := 0) (ms1 := 0) dX5_readClause_88 cv_RX5_34 (ci := 5) (k_ob_287 cs) rfl (Nat.le_of_ble_eq_true rfl) (n1 := n - 1) (by omega) (by omega) (by omega) ?_
          have fo88 : Foc I (uI (uI I 290 (((i : Int) * 4).toNat) (I 287 15)) 287 7 ((i : Int) + 1)) := Foc.u7 (Foc.u0 Foc.rf) (by omega)
          refine sp_X5_advance (t := t) (l := l) (p := cu.1) cs (by omega) (tpc_fr hT fo88) k4 (by rw [uI_o (by omega), uI_o (by omega)]; exact hR.1.1) (fun J88 c88 f88 => ?_)
          have hT88 : TpC J88 t l := TpC.f (tpc_fr hT fo88) f88
          have hne : cu.2.2.1 ≠ 0 := by omega
          have ca88 := cu_adv (t := t) hR.2.1 l3
          have hR88 : RdC J88 l (adv t l cu.1) code := ⟨c88, ca88.1, by rw [f88.2 6 (by omega), uI_o (by omega), uI_o (by omega)]; exact hR.2.2.1, fun q hq => by rw [f88.1 289 (by omega), uI_o (by omega), uI_o (by omega)]; exact hR.2.2.2.1 q hq, by have := ca88.2.2; omega, by rw [f88.2 5 (by omega), uI_o (by omega), uI_o (by omega)]; exact hR.2.2.2.2.2⟩
          have h88 : J88 287 4 = 0 := by rw [f88.2 4 (by omega), uI_o (by omega), uI_o (by omega)]; exact h0
          have s88 : (J88 287 12 = 1 ∧ sl = true) ∨ (J88 287 12 = 0 ∧ sl = false) := by rw [f88.2 12 (by omega), uI_o (by omega), uI_o (by omega)]; exact hsl
          skip
          refine x_iload_n dX5_readClause_91 rfl ?_
          refine x_sipush dX5_readClause_92 (by decide) ?_
          refine x_icmp_ne 127 dX5_readClause_95 (by decide) ⟨(by omega), (by omega)⟩ (fun w95 => ?_) (fun w95 => ?_)
          · refine x_iload_n dX5_readClause_127 rfl ?_
            refine x_sipush dX5_readClause_128 (by decide) ?_
            refine x_icmp_ne 163 dX5_readClause_131 (by decide) ⟨(by omega), (by omega)⟩ (fun w131 => ?_) (fun w131 => ?_)
            · have hcl : isCl ((cl, code, cu) : TMS).2.2.2.2.1 := by show isCl cu.2.2.1; omega
              have hnlw : ¬ isLw ((cl, code, cu) : TMS).2.2.2.2.1 := by show ¬ isLw cu.2.2.1; omega
              have hcb88 : CB J88 := CB.w (CB.u hcb (q := ((i : Int) * 4).toNat) (v := I 287 15) (by omega)) (by rw [f88.1 290 (by omega), uI_row (by omega)])
              refine x_aload_n dX5_readClause_163 rfl ?_
              refine x_iload_n dX5_readClause_164 rfl ?_
              refine x_iload_n dX5_readClause_165 rfl ?_
              refine x_iconst dX5_readClause_166 ?_
              refine x_imul dX5_readClause_167 ?_
              refine x_callV2 (mc1 := 0) (ms1 := 0) dX5_readClause_168 cv_RX5_132 (ci := 5) (k_ob_287 cs) rfl (Nat.le_of_ble_eq_true rfl) (n1 := n - 1) (by omega) (by omega) (by omega) ?_
              rw [show (i : Int) * 4 = ((4 * i : Nat) : Int) by omega]
              refine sp_X5_readDeed (t := t) (l := l) (sl := sl) (F := F) (p := 4 * i) (G := fun v cu1 c1 => c1 = code ∧ (deed t l cu.2.2.1 (adv t l cu.1)).1 = 0 ∧ cu1 = (deed t l cu.2.2.1 (adv t l cu.1)).2.2 ∧ v = (deed t l cu.2.2.1 (adv t l cu.1)).2.1) cs (by omega) (by omega) (by omega) hcb88 ⟨⟨hT88, s88⟩, Or.inr ⟨h88, adv t l cu.1, code, hR88, ?_, fun h9 => ⟨rfl, by rw [← k1]; exact h9, by rw [← k1], by rw [← k1]⟩⟩⟩ (fun v168 J168 f168 e168 cb168 a168 p168 q168 o168 => ?_)
              · rw [k1]
                exact fun h9 => hF _ _ (Or.inr (Or.inr (Or.inr (Or.inr ⟨hcl, hnlw, by show cl.length < 24; omega, Or.inl ⟨h9, rfl, rfl⟩⟩))))
              refine x_aload_n dX5_readClause_171 rfl ?_
              refine x_bipush dX5_readClause_172 (by decide) ?_
              refine x_callV1 (mc1 := 0) (ms1 := 0) dX5_readClause_174 cv_RX5_136 (ci := 5) (k_ob_287 cs) rfl (Nat.le_of_ble_eq_true rfl) (n1 := n - 1) (by omega) (by omega) (by omega) ?_
              refine sp_X5_expect (sl := sl) (F := F) (G := fun cu2 c2 => c2 = code ∧ (deed t l cu.2.2.1 (adv t l cu.1)).1 = 0 ∧ (deed t l cu.2.2.1 (adv t l cu.1)).2.2.2.2.1 = 59 ∧ cu2 = adv t l (deed t l cu.2.2.1 (adv t l cu.1)).2.2.1 ∧ v168 = (deed t l cu.2.2.1 (adv t l cu.1)).2.1) cs (by omega) (by omega) (out_imp o168 (fun cu1 c1 ok ln _ _ _ _ g => ?_)) (fun J174 f174 o174 => ?_)
              · obtain ⟨g1, g2, g3, g4⟩ := g
                subst g1
                refine ⟨fun hk => hF 1 _ (Or.inr (Or.inr (Or.inr (Or.inr ⟨hcl, hnlw, by show cl.length < 24; omega, Or.inr ⟨g2, ?_, rfl, ?_⟩⟩)))), fun hk => ⟨rfl, g2, ?_, ?_, g4⟩⟩
                · show (deed t l cu.2.2.1 (adv t l cu.1)).2.2.2.2.1 ≠ 59
                  rw [← g3]; exact hk
                · show _ = (deed t l cu.2.2.1 (adv t l cu.1)).2.2.2.1
                  rw [← g3]
                · rw [← g3]; exact hk
                · rw [← g3]
              exact x_return dX5_readClause_177 rfl (by omega) (by omega) (by first
 | exact hp _ (Frd.fc f14) (outT_f o14 (Frd.cb f14 hcb))
 | exact hp _ (Frd.fc f50) (outT_f o50 (Frd.cb f50 hcb))
 | exact hp _ (Frd.fc f65) (outT_f o65 (Frd.cb f65 hcb))
 | (refine hp J174 (Frc.tr (Frc.tr (Frc.u7 (Frc.u7 (Frc.tr (Frc.u7 (Frc.u0 Frc.rf) (by omega)) (Frd.fc (Fcu.rd f88))) (by omega)) (by omega)) (Frc.u7 (Frd.fc f113) (by omega))) (Frd.fc f174)) (outT_o o174 (CB.w (CB.u hcb (q := 4 * i) (v := I 287 15) (by omega)) ?_) (fun cu2 c2 _ rd g => ?_))
    · rw [f174.1 290 (by omega) (by omega), uI_row (by omega), f113.1 290 (by omega) (by omega), uI_row (by omega), uI_row (by omega), f88.1 290 (by omega), uI_row (by omega), show ((i : Int) * 4).toNat = 4 * i by omega]
    · obtain ⟨cu9, g1, g2, g3, g4⟩ := g
      have hap : Ap false false code c2 := g1.1.1.1
      have e290 : J174 290 = uI I 290 (4 * i) (I 287 15) 290 := by rw [f174.1 290 (by omega) (by omega), uI_row (by omega), f113.1 290 (by omega) (by omega), uI_row (by omega), uI_row (by omega), f88.1 290 (by omega), uI_row (by omega), show ((i : Int) * 4).toNat = 4 * i by omega]
      have e7 : J174 287 7 = ((i + 1 : Nat) : Int) := by rw [f174.2 7 (by omega), uI_o (by omega), f113.2 7 (by omega), uI_o (by omega), uI_o (by omega), f88.2 7 (by omega), uI_s]; omega
      have efr : J174 287 8 = (code.length : Int) := by rw [f174.2 8 (by omega), uI_o (by omega), f113.2 8 (by omega), uI_s, uI_o (by omega)]; exact hR88.2.2.1
      have eto : J174 287 9 = (c2.length : Int) := by rw [f174.2 9 (by omega), uI_s]; exact g4.symm
      have eo1 : J174 287 10 = I 287 10 := by rw [f174.2 10 (by omega), uI_o (by omega), f113.2 10 (by omega), uI_o (by omega), uI_o (by omega), f88.2 10 (by omega), uI_o (by omega), uI_o (by omega)]
      have eo2 : J174 287 11 = I 287 11 := by rw [f174.2 11 (by omega), uI_o (by omega), f113.2 11 (by omega), uI_o (by omega), uI_o (by omega), f88.2 11 (by omega), uI_o (by omega), uI_o (by omega)]
      refine ⟨cl ++ [(cu.2.2.1, (code.length : Int), (c2.length : Int), 0)], clc_app hC (by rw [e7, hi]) (fun k hk => by rw [e290, uI_o (by omega)]) ⟨?_, fun h => ?_, fun h => ?_⟩ ?_ ?_ ⟨?_, fun _ => ?_⟩ ?_ (by omega), hG _ ⟨?_, by show cl.length < 24; omega, Or.inl ⟨hlw, hnl, cu9, c2, by show SumG t l (decide (cu.2.2.1 = 137)) _ _ _ _ _; rw [hdc]; exact g1, g2, by rw [g3]⟩⟩⟩
      · rw [e290, hi, uI_s]; exact k1
      · exfalso; have h9 : 138 ≤ cu.2.2.1 ∨ cu.2.2.1 = 128 := h; omega
      · exfalso; have h9 : cu.2.2.1 = 138 := h; omega
      · rw [hw]; rw [efr, eto]; exact lw_new (by have := hnl; rw [← hw]; exact this) ⟨by omega, by have := ap_lt hap; omega⟩
      · rw [hw]; rw [eo1, eo2]; exact lw_keep hC.2.2.2.1 (by show (136 : Int) ≠ 137; decide)
      · show isCl cu.2.2.1; omega
      · show LawOK (decide (cu.2.2.1 = 137)) _ _ _; rw [hdc]; exact law_new hap
      · obtain ⟨v, hv, _⟩ := hap
        exact ⟨v, hv⟩
      · show isCl cu.2.2.1; omega)
 | (refine hp J174 (Frc.tr (Frc.tr (Frc.u7 (Frc.u7 (Frc.tr (Frc.u7 (Frc.u0 Frc.rf) (by omega)) (Frd.fc (Fcu.rd f88))) (by omega)) (by omega)) (Frc.u7 (Frd.fc f149) (by omega))) (Frd.fc f174)) (outT_o o174 (CB.w (CB.u hcb (q := 4 * i) (v := I 287 15) (by omega)) ?_) (fun cu2 c2 _ rd g => ?_))
    · rw [f174.1 290 (by omega) (by omega), uI_row (by omega), f149.1 290 (by omega) (by omega), uI_row (by omega), uI_row (by omega), f88.1 290 (by omega), uI_row (by omega), show ((i : Int) * 4).toNat = 4 * i by omega]
    · obtain ⟨cu9, g1, g2, g3, g4⟩ := g
      have hap : Ap true false code c2 := g1.1.1.1
      have e290 : J174 290 = uI I 290 (4 * i) (I 287 15) 290 := by rw [f174.1 290 (by omega) (by omega), uI_row (by omega), f149.1 290 (by omega) (by omega), uI_row (by omega), uI_row (by omega), f88.1 290 (by omega), uI_row (by omega), show ((i : Int) * 4).toNat = 4 * i by omega]
      have e7 : J174 287 7 = ((i + 1 : Nat) : Int) := by rw [f174.2 7 (by omega), uI_o (by omega), f149.2 7 (by omega), uI_o (by omega), uI_o (by omega), f88.2 7 (by omega), uI_s]; omega
      have efr : J174 287 10 = (code.length : Int) := by rw [f174.2 10 (by omega), uI_o (by omega), f149.2 10 (by omega), uI_s, uI_o (by omega)]; exact hR88.2.2.1
      have eto : J174 287 11 = (c2.length : Int) := by rw [f174.2 11 (by omega), uI_s]; exact g4.symm
      have eo1 : J174 287 8 = I 287 8 := by rw [f174.2 8 (by omega), uI_o (by omega), f149.2 8 (by omega), uI_o (by omega), uI_o (by omega), f88.2 8 (by omega), uI_o (by omega), uI_o (by omega)]
      have eo2 : J174 287 9 = I 287 9 := by rw [f174.2 9 (by omega), uI_o (by omega), f149.2 9 (by omega), uI_o (by omega), uI_o (by omega), f88.2 9 (by omega), uI_o (by omega), uI_o (by omega)]
      refine ⟨cl ++ [(cu.2.2.1, (code.length : Int), (c2.length : Int), 0)], clc_app hC (by rw [e7, hi]) (fun k hk => by rw [e290, uI_o (by omega)]) ⟨?_, fun h => ?_, fun h => ?_⟩ ?_ ?_ ⟨?_, fun _ => ?_⟩ ?_ (by omega), hG _ ⟨?_, by show cl.length < 24; omega, Or.inl ⟨hlw, hnl, cu9, c2, by show SumG t l (decide (cu.2.2.1 = 137)) _ _ _ _ _; rw [hdc]; exact g1, g2, by rw [g3]⟩⟩⟩
      · rw [e290, hi, uI_s]; exact k1
      · exfalso; have h9 : 138 ≤ cu.2.2.1 ∨ cu.2.2.1 = 128 := h; omega
      · exfalso; have h9 : cu.2.2.1 = 138 := h; omega
      · rw [hw]; rw [eo1, eo2]; exact lw_keep hC.2.2.1 (by show (137 : Int) ≠ 136; decide)
      · rw [hw]; rw [efr, eto]; exact lw_new (by have := hnl; rw [← hw]; exact this) ⟨by omega, by have := ap_lt hap; omega⟩
      · show isCl cu.2.2.1; omega
      · show LawOK (decide (cu.2.2.1 = 137)) _ _ _; rw [hdc]; exact law_new hap
      · obtain ⟨v, hv, _⟩ := hap
        exact ⟨v, hv⟩
      · show isCl cu.2.2.1; omega)
 | (refine hp J174 (Frc.tr (Frc.tr (Frc.tr (Frc.u7 (Frc.u0 Frc.rf) (by omega)) (Frd.fc (Fcu.rd f88))) f168) (Frd.fc f174)) (outT_o o174 (Frd.cb f174 cb168) (fun cu2 c2 _ rd g => ?_))
    obtain ⟨g1, g2, g3, g4, g5⟩ := g
    subst g1
    have e290 : J174 290 = J168 290 := f174.1 290 (by omega) (by omega)
    have e88 : J88 290 = uI I 290 (4 * i) (I 287 15) 290 := by rw [f88.1 290 (by omega), uI_row (by omega), show ((i : Int) * 4).toNat = 4 * i by omega]
    have e7 : J174 287 7 = ((i + 1 : Nat) : Int) := by rw [f174.2 7 (by omega), e168 7 (by omega), f88.2 7 (by omega), uI_s]; omega
    have eq : ∀ k, (7 < k ∧ k < 12) → J174 287 k = I 287 k := fun k hk => by rw [f174.2 k (by omega), e168 k (by omega), f88.2 k (by omega), uI_o (by omega), uI_o (by omega)]
    refine ⟨cl ++ [(cu.2.2.1, v168)], clc_app hC (by rw [e7, hi]) (fun k hk => by rw [e290, a168 k (by omega), e88, uI_o (by omega)]) ⟨?_, fun h => ?_, fun h => ?_⟩ ?_ ?_ ⟨hcl, fun h => absurd h hnlw⟩ ⟨[], by rw [List.append_nil]⟩ (by omega), hG _ ⟨hcl, by show cl.length < 24; omega, Or.inr ⟨hnlw, g2, g3, by rw [g4, ← g5]⟩⟩⟩
    · rw [e290, hi, a168 (4 * i) (by omega), e88, uI_s]; exact k1
    · rw [e290, hi, p168]
    · rw [e290, hi]; exact q168 (by have h9 : cu.2.2.1 = 138 := h; omega)
    · rw [eq 8 (by omega), eq 9 (by omega)]; exact lw_keep hC.2.2.1 (by show cu.2.2.1 ≠ 136; omega)
    · rw [eq 10 (by omega), eq 11 (by omega)]; exact lw_keep hC.2.2.2.1 (by show cu.2.2.1 ≠ 137; omega)))
            · have hw : cu.2.2.1 = 137 := by omega
              have hlw : isLw ((cl, code, cu) : TMS).2.2.2.2.1 := by show isLw cu.2.2.1; omega
              have hnl : ¬ hasL ((cl, code, cu) : TMS).1 ((cl, code, cu) : TMS).2.2.2.2.1 := by show ¬ hasL cl cu.2.2.1; rw [hw, lh2]; omega
              have hdc : decide (cu.2.2.1 = 137) = true := by rw [hw]; rfl
              refine x_aload_n dX5_readClause_134 rfl ?_
              refine x_iconst dX5_readClause_135 ?_
              refine x_putZ dX5_readClause_136 gf_RX5_125 (k_ob_287 cs) rfl (by omega) ?_
              refine x_aload_n dX5_readClause_139 rfl ?_
              refine x_aload_n dX5_readClause_140 rfl ?_
              refine x_getI dX5_readClause_141 gf_RX5_53 (k_ob_287 cs) (fun _ _ => rfl) ?_
              refine x_putI dX5_readClause_144 gf_RX5_65 (k_ob_287 cs) rfl ?_
              refine x_aload_n dX5_readClause_147 rfl ?_
              refine x_iconst dX5_readClause_148 ?_
              refine x_callV1 (mc1 := 0) (ms1 := 0) dX5_readClause_149 cv_RX5_129 (ci := 5) (k_ob_287 cs) rfl (Nat.le_of_ble_eq_true rfl) (n1 := n - 1) (by omega) (by omega) (by omega) ?_
              refine sum_K cs _ _ _ t l true F (fun cu1 c1 => SumG t l true 0 (adv t l cu.1) code cu1 c1) (by omega) ?_ (fun J149 f149 o149 => ?_)
              · exact ⟨⟨tpc_fr hT88 (Foc.u7 (Foc.u7 Foc.rf (by omega)) (by omega)), by first | exact Or.inr ⟨by rw [uI_o (by omega), uI_s], rfl⟩ | exact Or.inl ⟨by rw [uI_o (by omega), uI_s], rfl⟩⟩, Or.inr ⟨by rw [uI_o (by omega), uI_o (by omega)]; exact h88, adv t l cu.1, code, rdc_fr hR88 (Foc.u7 (Foc.u7 Foc.rf (by omega)) (by omega)), fun f pl x => hF f pl (Or.inr (Or.inr (Or.inr (Or.inl ⟨hlw, hnl, by show cl.length < 24; omega, Or.inl (by show SumF t l (decide (cu.2.2.1 = 137)) _ _ _ _ _; rw [hdc]; exact x)⟩)))), fun _ _ x => x⟩⟩
              refine x_aload_n dX5_readClause_152 rfl ?_
              refine x_aload_n dX5_readClause_153 rfl ?_
              refine x_getI dX5_readClause_154 gf_RX5_53 (k_ob_287 cs) (fun _ _ => rfl) ?_
              refine x_putI dX5_readClause_157 gf_RX5_68 (k_ob_287 cs) rfl ?_
              refine x_goto 171 dX5_readClause_160 (by decide) ?_
              refine x_aload_n dX5_readClause_171 rfl ?_
              refine x_bipush dX5_readClause_172 (by decide) ?_
              refine x_callV1 (mc1 := 0) (ms1 := 0) dX5_readClause_174 cv_RX5_136 (ci := 5) (k_ob_287 cs) rfl (Nat.le_of_ble_eq_true rfl) (n1 := n - 1) (by omega) (by omega) (by omega) ?_
              have q174 : OutC _ t l true F (fun cu1 c1 => (cu1.2.2.1 ≠ 59 → F 1 cu1.2.1) ∧ (cu1.2.2.1 = 59 → ∃ cu9, SumG t l true 0 (adv t l cu.1) code cu9 c1 ∧ cu9.2.2.1 = 59 ∧ adv t l cu1.1 = adv t l cu9.1 ∧ (c1.length : Int) = J149 287 6)) := out_fr (out_imp2 o149 (fun cu1 c1 rd _ g => ⟨fun hk => hF 1 _ (Or.inr (Or.inr (Or.inr (Or.inl ⟨hlw, hnl, by show cl.length < 24; omega, Or.inr ⟨cu1, c1, by show SumG t l (decide (cu.2.2.1 = 137)) _ _ _ _ _; rw [hdc]; exact g, hk, rfl, rfl⟩⟩)))), fun hk => ⟨cu1, g, hk, rfl, rd.2.2.1.symm⟩⟩)) (Foc.u7 (q := 11) (v := J149 287 6) Foc.rf (by omega)) (by rw [uI_o (by omega)]; exact o149.1.2)
              refine sp_X5_expect (sl := true) (F := F) (G := fun cu2 c2 => ∃ cu9, SumG t l true 0 (adv t l cu.1) code cu9 c2 ∧ cu9.2.2.1 = 59 ∧ cu2 = adv t l cu9.1 ∧ (c2.length : Int) = J149 287 6) cs (by omega) (by omega) q174 (fun J174 f174 o174 => ?_)
              exact x_return dX5_readClause_177 rfl (by omega) (by omega) (by first
 | exact hp _ (Frd.fc f14) (outT_f o14 (Frd.cb f14 hcb))
 | exact hp _ (Frd.fc f50) (outT_f o50 (Frd.cb f50 hcb))
 | exact hp _ (Frd.fc f65) (outT_f o65 (Frd.cb f65 hcb))
 | (refine hp J174 (Frc.tr (Frc.tr (Frc.u7 (Frc.u7 (Frc.tr (Frc.u7 (Frc.u0 Frc.rf) (by omega)) (Frd.fc (Fcu.rd f88))) (by omega)) (by omega)) (Frc.u7 (Frd.fc f113) (by omega))) (Frd.fc f174)) (outT_o o174 (CB.w (CB.u hcb (q := 4 * i) (v := I 287 15) (by omega)) ?_) (fun cu2 c2 _ rd g => ?_))
    · rw [f174.1 290 (by omega) (by omega), uI_row (by omega), f113.1 290 (by omega) (by omega), uI_row (by omega), uI_row (by omega), f88.1 290 (by omega), uI_row (by omega), show ((i : Int) * 4).toNat = 4 * i by omega]
    · obtain ⟨cu9, g1, g2, g3, g4⟩ := g
      have hap : Ap false false code c2 := g1.1.1.1
      have e290 : J174 290 = uI I 290 (4 * i) (I 287 15) 290 := by rw [f174.1 290 (by omega) (by omega), uI_row (by omega), f113.1 290 (by omega) (by omega), uI_row (by omega), uI_row (by omega), f88.1 290 (by omega), uI_row (by omega), show ((i : Int) * 4).toNat = 4 * i by omega]
      have e7 : J174 287 7 = ((i + 1 : Nat) : Int) := by rw [f174.2 7 (by omega), uI_o (by omega), f113.2 7 (by omega), uI_o (by omega), uI_o (by omega), f88.2 7 (by omega), uI_s]; omega
      have efr : J174 287 8 = (code.length : Int) := by rw [f174.2 8 (by omega), uI_o (by omega), f113.2 8 (by omega), uI_s, uI_o (by omega)]; exact hR88.2.2.1
      have eto : J174 287 9 = (c2.length : Int) := by rw [f174.2 9 (by omega), uI_s]; exact g4.symm
      have eo1 : J174 287 10 = I 287 10 := by rw [f174.2 10 (by omega), uI_o (by omega), f113.2 10 (by omega), uI_o (by omega), uI_o (by omega), f88.2 10 (by omega), uI_o (by omega), uI_o (by omega)]
      have eo2 : J174 287 11 = I 287 11 := by rw [f174.2 11 (by omega), uI_o (by omega), f113.2 11 (by omega), uI_o (by omega), uI_o (by omega), f88.2 11 (by omega), uI_o (by omega), uI_o (by omega)]
      refine ⟨cl ++ [(cu.2.2.1, (code.length : Int), (c2.length : Int), 0)], clc_app hC (by rw [e7, hi]) (fun k hk => by rw [e290, uI_o (by omega)]) ⟨?_, fun h => ?_, fun h => ?_⟩ ?_ ?_ ⟨?_, fun _ => ?_⟩ ?_ (by omega), hG _ ⟨?_, by show cl.length < 24; omega, Or.inl ⟨hlw, hnl, cu9, c2, by show SumG t l (decide (cu.2.2.1 = 137)) _ _ _ _ _; rw [hdc]; exact g1, g2, by rw [g3]⟩⟩⟩
      · rw [e290, hi, uI_s]; exact k1
      · exfalso; have h9 : 138 ≤ cu.2.2.1 ∨ cu.2.2.1 = 128 := h; omega
      · exfalso; have h9 : cu.2.2.1 = 138 := h; omega
      · rw [hw]; rw [efr, eto]; exact lw_new (by have := hnl; rw [← hw]; exact this) ⟨by omega, by have := ap_lt hap; omega⟩
      · rw [hw]; rw [eo1, eo2]; exact lw_keep hC.2.2.2.1 (by show (136 : Int) ≠ 137; decide)
      · show isCl cu.2.2.1; omega
      · show LawOK (decide (cu.2.2.1 = 137)) _ _ _; rw [hdc]; exact law_new hap
      · obtain ⟨v, hv, _⟩ := hap
        exact ⟨v, hv⟩
      · show isCl cu.2.2.1; omega)
 | (refine hp J174 (Frc.tr (Frc.tr (Frc.u7 (Frc.u7 (Frc.tr (Frc.u7 (Frc.u0 Frc.rf) (by omega)) (Frd.fc (Fcu.rd f88))) (by omega)) (by omega)) (Frc.u7 (Frd.fc f149) (by omega))) (Frd.fc f174)) (outT_o o174 (CB.w (CB.u hcb (q := 4 * i) (v := I 287 15) (by omega)) ?_) (fun cu2 c2 _ rd g => ?_))
    · rw [f174.1 290 (by omega) (by omega), uI_row (by omega), f149.1 290 (by omega) (by omega), uI_row (by omega), uI_row (by omega), f88.1 290 (by omega), uI_row (by omega), show ((i : Int) * 4).toNat = 4 * i by omega]
    · obtain ⟨cu9, g1, g2, g3, g4⟩ := g
      have hap : Ap true false code c2 := g1.1.1.1
      have e290 : J174 290 = uI I 290 (4 * i) (I 287 15) 290 := by rw [f174.1 290 (by omega) (by omega), uI_row (by omega), f149.1 290 (by omega) (by omega), uI_row (by omega), uI_row (by omega), f88.1 290 (by omega), uI_row (by omega), show ((i : Int) * 4).toNat = 4 * i by omega]
      have e7 : J174 287 7 = ((i + 1 : Nat) : Int) := by rw [f174.2 7 (by omega), uI_o (by omega), f149.2 7 (by omega), uI_o (by omega), uI_o (by omega), f88.2 7 (by omega), uI_s]; omega
      have efr : J174 287 10 = (code.length : Int) := by rw [f174.2 10 (by omega), uI_o (by omega), f149.2 10 (by omega), uI_s, uI_o (by omega)]; exact hR88.2.2.1
      have eto : J174 287 11 = (c2.length : Int) := by rw [f174.2 11 (by omega), uI_s]; exact g4.symm
      have eo1 : J174 287 8 = I 287 8 := by rw [f174.2 8 (by omega), uI_o (by omega), f149.2 8 (by omega), uI_o (by omega), uI_o (by omega), f88.2 8 (by omega), uI_o (by omega), uI_o (by omega)]
      have eo2 : J174 287 9 = I 287 9 := by rw [f174.2 9 (by omega), uI_o (by omega), f149.2 9 (by omega), uI_o (by omega), uI_o (by omega), f88.2 9 (by omega), uI_o (by omega), uI_o (by omega)]
      refine ⟨cl ++ [(cu.2.2.1, (code.length : Int), (c2.length : Int), 0)], clc_app hC (by rw [e7, hi]) (fun k hk => by rw [e290, uI_o (by omega)]) ⟨?_, fun h => ?_, fun h => ?_⟩ ?_ ?_ ⟨?_, fun _ => ?_⟩ ?_ (by omega), hG _ ⟨?_, by show cl.length < 24; omega, Or.inl ⟨hlw, hnl, cu9, c2, by show SumG t l (decide (cu.2.2.1 = 137)) _ _ _ _ _; rw [hdc]; exact g1, g2, by rw [g3]⟩⟩⟩
      · rw [e290, hi, uI_s]; exact k1
      · exfalso; have h9 : 138 ≤ cu.2.2.1 ∨ cu.2.2.1 = 128 := h; omega
      · exfalso; have h9 : cu.2.2.1 = 138 := h; omega
      · rw [hw]; rw [eo1, eo2]; exact lw_keep hC.2.2.1 (by show (137 : Int) ≠ 136; decide)
      · rw [hw]; rw [efr, eto]; exact lw_new (by have := hnl; rw [← hw]; exact this) ⟨by omega, by have := ap_lt hap; omega⟩
      · show isCl cu.2.2.1; omega
      · show LawOK (decide (cu.2.2.1 = 137)) _ _ _; rw [hdc]; exact law_new hap
      · obtain ⟨v, hv, _⟩ := hap
        exact ⟨v, hv⟩
      · show isCl cu.2.2.1; omega)
 | (refine hp J174 (Frc.tr (Frc.tr (Frc.tr (Frc.u7 (Frc.u0 Frc.rf) (by omega)) (Frd.fc (Fcu.rd f88))) f168) (Frd.fc f174)) (outT_o o174 (Frd.cb f174 cb168) (fun cu2 c2 _ rd g => ?_))
    obtain ⟨g1, g2, g3, g4, g5⟩ := g
    subst g1
    have e290 : J174 290 = J168 290 := f174.1 290 (by omega) (by omega)
    have e88 : J88 290 = uI I 290 (4 * i) (I 287 15) 290 := by rw [f88.1 290 (by omega), uI_row (by omega), show ((i : Int) * 4).toNat = 4 * i by omega]
    have e7 : J174 287 7 = ((i + 1 : Nat) : Int) := by rw [f174.2 7 (by omega), e168 7 (by omega), f88.2 7 (by omega), uI_s]; omega
    have eq : ∀ k, (7 < k ∧ k < 12) → J174 287 k = I 287 k := fun k hk => by rw [f174.2 k (by omega), e168 k (by omega), f88.2 k (by omega), uI_o (by omega), uI_o (by omega)]
    refine ⟨cl ++ [(cu.2.2.1, v168)], clc_app hC (by rw [e7, hi]) (fun k hk => by rw [e290, a168 k (by omega), e88, uI_o (by omega)]) ⟨?_, fun h => ?_, fun h => ?_⟩ ?_ ?_ ⟨hcl, fun h => absurd h hnlw⟩ ⟨[], by rw [List.append_nil]⟩ (by omega), hG _ ⟨hcl, by show cl.length < 24; omega, Or.inr ⟨hnlw, g2, g3, by rw [g4, ← g5]⟩⟩⟩
    · rw [e290, hi, a168 (4 * i) (by omega), e88, uI_s]; exact k1
    · rw [e290, hi, p168]
    · rw [e290, hi]; exact q168 (by have h9 : cu.2.2.1 = 138 := h; omega)
    · rw [eq 8 (by omega), eq 9 (by omega)]; exact lw_keep hC.2.2.1 (by show cu.2.2.1 ≠ 136; omega)
    · rw [eq 10 (by omega), eq 11 (by omega)]; exact lw_keep hC.2.2.2.1 (by show cu.2.2.1 ≠ 137; omega)))
          · have hw : cu.2.2.1 = 136 := by omega
            have hlw : isLw ((cl, code, cu) : TMS).2.2.2.2.1 := by show isLw cu.2.2.1; omega
            have hnl : ¬ hasL ((cl, code, cu) : TMS).1 ((cl, code, cu) : TMS).2.2.2.2.1 := by show ¬ hasL cl cu.2.2.1; rw [hw, lh1]; omega
            have hdc : decide (cu.2.2.1 = 137) = false := by rw [hw]; rfl
            refine x_aload_n dX5_readClause_98 rfl ?_
            refine x_iconst dX5_readClause_99 ?_
            refine x_putZ dX5_readClause_100 gf_RX5_125 (k_ob_287 cs) rfl (by omega) ?_
            refine x_aload_n dX5_readClause_103 rfl ?_
            refine x_aload_n dX5_readClause_104 rfl ?_
            refine x_getI dX5_readClause_105 gf_RX5_53 (k_ob_287 cs) (fun _ _ => rfl) ?_
            refine x_putI dX5_readClause_108 gf_RX5_59 (k_ob_287 cs) rfl ?_
            refine x_aload_n dX5_readClause_111 rfl ?_
            refine x_iconst dX5_readClause_112 ?_
            refine x_callV1 (mc1 := 0) (ms1 := 0) dX5_readClause_113 cv_RX5_129 (ci := 5) (k_ob_287 cs) rfl (Nat.le_of_ble_eq_true rfl) (n1 := n - 1) (by omega) (by omega) (by omega) ?_
            refine sum_K cs _ _ _ t l false F (fun cu1 c1 => SumG t l false 0 (adv t l cu.1) code cu1 c1) (by omega) ?_ (fun J113 f113 o113 => ?_)
            · exact ⟨⟨tpc_fr hT88 (Foc.u7 (Foc.u7 Foc.rf (by omega)) (by omega)), by first | exact Or.inr ⟨by rw [uI_o (by omega), uI_s], rfl⟩ | exact Or.inl ⟨by rw [uI_o (by omega), uI_s], rfl⟩⟩, Or.inr ⟨by rw [uI_o (by omega), uI_o (by omega)]; exact h88, adv t l cu.1, code, rdc_fr hR88 (Foc.u7 (Foc.u7 Foc.rf (by omega)) (by omega)), fun f pl x => hF f pl (Or.inr (Or.inr (Or.inr (Or.inl ⟨hlw, hnl, by show cl.length < 24; omega, Or.inl (by show SumF t l (decide (cu.2.2.1 = 137)) _ _ _ _ _; rw [hdc]; exact x)⟩)))), fun _ _ x => x⟩⟩
            refine x_aload_n dX5_readClause_116 rfl ?_
            refine x_aload_n dX5_readClause_117 rfl ?_
            refine x_getI dX5_readClause_118 gf_RX5_53 (k_ob_287 cs) (fun _ _ => rfl) ?_
            refine x_putI dX5_readClause_121 gf_RX5_62 (k_ob_287 cs) rfl ?_
            refine x_goto 171 dX5_readClause_124 (by decide) ?_
            refine x_aload_n dX5_readClause_171 rfl ?_
            refine x_bipush dX5_readClause_172 (by decide) ?_
            refine x_callV1 (mc1 := 0) (ms1 := 0) dX5_readClause_174 cv_RX5_136 (ci := 5) (k_ob_287 cs) rfl (Nat.le_of_ble_eq_true rfl) (n1 := n - 1) (by omega) (by omega) (by omega) ?_
            have q174 : OutC _ t l false F (fun cu1 c1 => (cu1.2.2.1 ≠ 59 → F 1 cu1.2.1) ∧ (cu1.2.2.1 = 59 → ∃ cu9, SumG t l false 0 (adv t l cu.1) code cu9 c1 ∧ cu9.2.2.1 = 59 ∧ adv t l cu1.1 = adv t l cu9.1 ∧ (c1.length : Int) = J113 287 6)) := out_fr (out_imp2 o113 (fun cu1 c1 rd _ g => ⟨fun hk => hF 1 _ (Or.inr (Or.inr (Or.inr (Or.inl ⟨hlw, hnl, by show cl.length < 24; omega, Or.inr ⟨cu1, c1, by show SumG t l (decide (cu.2.2.1 = 137)) _ _ _ _ _; rw [hdc]; exact g, hk, rfl, rfl⟩⟩)))), fun hk => ⟨cu1, g, hk, rfl, rd.2.2.1.symm⟩⟩)) (Foc.u7 (q := 9) (v := J113 287 6) Foc.rf (by omega)) (by rw [uI_o (by omega)]; exact o113.1.2)
            refine sp_X5_expect (sl := false) (F := F) (G := fun cu2 c2 => ∃ cu9, SumG t l false 0 (adv t l cu.1) code cu9 c2 ∧ cu9.2.2.1 = 59 ∧ cu2 = adv t l cu9.1 ∧ (c2.length : Int) = J113 287 6) cs (by omega) (by omega) q174 (fun J174 f174 o174 => ?_)
            exact x_return dX5_readClause_177 rfl (by omega) (by omega) (by first
 | exact hp _ (Frd.fc f14) (outT_f o14 (Frd.cb f14 hcb))
 | exact hp _ (Frd.fc f50) (outT_f o50 (Frd.cb f50 hcb))
 | exact hp _ (Frd.fc f65) (outT_f o65 (Frd.cb f65 hcb))
 | (refine hp J174 (Frc.tr (Frc.tr (Frc.u7 (Frc.u7 (Frc.tr (Frc.u7 (Frc.u0 Frc.rf) (by omega)) (Frd.fc (Fcu.rd f88))) (by omega)) (by omega)) (Frc.u7 (Frd.fc f113) (by omega))) (Frd.fc f174)) (outT_o o174 (CB.w (CB.u hcb (q := 4 * i) (v := I 287 15) (by omega)) ?_) (fun cu2 c2 _ rd g => ?_))
    · rw [f174.1 290 (by omega) (by omega), uI_row (by omega), f113.1 290 (by omega) (by omega), uI_row (by omega), uI_row (by omega), f88.1 290 (by omega), uI_row (by omega), show ((i : Int) * 4).toNat = 4 * i by omega]
    · obtain ⟨cu9, g1, g2, g3, g4⟩ := g
      have hap : Ap false false code c2 := g1.1.1.1
      have e290 : J174 290 = uI I 290 (4 * i) (I 287 15) 290 := by rw [f174.1 290 (by omega) (by omega), uI_row (by omega), f113.1 290 (by omega) (by omega), uI_row (by omega), uI_row (by omega), f88.1 290 (by omega), uI_row (by omega), show ((i : Int) * 4).toNat = 4 * i by omega]
      have e7 : J174 287 7 = ((i + 1 : Nat) : Int) := by rw [f174.2 7 (by omega), uI_o (by omega), f113.2 7 (by omega), uI_o (by omega), uI_o (by omega), f88.2 7 (by omega), uI_s]; omega
      have efr : J174 287 8 = (code.length : Int) := by rw [f174.2 8 (by omega), uI_o (by omega), f113.2 8 (by omega), uI_s, uI_o (by omega)]; exact hR88.2.2.1
      have eto : J174 287 9 = (c2.length : Int) := by rw [f174.2 9 (by omega), uI_s]; exact g4.symm
      have eo1 : J174 287 10 = I 287 10 := by rw [f174.2 10 (by omega), uI_o (by omega), f113.2 10 (by omega), uI_o (by omega), uI_o (by omega), f88.2 10 (by omega), uI_o (by omega), uI_o (by omega)]
      have eo2 : J174 287 11 = I 287 11 := by rw [f174.2 11 (by omega), uI_o (by omega), f113.2 11 (by omega), uI_o (by omega), uI_o (by omega), f88.2 11 (by omega), uI_o (by omega), uI_o (by omega)]
      refine ⟨cl ++ [(cu.2.2.1, (code.length : Int), (c2.length : Int), 0)], clc_app hC (by rw [e7, hi]) (fun k hk => by rw [e290, uI_o (by omega)]) ⟨?_, fun h => ?_, fun h => ?_⟩ ?_ ?_ ⟨?_, fun _ => ?_⟩ ?_ (by omega), hG _ ⟨?_, by show cl.length < 24; omega, Or.inl ⟨hlw, hnl, cu9, c2, by show SumG t l (decide (cu.2.2.1 = 137)) _ _ _ _ _; rw [hdc]; exact g1, g2, by rw [g3]⟩⟩⟩
      · rw [e290, hi, uI_s]; exact k1
      · exfalso; have h9 : 138 ≤ cu.2.2.1 ∨ cu.2.2.1 = 128 := h; omega
      · exfalso; have h9 : cu.2.2.1 = 138 := h; omega
      · rw [hw]; rw [efr, eto]; exact lw_new (by have := hnl; rw [← hw]; exact this) ⟨by omega, by have := ap_lt hap; omega⟩
      · rw [hw]; rw [eo1, eo2]; exact lw_keep hC.2.2.2.1 (by show (136 : Int) ≠ 137; decide)
      · show isCl cu.2.2.1; omega
      · show LawOK (decide (cu.2.2.1 = 137)) _ _ _; rw [hdc]; exact law_new hap
      · obtain ⟨v, hv, _⟩ := hap
        exact ⟨v, hv⟩
      · show isCl cu.2.2.1; omega)
 | (refine hp J174 (Frc.tr (Frc.tr (Frc.u7 (Frc.u7 (Frc.tr (Frc.u7 (Frc.u0 Frc.rf) (by omega)) (Frd.fc (Fcu.rd f88))) (by omega)) (by omega)) (Frc.u7 (Frd.fc f149) (by omega))) (Frd.fc f174)) (outT_o o174 (CB.w (CB.u hcb (q := 4 * i) (v := I 287 15) (by omega)) ?_) (fun cu2 c2 _ rd g => ?_))
    · rw [f174.1 290 (by omega) (by omega), uI_row (by omega), f149.1 290 (by omega) (by omega), uI_row (by omega), uI_row (by omega), f88.1 290 (by omega), uI_row (by omega), show ((i : Int) * 4).toNat = 4 * i by omega]
    · obtain ⟨cu9, g1, g2, g3, g4⟩ := g
      have hap : Ap true false code c2 := g1.1.1.1
      have e290 : J174 290 = uI I 290 (4 * i) (I 287 15) 290 := by rw [f174.1 290 (by omega) (by omega), uI_row (by omega), f149.1 290 (by omega) (by omega), uI_row (by omega), uI_row (by omega), f88.1 290 (by omega), uI_row (by omega), show ((i : Int) * 4).toNat = 4 * i by omega]
      have e7 : J174 287 7 = ((i + 1 : Nat) : Int) := by rw [f174.2 7 (by omega), uI_o (by omega), f149.2 7 (by omega), uI_o (by omega), uI_o (by omega), f88.2 7 (by omega), uI_s]; omega
      have efr : J174 287 10 = (code.length : Int) := by rw [f174.2 10 (by omega), uI_o (by omega), f149.2 10 (by omega), uI_s, uI_o (by omega)]; exact hR88.2.2.1
      have eto : J174 287 11 = (c2.length : Int) := by rw [f174.2 11 (by omega), uI_s]; exact g4.symm
      have eo1 : J174 287 8 = I 287 8 := by rw [f174.2 8 (by omega), uI_o (by omega), f149.2 8 (by omega), uI_o (by omega), uI_o (by omega), f88.2 8 (by omega), uI_o (by omega), uI_o (by omega)]
      have eo2 : J174 287 9 = I 287 9 := by rw [f174.2 9 (by omega), uI_o (by omega), f149.2 9 (by omega), uI_o (by omega), uI_o (by omega), f88.2 9 (by omega), uI_o (by omega), uI_o (by omega)]
      refine ⟨cl ++ [(cu.2.2.1, (code.length : Int), (c2.length : Int), 0)], clc_app hC (by rw [e7, hi]) (fun k hk => by rw [e290, uI_o (by omega)]) ⟨?_, fun h => ?_, fun h => ?_⟩ ?_ ?_ ⟨?_, fun _ => ?_⟩ ?_ (by omega), hG _ ⟨?_, by show cl.length < 24; omega, Or.inl ⟨hlw, hnl, cu9, c2, by show SumG t l (decide (cu.2.2.1 = 137)) _ _ _ _ _; rw [hdc]; exact g1, g2, by rw [g3]⟩⟩⟩
      · rw [e290, hi, uI_s]; exact k1
      · exfalso; have h9 : 138 ≤ cu.2.2.1 ∨ cu.2.2.1 = 128 := h; omega
      · exfalso; have h9 : cu.2.2.1 = 138 := h; omega
      · rw [hw]; rw [eo1, eo2]; exact lw_keep hC.2.2.1 (by show (137 : Int) ≠ 136; decide)
      · rw [hw]; rw [efr, eto]; exact lw_new (by have := hnl; rw [← hw]; exact this) ⟨by omega, by have := ap_lt hap; omega⟩
      · show isCl cu.2.2.1; omega
      · show LawOK (decide (cu.2.2.1 = 137)) _ _ _; rw [hdc]; exact law_new hap
      · obtain ⟨v, hv, _⟩ := hap
        exact ⟨v, hv⟩
      · show isCl cu.2.2.1; omega)
 | (refine hp J174 (Frc.tr (Frc.tr (Frc.tr (Frc.u7 (Frc.u0 Frc.rf) (by omega)) (Frd.fc (Fcu.rd f88))) f168) (Frd.fc f174)) (outT_o o174 (Frd.cb f174 cb168) (fun cu2 c2 _ rd g => ?_))
    obtain ⟨g1, g2, g3, g4, g5⟩ := g
    subst g1
    have e290 : J174 290 = J168 290 := f174.1 290 (by omega) (by omega)
    have e88 : J88 290 = uI I 290 (4 * i) (I 287 15) 290 := by rw [f88.1 290 (by omega), uI_row (by omega), show ((i : Int) * 4).toNat = 4 * i by omega]
    have e7 : J174 287 7 = ((i + 1 : Nat) : Int) := by rw [f174.2 7 (by omega), e168 7 (by omega), f88.2 7 (by omega), uI_s]; omega
    have eq : ∀ k, (7 < k ∧ k < 12) → J174 287 k = I 287 k := fun k hk => by rw [f174.2 k (by omega), e168 k (by omega), f88.2 k (by omega), uI_o (by omega), uI_o (by omega)]
    refine ⟨cl ++ [(cu.2.2.1, v168)], clc_app hC (by rw [e7, hi]) (fun k hk => by rw [e290, a168 k (by omega), e88, uI_o (by omega)]) ⟨?_, fun h => ?_, fun h => ?_⟩ ?_ ?_ ⟨hcl, fun h => absurd h hnlw⟩ ⟨[], by rw [List.append_nil]⟩ (by omega), hG _ ⟨hcl, by show cl.length < 24; omega, Or.inr ⟨hnlw, g2, g3, by rw [g4, ← g5]⟩⟩⟩
    · rw [e290, hi, a168 (4 * i) (by omega), e88, uI_s]; exact k1
    · rw [e290, hi, p168]
    · rw [e290, hi]; exact q168 (by have h9 : cu.2.2.1 = 138 := h; omega)
    · rw [eq 8 (by omega), eq 9 (by omega)]; exact lw_keep hC.2.2.1 (by show cu.2.2.1 ≠ 136; omega)
    · rw [eq 10 (by omega), eq 11 (by omega)]; exact lw_keep hC.2.2.2.1 (by show cu.2.2.1 ≠ 137; omega)))
        · refine x_aload_n dX5_readClause_62 rfl ?_
          refine x_bipush dX5_readClause_63 (by decide) ?_
          refine x_callV1 (mc1 := 0) (ms1 := 0) dX5_readClause_65 cv_RX5_122 (ci := 5) (k_ob_287 cs) rfl (Nat.le_of_ble_eq_true rfl) (n1 := n - 1) (by omega) (by omega) (by omega) ?_
          refine sp_X5_refuse (G := fun _ _ => False) cs (by omega) (by omega) (hRf 6 (hF _ _ (Or.inr (Or.inr (Or.inl ⟨by show isCl cu.2.2.1; omega, by show ¬ (isLw cu.2.2.1 ∧ hasL cl cu.2.2.1); rintro ⟨h1, h2⟩; rcases h1 with h1 | h1 <;> rw [h1] at h2 <;> first | (rw [lh1] at h2; omega) | (rw [lh2] at h2; omega), by show cl.length = 24; omega, rfl, rfl⟩))))) (fun J65 f65 o65 => ?_)
          refine x_goto 177 dX5_readClause_68 (by decide) ?_
          exact x_return dX5_readClause_177 rfl (by omega) (by omega) (by first
 | exact hp _ (Frd.fc f14) (outT_f o14 (Frd.cb f14 hcb))
 | exact hp _ (Frd.fc f50) (outT_f o50 (Frd.cb f50 hcb))
 | exact hp _ (Frd.fc f65) (outT_f o65 (Frd.cb f65 hcb))
 | (refine hp J174 (Frc.tr (Frc.tr (Frc.u7 (Frc.u7 (Frc.tr (Frc.u7 (Frc.u0 Frc.rf) (by omega)) (Frd.fc (Fcu.rd f88))) (by omega)) (by omega)) (Frc.u7 (Frd.fc f113) (by omega))) (Frd.fc f174)) (outT_o o174 (CB.w (CB.u hcb (q := 4 * i) (v := I 287 15) (by omega)) ?_) (fun cu2 c2 _ rd g => ?_))
    · rw [f174.1 290 (by omega) (by omega), uI_row (by omega), f113.1 290 (by omega) (by omega), uI_row (by omega), uI_row (by omega), f88.1 290 (by omega), uI_row (by omega), show ((i : Int) * 4).toNat = 4 * i by omega]
    · obtain ⟨cu9, g1, g2, g3, g4⟩ := g
      have hap : Ap false false code c2 := g1.1.1.1
      have e290 : J174 290 = uI I 290 (4 * i) (I 287 15) 290 := by rw [f174.1 290 (by omega) (by omega), uI_row (by omega), f113.1 290 (by omega) (by omega), uI_row (by omega), uI_row (by omega), f88.1 290 (by omega), uI_row (by omega), show ((i : Int) * 4).toNat = 4 * i by omega]
      have e7 : J174 287 7 = ((i + 1 : Nat) : Int) := by rw [f174.2 7 (by omega), uI_o (by omega), f113.2 7 (by omega), uI_o (by omega), uI_o (by omega), f88.2 7 (by omega), uI_s]; omega
      have efr : J174 287 8 = (code.length : Int) := by rw [f174.2 8 (by omega), uI_o (by omega), f113.2 8 (by omega), uI_s, uI_o (by omega)]; exact hR88.2.2.1
      have eto : J174 287 9 = (c2.length : Int) := by rw [f174.2 9 (by omega), uI_s]; exact g4.symm
      have eo1 : J174 287 10 = I 287 10 := by rw [f174.2 10 (by omega), uI_o (by omega), f113.2 10 (by omega), uI_o (by omega), uI_o (by omega), f88.2 10 (by omega), uI_o (by omega), uI_o (by omega)]
      have eo2 : J174 287 11 = I 287 11 := by rw [f174.2 11 (by omega), uI_o (by omega), f113.2 11 (by omega), uI_o (by omega), uI_o (by omega), f88.2 11 (by omega), uI_o (by omega), uI_o (by omega)]
      refine ⟨cl ++ [(cu.2.2.1, (code.length : Int), (c2.length : Int), 0)], clc_app hC (by rw [e7, hi]) (fun k hk => by rw [e290, uI_o (by omega)]) ⟨?_, fun h => ?_, fun h => ?_⟩ ?_ ?_ ⟨?_, fun _ => ?_⟩ ?_ (by omega), hG _ ⟨?_, by show cl.length < 24; omega, Or.inl ⟨hlw, hnl, cu9, c2, by show SumG t l (decide (cu.2.2.1 = 137)) _ _ _ _ _; rw [hdc]; exact g1, g2, by rw [g3]⟩⟩⟩
      · rw [e290, hi, uI_s]; exact k1
      · exfalso; have h9 : 138 ≤ cu.2.2.1 ∨ cu.2.2.1 = 128 := h; omega
      · exfalso; have h9 : cu.2.2.1 = 138 := h; omega
      · rw [hw]; rw [efr, eto]; exact lw_new (by have := hnl; rw [← hw]; exact this) ⟨by omega, by have := ap_lt hap; omega⟩
      · rw [hw]; rw [eo1, eo2]; exact lw_keep hC.2.2.2.1 (by show (136 : Int) ≠ 137; decide)
      · show isCl cu.2.2.1; omega
      · show LawOK (decide (cu.2.2.1 = 137)) _ _ _; rw [hdc]; exact law_new hap
      · obtain ⟨v, hv, _⟩ := hap
        exact ⟨v, hv⟩
      · show isCl cu.2.2.1; omega)
 | (refine hp J174 (Frc.tr (Frc.tr (Frc.u7 (Frc.u7 (Frc.tr (Frc.u7 (Frc.u0 Frc.rf) (by omega)) (Frd.fc (Fcu.rd f88))) (by omega)) (by omega)) (Frc.u7 (Frd.fc f149) (by omega))) (Frd.fc f174)) (outT_o o174 (CB.w (CB.u hcb (q := 4 * i) (v := I 287 15) (by omega)) ?_) (fun cu2 c2 _ rd g => ?_))
    · rw [f174.1 290 (by omega) (by omega), uI_row (by omega), f149.1 290 (by omega) (by omega), uI_row (by omega), uI_row (by omega), f88.1 290 (by omega), uI_row (by omega), show ((i : Int) * 4).toNat = 4 * i by omega]
    · obtain ⟨cu9, g1, g2, g3, g4⟩ := g
      have hap : Ap true false code c2 := g1.1.1.1
      have e290 : J174 290 = uI I 290 (4 * i) (I 287 15) 290 := by rw [f174.1 290 (by omega) (by omega), uI_row (by omega), f149.1 290 (by omega) (by omega), uI_row (by omega), uI_row (by omega), f88.1 290 (by omega), uI_row (by omega), show ((i : Int) * 4).toNat = 4 * i by omega]
      have e7 : J174 287 7 = ((i + 1 : Nat) : Int) := by rw [f174.2 7 (by omega), uI_o (by omega), f149.2 7 (by omega), uI_o (by omega), uI_o (by omega), f88.2 7 (by omega), uI_s]; omega
      have efr : J174 287 10 = (code.length : Int) := by rw [f174.2 10 (by omega), uI_o (by omega), f149.2 10 (by omega), uI_s, uI_o (by omega)]; exact hR88.2.2.1
      have eto : J174 287 11 = (c2.length : Int) := by rw [f174.2 11 (by omega), uI_s]; exact g4.symm
      have eo1 : J174 287 8 = I 287 8 := by rw [f174.2 8 (by omega), uI_o (by omega), f149.2 8 (by omega), uI_o (by omega), uI_o (by omega), f88.2 8 (by omega), uI_o (by omega), uI_o (by omega)]
      have eo2 : J174 287 9 = I 287 9 := by rw [f174.2 9 (by omega), uI_o (by omega), f149.2 9 (by omega), uI_o (by omega), uI_o (by omega), f88.2 9 (by omega), uI_o (by omega), uI_o (by omega)]
      refine ⟨cl ++ [(cu.2.2.1, (code.length : Int), (c2.length : Int), 0)], clc_app hC (by rw [e7, hi]) (fun k hk => by rw [e290, uI_o (by omega)]) ⟨?_, fun h => ?_, fun h => ?_⟩ ?_ ?_ ⟨?_, fun _ => ?_⟩ ?_ (by omega), hG _ ⟨?_, by show cl.length < 24; omega, Or.inl ⟨hlw, hnl, cu9, c2, by show SumG t l (decide (cu.2.2.1 = 137)) _ _ _ _ _; rw [hdc]; exact g1, g2, by rw [g3]⟩⟩⟩
      · rw [e290, hi, uI_s]; exact k1
      · exfalso; have h9 : 138 ≤ cu.2.2.1 ∨ cu.2.2.1 = 128 := h; omega
      · exfalso; have h9 : cu.2.2.1 = 138 := h; omega
      · rw [hw]; rw [eo1, eo2]; exact lw_keep hC.2.2.1 (by show (137 : Int) ≠ 136; decide)
      · rw [hw]; rw [efr, eto]; exact lw_new (by have := hnl; rw [← hw]; exact this) ⟨by omega, by have := ap_lt hap; omega⟩
      · show isCl cu.2.2.1; omega
      · show LawOK (decide (cu.2.2.1 = 137)) _ _ _; rw [hdc]; exact law_new hap
      · obtain ⟨v, hv, _⟩ := hap
        exact ⟨v, hv⟩
      · show isCl cu.2.2.1; omega)
 | (refine hp J174 (Frc.tr (Frc.tr (Frc.tr (Frc.u7 (Frc.u0 Frc.rf) (by omega)) (Frd.fc (Fcu.rd f88))) f168) (Frd.fc f174)) (outT_o o174 (Frd.cb f174 cb168) (fun cu2 c2 _ rd g => ?_))
    obtain ⟨g1, g2, g3, g4, g5⟩ := g
    subst g1
    have e290 : J174 290 = J168 290 := f174.1 290 (by omega) (by omega)
    have e88 : J88 290 = uI I 290 (4 * i) (I 287 15) 290 := by rw [f88.1 290 (by omega), uI_row (by omega), show ((i : Int) * 4).toNat = 4 * i by omega]
    have e7 : J174 287 7 = ((i + 1 : Nat) : Int) := by rw [f174.2 7 (by omega), e168 7 (by omega), f88.2 7 (by omega), uI_s]; omega
    have eq : ∀ k, (7 < k ∧ k < 12) → J174 287 k = I 287 k := fun k hk => by rw [f174.2 k (by omega), e168 k (by omega), f88.2 k (by omega), uI_o (by omega), uI_o (by omega)]
    refine ⟨cl ++ [(cu.2.2.1, v168)], clc_app hC (by rw [e7, hi]) (fun k hk => by rw [e290, a168 k (by omega), e88, uI_o (by omega)]) ⟨?_, fun h => ?_, fun h => ?_⟩ ?_ ?_ ⟨hcl, fun h => absurd h hnlw⟩ ⟨[], by rw [List.append_nil]⟩ (by omega), hG _ ⟨hcl, by show cl.length < 24; omega, Or.inr ⟨hnlw, g2, g3, by rw [g4, ← g5]⟩⟩⟩
    · rw [e290, hi, a168 (4 * i) (by omega), e88, uI_s]; exact k1
    · rw [e290, hi, p168]
    · rw [e290, hi]; exact q168 (by have h9 : cu.2.2.1 = 138 := h; omega)
    · rw [eq 8 (by omega), eq 9 (by omega)]; exact lw_keep hC.2.2.1 (by show cu.2.2.1 ≠ 136; omega)
    · rw [eq 10 (by omega), eq 11 (by omega)]; exact lw_keep hC.2.2.2.1 (by show cu.2.2.1 ≠ 137; omega)))
      · refine x_aload_n dX5_readClause_41 rfl ?_
        refine x_getI dX5_readClause_42 gf_RX5_68 (k_ob_287 cs) (fun _ _ => rfl) ?_
        refine x_if_le 56 dX5_readClause_45 (by decide) (by omega) (fun w45 => ?_) (fun w45 => ?_)
        · refine x_iload_n dX5_readClause_56 rfl ?_
          refine x_bipush dX5_readClause_57 (by decide) ?_
          refine x_icmp_lt 71 dX5_readClause_59 (by decide) ⟨(by omega), (by omega)⟩ (fun w59 => ?_) (fun w59 => ?_)
          · refine x_aload_n dX5_readClause_71 rfl ?_
            refine x_getR (b := 290) dX5_readClause_72 gf_RX5_18 (k_ob_287 cs) (fun _ _ => rfl) (k_r_287_2 cs) ?_
            refine x_iload_n dX5_readClause_75 rfl ?_
            refine x_iconst dX5_readClause_76 ?_
            refine x_imul dX5_readClause_77 ?_
            refine x_iload_n dX5_readClause_78 rfl ?_
            refine x_iastore dX5_readClause_79 (k_ar_290 cs) (by omega) (by omega) ?_
            refine x_aload_n dX5_readClause_80 rfl ?_
            refine x_iload_n dX5_readClause_81 rfl ?_
            refine x_iconst dX5_readClause_82 ?_
            refine x_iadd dX5_readClause_83 ?_
            refine x_putI dX5_readClause_84 gf_RX5_56 (k_ob_287 cs) rfl ?_
            refine x_aload_n dX5_readClause_87 rfl ?_
            refine x_callV0 (mc1 := 0) (ms1 := 0) dX5_readClause_88 cv_RX5_34 (ci := 5) (k_ob_287 cs) rfl (Nat.le_of_ble_eq_true rfl) (n1 := n - 1) (by omega) (by omega) (by omega) ?_
            have fo88 : Foc I (uI (uI I 290 (((i : Int) * 4).toNat) (I 287 15)) 287 7 ((i : Int) + 1)) := Foc.u7 (Foc.u0 Foc.rf) (by omega)
            refine sp_X5_advance (t := t) (l := l) (p := cu.1) cs (by omega) (tpc_fr hT fo88) k4 (by rw [uI_o (by omega), uI_o (by omega)]; exact hR.1.1) (fun J88 c88 f88 => ?_)
            have hT88 : TpC J88 t l := TpC.f (tpc_fr hT fo88) f88
            have hne : cu.2.2.1 ≠ 0 := by omega
            have ca88 := cu_adv (t := t) hR.2.1 l3
            have hR88 : RdC J88 l (adv t l cu.1) code := ⟨c88, ca88.1, by rw [f88.2 6 (by omega), uI_o (by omega), uI_o (by omega)]; exact hR.2.2.1, fun q hq => by rw [f88.1 289 (by omega), uI_o (by omega), uI_o (by omega)]; exact hR.2.2.2.1 q hq, by have := ca88.2.2; omega, by rw [f88.2 5 (by omega), uI_o (by omega), uI_o (by omega)]; exact hR.2.2.2.2.2⟩
            have h88 : J88 287 4 = 0 := by rw [f88.2 4 (by omega), uI_o (by omega), uI_o (by omega)]; exact h0
            have s88 : (J88 287 12 = 1 ∧ sl = true) ∨ (J88 287 12 = 0 ∧ sl = false) := by rw [f88.2 12 (by omega), uI_o (by omega), uI_o (by omega)]; exact hsl
            skip
            refine x_iload_n dX5_readClause_91 rfl ?_
            refine x_sipush dX5_readClause_92 (by decide) ?_
            refine x_icmp_ne 127 dX5_readClause_95 (by decide) ⟨(by omega), (by omega)⟩ (fun w95 => ?_) (fun w95 => ?_)
            · refine x_iload_n dX5_readClause_127 rfl ?_
              refine x_sipush dX5_readClause_128 (by decide) ?_
              refine x_icmp_ne 163 dX5_readClause_131 (by decide) ⟨(by omega), (by omega)⟩ (fun w131 => ?_) (fun w131 => ?_)
              · have hcl : isCl ((cl, code, cu) : TMS).2.2.2.2.1 := by show isCl cu.2.2.1; omega
                have hnlw : ¬ isLw ((cl, code, cu) : TMS).2.2.2.2.1 := by show ¬ isLw cu.2.2.1; omega
                have hcb88 : CB J88 := CB.w (CB.u hcb (q := ((i : Int) * 4).toNat) (v := I 287 15) (by omega)) (by rw [f88.1 290 (by omega), uI_row (by omega)])
                refine x_aload_n dX5_readClause_163 rfl ?_
                refine x_iload_n dX5_readClause_164 rfl ?_
                refine x_iload_n dX5_readClause_165 rfl ?_
                refine x_iconst dX5_readClause_166 ?_
                refine x_imul dX5_readClause_167 ?_
                refine x_callV2 (mc1 := 0) (ms1 := 0) dX5_readClause_168 cv_RX5_132 (ci := 5) (k_ob_287 cs) rfl (Nat.le_of_ble_eq_true rfl) (n1 := n - 1) (by omega) (by omega) (by omega) ?_
                rw [show (i : Int) * 4 = ((4 * i : Nat) : Int) by omega]
                refine sp_X5_readDeed (t := t) (l := l) (sl := sl) (F := F) (p := 4 * i) (G := fun v cu1 c1 => c1 = code ∧ (deed t l cu.2.2.1 (adv t l cu.1)).1 = 0 ∧ cu1 = (deed t l cu.2.2.1 (adv t l cu.1)).2.2 ∧ v = (deed t l cu.2.2.1 (adv t l cu.1)).2.1) cs (by omega) (by omega) (by omega) hcb88 ⟨⟨hT88, s88⟩, Or.inr ⟨h88, adv t l cu.1, code, hR88, ?_, fun h9 => ⟨rfl, by rw [← k1]; exact h9, by rw [← k1], by rw [← k1]⟩⟩⟩ (fun v168 J168 f168 e168 cb168 a168 p168 q168 o168 => ?_)
                · rw [k1]
                  exact fun h9 => hF _ _ (Or.inr (Or.inr (Or.inr (Or.inr ⟨hcl, hnlw, by show cl.length < 24; omega, Or.inl ⟨h9, rfl, rfl⟩⟩))))
                refine x_aload_n dX5_readClause_171 rfl ?_
                refine x_bipush dX5_readClause_172 (by decide) ?_
                refine x_callV1 (mc1 := 0) (ms1 := 0) dX5_readClause_174 cv_RX5_136 (ci := 5) (k_ob_287 cs) rfl (Nat.le_of_ble_eq_true rfl) (n1 := n - 1) (by omega) (by omega) (by omega) ?_
                refine sp_X5_expect (sl := sl) (F := F) (G := fun cu2 c2 => c2 = code ∧ (deed t l cu.2.2.1 (adv t l cu.1)).1 = 0 ∧ (deed t l cu.2.2.1 (adv t l cu.1)).2.2.2.2.1 = 59 ∧ cu2 = adv t l (deed t l cu.2.2.1 (adv t l cu.1)).2.2.1 ∧ v168 = (deed t l cu.2.2.1 (adv t l cu.1)).2.1) cs (by omega) (by omega) (out_imp o168 (fun cu1 c1 ok ln _ _ _ _ g => ?_)) (fun J174 f174 o174 => ?_)
                · obtain ⟨g1, g2, g3, g4⟩ := g
                  subst g1
                  refine ⟨fun hk => hF 1 _ (Or.inr (Or.inr (Or.inr (Or.inr ⟨hcl, hnlw, by show cl.length < 24; omega, Or.inr ⟨g2, ?_, rfl, ?_⟩⟩)))), fun hk => ⟨rfl, g2, ?_, ?_, g4⟩⟩
                  · show (deed t l cu.2.2.1 (adv t l cu.1)).2.2.2.2.1 ≠ 59
                    rw [← g3]; exact hk
                  · show _ = (deed t l cu.2.2.1 (adv t l cu.1)).2.2.2.1
                    rw [← g3]
                  · rw [← g3]; exact hk
                  · rw [← g3]
                exact x_return dX5_readClause_177 rfl (by omega) (by omega) (by first
 | exact hp _ (Frd.fc f14) (outT_f o14 (Frd.cb f14 hcb))
 | exact hp _ (Frd.fc f50) (outT_f o50 (Frd.cb f50 hcb))
 | exact hp _ (Frd.fc f65) (outT_f o65 (Frd.cb f65 hcb))
 | (refine hp J174 (Frc.tr (Frc.tr (Frc.u7 (Frc.u7 (Frc.tr (Frc.u7 (Frc.u0 Frc.rf) (by omega)) (Frd.fc (Fcu.rd f88))) (by omega)) (by omega)) (Frc.u7 (Frd.fc f113) (by omega))) (Frd.fc f174)) (outT_o o174 (CB.w (CB.u hcb (q := 4 * i) (v := I 287 15) (by omega)) ?_) (fun cu2 c2 _ rd g => ?_))
    · rw [f174.1 290 (by omega) (by omega), uI_row (by omega), f113.1 290 (by omega) (by omega), uI_row (by omega), uI_row (by omega), f88.1 290 (by omega), uI_row (by omega), show ((i : Int) * 4).toNat = 4 * i by omega]
    · obtain ⟨cu9, g1, g2, g3, g4⟩ := g
      have hap : Ap false false code c2 := g1.1.1.1
      have e290 : J174 290 = uI I 290 (4 * i) (I 287 15) 290 := by rw [f174.1 290 (by omega) (by omega), uI_row (by omega), f113.1 290 (by omega) (by omega), uI_row (by omega), uI_row (by omega), f88.1 290 (by omega), uI_row (by omega), show ((i : Int) * 4).toNat = 4 * i by omega]
      have e7 : J174 287 7 = ((i + 1 : Nat) : Int) := by rw [f174.2 7 (by omega), uI_o (by omega), f113.2 7 (by omega), uI_o (by omega), uI_o (by omega), f88.2 7 (by omega), uI_s]; omega
      have efr : J174 287 8 = (code.length : Int) := by rw [f174.2 8 (by omega), uI_o (by omega), f113.2 8 (by omega), uI_s, uI_o (by omega)]; exact hR88.2.2.1
      have eto : J174 287 9 = (c2.length : Int) := by rw [f174.2 9 (by omega), uI_s]; exact g4.symm
      have eo1 : J174 287 10 = I 287 10 := by rw [f174.2 10 (by omega), uI_o (by omega), f113.2 10 (by omega), uI_o (by omega), uI_o (by omega), f88.2 10 (by omega), uI_o (by omega), uI_o (by omega)]
      have eo2 : J174 287 11 = I 287 11 := by rw [f174.2 11 (by omega), uI_o (by omega), f113.2 11 (by omega), uI_o (by omega), uI_o (by omega), f88.2 11 (by omega), uI_o (by omega), uI_o (by omega)]
      refine ⟨cl ++ [(cu.2.2.1, (code.length : Int), (c2.length : Int), 0)], clc_app hC (by rw [e7, hi]) (fun k hk => by rw [e290, uI_o (by omega)]) ⟨?_, fun h => ?_, fun h => ?_⟩ ?_ ?_ ⟨?_, fun _ => ?_⟩ ?_ (by omega), hG _ ⟨?_, by show cl.length < 24; omega, Or.inl ⟨hlw, hnl, cu9, c2, by show SumG t l (decide (cu.2.2.1 = 137)) _ _ _ _ _; rw [hdc]; exact g1, g2, by rw [g3]⟩⟩⟩
      · rw [e290, hi, uI_s]; exact k1
      · exfalso; have h9 : 138 ≤ cu.2.2.1 ∨ cu.2.2.1 = 128 := h; omega
      · exfalso; have h9 : cu.2.2.1 = 138 := h; omega
      · rw [hw]; rw [efr, eto]; exact lw_new (by have := hnl; rw [← hw]; exact this) ⟨by omega, by have := ap_lt hap; omega⟩
      · rw [hw]; rw [eo1, eo2]; exact lw_keep hC.2.2.2.1 (by show (136 : Int) ≠ 137; decide)
      · show isCl cu.2.2.1; omega
      · show LawOK (decide (cu.2.2.1 = 137)) _ _ _; rw [hdc]; exact law_new hap
      · obtain ⟨v, hv, _⟩ := hap
        exact ⟨v, hv⟩
      · show isCl cu.2.2.1; omega)
 | (refine hp J174 (Frc.tr (Frc.tr (Frc.u7 (Frc.u7 (Frc.tr (Frc.u7 (Frc.u0 Frc.rf) (by omega)) (Frd.fc (Fcu.rd f88))) (by omega)) (by omega)) (Frc.u7 (Frd.fc f149) (by omega))) (Frd.fc f174)) (outT_o o174 (CB.w (CB.u hcb (q := 4 * i) (v := I 287 15) (by omega)) ?_) (fun cu2 c2 _ rd g => ?_))
    · rw [f174.1 290 (by omega) (by omega), uI_row (by omega), f149.1 290 (by omega) (by omega), uI_row (by omega), uI_row (by omega), f88.1 290 (by omega), uI_row (by omega), show ((i : Int) * 4).toNat = 4 * i by omega]
    · obtain ⟨cu9, g1, g2, g3, g4⟩ := g
      have hap : Ap true false code c2 := g1.1.1.1
      have e290 : J174 290 = uI I 290 (4 * i) (I 287 15) 290 := by rw [f174.1 290 (by omega) (by omega), uI_row (by omega), f149.1 290 (by omega) (by omega), uI_row (by omega), uI_row (by omega), f88.1 290 (by omega), uI_row (by omega), show ((i : Int) * 4).toNat = 4 * i by omega]
      have e7 : J174 287 7 = ((i + 1 : Nat) : Int) := by rw [f174.2 7 (by omega), uI_o (by omega), f149.2 7 (by omega), uI_o (by omega), uI_o (by omega), f88.2 7 (by omega), uI_s]; omega
      have efr : J174 287 10 = (code.length : Int) := by rw [f174.2 10 (by omega), uI_o (by omega), f149.2 10 (by omega), uI_s, uI_o (by omega)]; exact hR88.2.2.1
      have eto : J174 287 11 = (c2.length : Int) := by rw [f174.2 11 (by omega), uI_s]; exact g4.symm
      have eo1 : J174 287 8 = I 287 8 := by rw [f174.2 8 (by omega), uI_o (by omega), f149.2 8 (by omega), uI_o (by omega), uI_o (by omega), f88.2 8 (by omega), uI_o (by omega), uI_o (by omega)]
      have eo2 : J174 287 9 = I 287 9 := by rw [f174.2 9 (by omega), uI_o (by omega), f149.2 9 (by omega), uI_o (by omega), uI_o (by omega), f88.2 9 (by omega), uI_o (by omega), uI_o (by omega)]
      refine ⟨cl ++ [(cu.2.2.1, (code.length : Int), (c2.length : Int), 0)], clc_app hC (by rw [e7, hi]) (fun k hk => by rw [e290, uI_o (by omega)]) ⟨?_, fun h => ?_, fun h => ?_⟩ ?_ ?_ ⟨?_, fun _ => ?_⟩ ?_ (by omega), hG _ ⟨?_, by show cl.length < 24; omega, Or.inl ⟨hlw, hnl, cu9, c2, by show SumG t l (decide (cu.2.2.1 = 137)) _ _ _ _ _; rw [hdc]; exact g1, g2, by rw [g3]⟩⟩⟩
      · rw [e290, hi, uI_s]; exact k1
      · exfalso; have h9 : 138 ≤ cu.2.2.1 ∨ cu.2.2.1 = 128 := h; omega
      · exfalso; have h9 : cu.2.2.1 = 138 := h; omega
      · rw [hw]; rw [eo1, eo2]; exact lw_keep hC.2.2.1 (by show (137 : Int) ≠ 136; decide)
      · rw [hw]; rw [efr, eto]; exact lw_new (by have := hnl; rw [← hw]; exact this) ⟨by omega, by have := ap_lt hap; omega⟩
      · show isCl cu.2.2.1; omega
      · show LawOK (decide (cu.2.2.1 = 137)) _ _ _; rw [hdc]; exact law_new hap
      · obtain ⟨v, hv, _⟩ := hap
        exact ⟨v, hv⟩
      · show isCl cu.2.2.1; omega)
 | (refine hp J174 (Frc.tr (Frc.tr (Frc.tr (Frc.u7 (Frc.u0 Frc.rf) (by omega)) (Frd.fc (Fcu.rd f88))) f168) (Frd.fc f174)) (outT_o o174 (Frd.cb f174 cb168) (fun cu2 c2 _ rd g => ?_))
    obtain ⟨g1, g2, g3, g4, g5⟩ := g
    subst g1
    have e290 : J174 290 = J168 290 := f174.1 290 (by omega) (by omega)
    have e88 : J88 290 = uI I 290 (4 * i) (I 287 15) 290 := by rw [f88.1 290 (by omega), uI_row (by omega), show ((i : Int) * 4).toNat = 4 * i by omega]
    have e7 : J174 287 7 = ((i + 1 : Nat) : Int) := by rw [f174.2 7 (by omega), e168 7 (by omega), f88.2 7 (by omega), uI_s]; omega
    have eq : ∀ k, (7 < k ∧ k < 12) → J174 287 k = I 287 k := fun k hk => by rw [f174.2 k (by omega), e168 k (by omega), f88.2 k (by omega), uI_o (by omega), uI_o (by omega)]
    refine ⟨cl ++ [(cu.2.2.1, v168)], clc_app hC (by rw [e7, hi]) (fun k hk => by rw [e290, a168 k (by omega), e88, uI_o (by omega)]) ⟨?_, fun h => ?_, fun h => ?_⟩ ?_ ?_ ⟨hcl, fun h => absurd h hnlw⟩ ⟨[], by rw [List.append_nil]⟩ (by omega), hG _ ⟨hcl, by show cl.length < 24; omega, Or.inr ⟨hnlw, g2, g3, by rw [g4, ← g5]⟩⟩⟩
    · rw [e290, hi, a168 (4 * i) (by omega), e88, uI_s]; exact k1
    · rw [e290, hi, p168]
    · rw [e290, hi]; exact q168 (by have h9 : cu.2.2.1 = 138 := h; omega)
    · rw [eq 8 (by omega), eq 9 (by omega)]; exact lw_keep hC.2.2.1 (by show cu.2.2.1 ≠ 136; omega)
    · rw [eq 10 (by omega), eq 11 (by omega)]; exact lw_keep hC.2.2.2.1 (by show cu.2.2.1 ≠ 137; omega)))
              · have hw : cu.2.2.1 = 137 := by omega
                have hlw : isLw ((cl, code, cu) : TMS).2.2.2.2.1 := by show isLw cu.2.2.1; omega
                have hnl : ¬ hasL ((cl, code, cu) : TMS).1 ((cl, code, cu) : TMS).2.2.2.2.1 := by show ¬ hasL cl cu.2.2.1; rw [hw, lh2]; omega
                have hdc : decide (cu.2.2.1 = 137) = true := by rw [hw]; rfl
                refine x_aload_n dX5_readClause_134 rfl ?_
                refine x_iconst dX5_readClause_135 ?_
                refine x_putZ dX5_readClause_136 gf_RX5_125 (k_ob_287 cs) rfl (by omega) ?_
                refine x_aload_n dX5_readClause_139 rfl ?_
                refine x_aload_n dX5_readClause_140 rfl ?_
                refine x_getI dX5_readClause_141 gf_RX5_53 (k_ob_287 cs) (fun _ _ => rfl) ?_
                refine x_putI dX5_readClause_144 gf_RX5_65 (k_ob_287 cs) rfl ?_
                refine x_aload_n dX5_readClause_147 rfl ?_
                refine x_iconst dX5_readClause_148 ?_
                refine x_callV1 (mc1 := 0) (ms1 := 0) dX5_readClause_149 cv_RX5_129 (ci := 5) (k_ob_287 cs) rfl (Nat.le_of_ble_eq_true rfl) (n1 := n - 1) (by omega) (by omega) (by omega) ?_
                refine sum_K cs _ _ _ t l true F (fun cu1 c1 => SumG t l true 0 (adv t l cu.1) code cu1 c1) (by omega) ?_ (fun J149 f149 o149 => ?_)
                · exact ⟨⟨tpc_fr hT88 (Foc.u7 (Foc.u7 Foc.rf (by omega)) (by omega)), by first | exact Or.inr ⟨by rw [uI_o (by omega), uI_s], rfl⟩ | exact Or.inl ⟨by rw [uI_o (by omega), uI_s], rfl⟩⟩, Or.inr ⟨by rw [uI_o (by omega), uI_o (by omega)]; exact h88, adv t l cu.1, code, rdc_fr hR88 (Foc.u7 (Foc.u7 Foc.rf (by omega)) (by omega)), fun f pl x => hF f pl (Or.inr (Or.inr (Or.inr (Or.inl ⟨hlw, hnl, by show cl.length < 24; omega, Or.inl (by show SumF t l (decide (cu.2.2.1 = 137)) _ _ _ _ _; rw [hdc]; exact x)⟩)))), fun _ _ x => x⟩⟩
                refine x_aload_n dX5_readClause_152 rfl ?_
                refine x_aload_n dX5_readClause_153 rfl ?_
                refine x_getI dX5_readClause_154 gf_RX5_53 (k_ob_287 cs) (fun _ _ => rfl) ?_
                refine x_putI dX5_readClause_157 gf_RX5_68 (k_ob_287 cs) rfl ?_
                refine x_goto 171 dX5_readClause_160 (by decide) ?_
                refine x_aload_n dX5_readClause_171 rfl ?_
                refine x_bipush dX5_readClause_172 (by decide) ?_
                refine x_callV1 (mc1 := 0) (ms1 := 0) dX5_readClause_174 cv_RX5_136 (ci := 5) (k_ob_287 cs) rfl (Nat.le_of_ble_eq_true rfl) (n1 := n - 1) (by omega) (by omega) (by omega) ?_
                have q174 : OutC _ t l true F (fun cu1 c1 => (cu1.2.2.1 ≠ 59 → F 1 cu1.2.1) ∧ (cu1.2.2.1 = 59 → ∃ cu9, SumG t l true 0 (adv t l cu.1) code cu9 c1 ∧ cu9.2.2.1 = 59 ∧ adv t l cu1.1 = adv t l cu9.1 ∧ (c1.length : Int) = J149 287 6)) := out_fr (out_imp2 o149 (fun cu1 c1 rd _ g => ⟨fun hk => hF 1 _ (Or.inr (Or.inr (Or.inr (Or.inl ⟨hlw, hnl, by show cl.length < 24; omega, Or.inr ⟨cu1, c1, by show SumG t l (decide (cu.2.2.1 = 137)) _ _ _ _ _; rw [hdc]; exact g, hk, rfl, rfl⟩⟩)))), fun hk => ⟨cu1, g, hk, rfl, rd.2.2.1.symm⟩⟩)) (Foc.u7 (q := 11) (v := J149 287 6) Foc.rf (by omega)) (by rw [uI_o (by omega)]; exact o149.1.2)
                refine sp_X5_expect (sl := true) (F := F) (G := fun cu2 c2 => ∃ cu9, SumG t l true 0 (adv t l cu.1) code cu9 c2 ∧ cu9.2.2.1 = 59 ∧ cu2 = adv t l cu9.1 ∧ (c2.length : Int) = J149 287 6) cs (by omega) (by omega) q174 (fun J174 f174 o174 => ?_)
                exact x_return dX5_readClause_177 rfl (by omega) (by omega) (by first
 | exact hp _ (Frd.fc f14) (outT_f o14 (Frd.cb f14 hcb))
 | exact hp _ (Frd.fc f50) (outT_f o50 (Frd.cb f50 hcb))
 | exact hp _ (Frd.fc f65) (outT_f o65 (Frd.cb f65 hcb))
 | (refine hp J174 (Frc.tr (Frc.tr (Frc.u7 (Frc.u7 (Frc.tr (Frc.u7 (Frc.u0 Frc.rf) (by omega)) (Frd.fc (Fcu.rd f88))) (by omega)) (by omega)) (Frc.u7 (Frd.fc f113) (by omega))) (Frd.fc f174)) (outT_o o174 (CB.w (CB.u hcb (q := 4 * i) (v := I 287 15) (by omega)) ?_) (fun cu2 c2 _ rd g => ?_))
    · rw [f174.1 290 (by omega) (by omega), uI_row (by omega), f113.1 290 (by omega) (by omega), uI_row (by omega), uI_row (by omega), f88.1 290 (by omega), uI_row (by omega), show ((i : Int) * 4).toNat = 4 * i by omega]
    · obtain ⟨cu9, g1, g2, g3, g4⟩ := g
      have hap : Ap false false code c2 := g1.1.1.1
      have e290 : J174 290 = uI I 290 (4 * i) (I 287 15) 290 := by rw [f174.1 290 (by omega) (by omega), uI_row (by omega), f113.1 290 (by omega) (by omega), uI_row (by omega), uI_row (by omega), f88.1 290 (by omega), uI_row (by omega), show ((i : Int) * 4).toNat = 4 * i by omega]
      have e7 : J174 287 7 = ((i + 1 : Nat) : Int) := by rw [f174.2 7 (by omega), uI_o (by omega), f113.2 7 (by omega), uI_o (by omega), uI_o (by omega), f88.2 7 (by omega), uI_s]; omega
      have efr : J174 287 8 = (code.length : Int) := by rw [f174.2 8 (by omega), uI_o (by omega), f113.2 8 (by omega), uI_s, uI_o (by omega)]; exact hR88.2.2.1
      have eto : J174 287 9 = (c2.length : Int) := by rw [f174.2 9 (by omega), uI_s]; exact g4.symm
      have eo1 : J174 287 10 = I 287 10 := by rw [f174.2 10 (by omega), uI_o (by omega), f113.2 10 (by omega), uI_o (by omega), uI_o (by omega), f88.2 10 (by omega), uI_o (by omega), uI_o (by omega)]
      have eo2 : J174 287 11 = I 287 11 := by rw [f174.2 11 (by omega), uI_o (by omega), f113.2 11 (by omega), uI_o (by omega), uI_o (by omega), f88.2 11 (by omega), uI_o (by omega), uI_o (by omega)]
      refine ⟨cl ++ [(cu.2.2.1, (code.length : Int), (c2.length : Int), 0)], clc_app hC (by rw [e7, hi]) (fun k hk => by rw [e290, uI_o (by omega)]) ⟨?_, fun h => ?_, fun h => ?_⟩ ?_ ?_ ⟨?_, fun _ => ?_⟩ ?_ (by omega), hG _ ⟨?_, by show cl.length < 24; omega, Or.inl ⟨hlw, hnl, cu9, c2, by show SumG t l (decide (cu.2.2.1 = 137)) _ _ _ _ _; rw [hdc]; exact g1, g2, by rw [g3]⟩⟩⟩
      · rw [e290, hi, uI_s]; exact k1
      · exfalso; have h9 : 138 ≤ cu.2.2.1 ∨ cu.2.2.1 = 128 := h; omega
      · exfalso; have h9 : cu.2.2.1 = 138 := h; omega
      · rw [hw]; rw [efr, eto]; exact lw_new (by have := hnl; rw [← hw]; exact this) ⟨by omega, by have := ap_lt hap; omega⟩
      · rw [hw]; rw [eo1, eo2]; exact lw_keep hC.2.2.2.1 (by show (136 : Int) ≠ 137; decide)
      · show isCl cu.2.2.1; omega
      · show LawOK (decide (cu.2.2.1 = 137)) _ _ _; rw [hdc]; exact law_new hap
      · obtain ⟨v, hv, _⟩ := hap
        exact ⟨v, hv⟩
      · show isCl cu.2.2.1; omega)
 | (refine hp J174 (Frc.tr (Frc.tr (Frc.u7 (Frc.u7 (Frc.tr (Frc.u7 (Frc.u0 Frc.rf) (by omega)) (Frd.fc (Fcu.rd f88))) (by omega)) (by omega)) (Frc.u7 (Frd.fc f149) (by omega))) (Frd.fc f174)) (outT_o o174 (CB.w (CB.u hcb (q := 4 * i) (v := I 287 15) (by omega)) ?_) (fun cu2 c2 _ rd g => ?_))
    · rw [f174.1 290 (by omega) (by omega), uI_row (by omega), f149.1 290 (by omega) (by omega), uI_row (by omega), uI_row (by omega), f88.1 290 (by omega), uI_row (by omega), show ((i : Int) * 4).toNat = 4 * i by omega]
    · obtain ⟨cu9, g1, g2, g3, g4⟩ := g
      have hap : Ap true false code c2 := g1.1.1.1
      have e290 : J174 290 = uI I 290 (4 * i) (I 287 15) 290 := by rw [f174.1 290 (by omega) (by omega), uI_row (by omega), f149.1 290 (by omega) (by omega), uI_row (by omega), uI_row (by omega), f88.1 290 (by omega), uI_row (by omega), show ((i : Int) * 4).toNat = 4 * i by omega]
      have e7 : J174 287 7 = ((i + 1 : Nat) : Int) := by rw [f174.2 7 (by omega), uI_o (by omega), f149.2 7 (by omega), uI_o (by omega), uI_o (by omega), f88.2 7 (by omega), uI_s]; omega
      have efr : J174 287 10 = (code.length : Int) := by rw [f174.2 10 (by omega), uI_o (by omega), f149.2 10 (by omega), uI_s, uI_o (by omega)]; exact hR88.2.2.1
      have eto : J174 287 11 = (c2.length : Int) := by rw [f174.2 11 (by omega), uI_s]; exact g4.symm
      have eo1 : J174 287 8 = I 287 8 := by rw [f174.2 8 (by omega), uI_o (by omega), f149.2 8 (by omega), uI_o (by omega), uI_o (by omega), f88.2 8 (by omega), uI_o (by omega), uI_o (by omega)]
      have eo2 : J174 287 9 = I 287 9 := by rw [f174.2 9 (by omega), uI_o (by omega), f149.2 9 (by omega), uI_o (by omega), uI_o (by omega), f88.2 9 (by omega), uI_o (by omega), uI_o (by omega)]
      refine ⟨cl ++ [(cu.2.2.1, (code.length : Int), (c2.length : Int), 0)], clc_app hC (by rw [e7, hi]) (fun k hk => by rw [e290, uI_o (by omega)]) ⟨?_, fun h => ?_, fun h => ?_⟩ ?_ ?_ ⟨?_, fun _ => ?_⟩ ?_ (by omega), hG _ ⟨?_, by show cl.length < 24; omega, Or.inl ⟨hlw, hnl, cu9, c2, by show SumG t l (decide (cu.2.2.1 = 137)) _ _ _ _ _; rw [hdc]; exact g1, g2, by rw [g3]⟩⟩⟩
      · rw [e290, hi, uI_s]; exact k1
      · exfalso; have h9 : 138 ≤ cu.2.2.1 ∨ cu.2.2.1 = 128 := h; omega
      · exfalso; have h9 : cu.2.2.1 = 138 := h; omega
      · rw [hw]; rw [eo1, eo2]; exact lw_keep hC.2.2.1 (by show (137 : Int) ≠ 136; decide)
      · rw [hw]; rw [efr, eto]; exact lw_new (by have := hnl; rw [← hw]; exact this) ⟨by omega, by have := ap_lt hap; omega⟩
      · show isCl cu.2.2.1; omega
      · show LawOK (decide (cu.2.2.1 = 137)) _ _ _; rw [hdc]; exact law_new hap
      · obtain ⟨v, hv, _⟩ := hap
        exact ⟨v, hv⟩
      · show isCl cu.2.2.1; omega)
 | (refine hp J174 (Frc.tr (Frc.tr (Frc.tr (Frc.u7 (Frc.u0 Frc.rf) (by omega)) (Frd.fc (Fcu.rd f88))) f168) (Frd.fc f174)) (outT_o o174 (Frd.cb f174 cb168) (fun cu2 c2 _ rd g => ?_))
    obtain ⟨g1, g2, g3, g4, g5⟩ := g
    subst g1
    have e290 : J174 290 = J168 290 := f174.1 290 (by omega) (by omega)
    have e88 : J88 290 = uI I 290 (4 * i) (I 287 15) 290 := by rw [f88.1 290 (by omega), uI_row (by omega), show ((i : Int) * 4).toNat = 4 * i by omega]
    have e7 : J174 287 7 = ((i + 1 : Nat) : Int) := by rw [f174.2 7 (by omega), e168 7 (by omega), f88.2 7 (by omega), uI_s]; omega
    have eq : ∀ k, (7 < k ∧ k < 12) → J174 287 k = I 287 k := fun k hk => by rw [f174.2 k (by omega), e168 k (by omega), f88.2 k (by omega), uI_o (by omega), uI_o (by omega)]
    refine ⟨cl ++ [(cu.2.2.1, v168)], clc_app hC (by rw [e7, hi]) (fun k hk => by rw [e290, a168 k (by omega), e88, uI_o (by omega)]) ⟨?_, fun h => ?_, fun h => ?_⟩ ?_ ?_ ⟨hcl, fun h => absurd h hnlw⟩ ⟨[], by rw [List.append_nil]⟩ (by omega), hG _ ⟨hcl, by show cl.length < 24; omega, Or.inr ⟨hnlw, g2, g3, by rw [g4, ← g5]⟩⟩⟩
    · rw [e290, hi, a168 (4 * i) (by omega), e88, uI_s]; exact k1
    · rw [e290, hi, p168]
    · rw [e290, hi]; exact q168 (by have h9 : cu.2.2.1 = 138 := h; omega)
    · rw [eq 8 (by omega), eq 9 (by omega)]; exact lw_keep hC.2.2.1 (by show cu.2.2.1 ≠ 136; omega)
    · rw [eq 10 (by omega), eq 11 (by omega)]; exact lw_keep hC.2.2.2.1 (by show cu.2.2.1 ≠ 137; omega)))
            · have hw : cu.2.2.1 = 136 := by omega
              have hlw : isLw ((cl, code, cu) : TMS).2.2.2.2.1 := by show isLw cu.2.2.1; omega
              have hnl : ¬ hasL ((cl, code, cu) : TMS).1 ((cl, code, cu) : TMS).2.2.2.2.1 := by show ¬ hasL cl cu.2.2.1; rw [hw, lh1]; omega
              have hdc : decide (cu.2.2.1 = 137) = false := by rw [hw]; rfl
              refine x_aload_n dX5_readClause_98 rfl ?_
              refine x_iconst dX5_readClause_99 ?_
              refine x_putZ dX5_readClause_100 gf_RX5_125 (k_ob_287 cs) rfl (by omega) ?_
              refine x_aload_n dX5_readClause_103 rfl ?_
              refine x_aload_n dX5_readClause_104 rfl ?_
              refine x_getI dX5_readClause_105 gf_RX5_53 (k_ob_287 cs) (fun _ _ => rfl) ?_
              refine x_putI dX5_readClause_108 gf_RX5_59 (k_ob_287 cs) rfl ?_
              refine x_aload_n dX5_readClause_111 rfl ?_
              refine x_iconst dX5_readClause_112 ?_
              refine x_callV1 (mc1 := 0) (ms1 := 0) dX5_readClause_113 cv_RX5_129 (ci := 5) (k_ob_287 cs) rfl (Nat.le_of_ble_eq_true rfl) (n1 := n - 1) (by omega) (by omega) (by omega) ?_
              refine sum_K cs _ _ _ t l false F (fun cu1 c1 => SumG t l false 0 (adv t l cu.1) code cu1 c1) (by omega) ?_ (fun J113 f113 o113 => ?_)
              · exact ⟨⟨tpc_fr hT88 (Foc.u7 (Foc.u7 Foc.rf (by omega)) (by omega)), by first | exact Or.inr ⟨by rw [uI_o (by omega), uI_s], rfl⟩ | exact Or.inl ⟨by rw [uI_o (by omega), uI_s], rfl⟩⟩, Or.inr ⟨by rw [uI_o (by omega), uI_o (by omega)]; exact h88, adv t l cu.1, code, rdc_fr hR88 (Foc.u7 (Foc.u7 Foc.rf (by omega)) (by omega)), fun f pl x => hF f pl (Or.inr (Or.inr (Or.inr (Or.inl ⟨hlw, hnl, by show cl.length < 24; omega, Or.inl (by show SumF t l (decide (cu.2.2.1 = 137)) _ _ _ _ _; rw [hdc]; exact x)⟩)))), fun _ _ x => x⟩⟩
              refine x_aload_n dX5_readClause_116 rfl ?_
              refine x_aload_n dX5_readClause_117 rfl ?_
              refine x_getI dX5_readClause_118 gf_RX5_53 (k_ob_287 cs) (fun _ _ => rfl) ?_
              refine x_putI dX5_readClause_121 gf_RX5_62 (k_ob_287 cs) rfl ?_
              refine x_goto 171 dX5_readClause_124 (by decide) ?_
              refine x_aload_n dX5_readClause_171 rfl ?_
              refine x_bipush dX5_readClause_172 (by decide) ?_
              refine x_callV1 (mc1 := 0) (ms1 := 0) dX5_readClause_174 cv_RX5_136 (ci := 5) (k_ob_287 cs) rfl (Nat.le_of_ble_eq_true rfl) (n1 := n - 1) (by omega) (by omega) (by omega) ?_
              have q174 : OutC _ t l false F (fun cu1 c1 => (cu1.2.2.1 ≠ 59 → F 1 cu1.2.1) ∧ (cu1.2.2.1 = 59 → ∃ cu9, SumG t l false 0 (adv t l cu.1) code cu9 c1 ∧ cu9.2.2.1 = 59 ∧ adv t l cu1.1 = adv t l cu9.1 ∧ (c1.length : Int) = J113 287 6)) := out_fr (out_imp2 o113 (fun cu1 c1 rd _ g => ⟨fun hk => hF 1 _ (Or.inr (Or.inr (Or.inr (Or.inl ⟨hlw, hnl, by show cl.length < 24; omega, Or.inr ⟨cu1, c1, by show SumG t l (decide (cu.2.2.1 = 137)) _ _ _ _ _; rw [hdc]; exact g, hk, rfl, rfl⟩⟩)))), fun hk => ⟨cu1, g, hk, rfl, rd.2.2.1.symm⟩⟩)) (Foc.u7 (q := 9) (v := J113 287 6) Foc.rf (by omega)) (by rw [uI_o (by omega)]; exact o113.1.2)
              refine sp_X5_expect (sl := false) (F := F) (G := fun cu2 c2 => ∃ cu9, SumG t l false 0 (adv t l cu.1) code cu9 c2 ∧ cu9.2.2.1 = 59 ∧ cu2 = adv t l cu9.1 ∧ (c2.length : Int) = J113 287 6) cs (by omega) (by omega) q174 (fun J174 f174 o174 => ?_)
              exact x_return dX5_readClause_177 rfl (by omega) (by omega) (by first
 | exact hp _ (Frd.fc f14) (outT_f o14 (Frd.cb f14 hcb))
 | exact hp _ (Frd.fc f50) (outT_f o50 (Frd.cb f50 hcb))
 | exact hp _ (Frd.fc f65) (outT_f o65 (Frd.cb f65 hcb))
 | (refine hp J174 (Frc.tr (Frc.tr (Frc.u7 (Frc.u7 (Frc.tr (Frc.u7 (Frc.u0 Frc.rf) (by omega)) (Frd.fc (Fcu.rd f88))) (by omega)) (by omega)) (Frc.u7 (Frd.fc f113) (by omega))) (Frd.fc f174)) (outT_o o174 (CB.w (CB.u hcb (q := 4 * i) (v := I 287 15) (by omega)) ?_) (fun cu2 c2 _ rd g => ?_))
    · rw [f174.1 290 (by omega) (by omega), uI_row (by omega), f113.1 290 (by omega) (by omega), uI_row (by omega), uI_row (by omega), f88.1 290 (by omega), uI_row (by omega), show ((i : Int) * 4).toNat = 4 * i by omega]
    · obtain ⟨cu9, g1, g2, g3, g4⟩ := g
      have hap : Ap false false code c2 := g1.1.1.1
      have e290 : J174 290 = uI I 290 (4 * i) (I 287 15) 290 := by rw [f174.1 290 (by omega) (by omega), uI_row (by omega), f113.1 290 (by omega) (by omega), uI_row (by omega), uI_row (by omega), f88.1 290 (by omega), uI_row (by omega), show ((i : Int) * 4).toNat = 4 * i by omega]
      have e7 : J174 287 7 = ((i + 1 : Nat) : Int) := by rw [f174.2 7 (by omega), uI_o (by omega), f113.2 7 (by omega), uI_o (by omega), uI_o (by omega), f88.2 7 (by omega), uI_s]; omega
      have efr : J174 287 8 = (code.length : Int) := by rw [f174.2 8 (by omega), uI_o (by omega), f113.2 8 (by omega), uI_s, uI_o (by omega)]; exact hR88.2.2.1
      have eto : J174 287 9 = (c2.length : Int) := by rw [f174.2 9 (by omega), uI_s]; exact g4.symm
      have eo1 : J174 287 10 = I 287 10 := by rw [f174.2 10 (by omega), uI_o (by omega), f113.2 10 (by omega), uI_o (by omega), uI_o (by omega), f88.2 10 (by omega), uI_o (by omega), uI_o (by omega)]
      have eo2 : J174 287 11 = I 287 11 := by rw [f174.2 11 (by omega), uI_o (by omega), f113.2 11 (by omega), uI_o (by omega), uI_o (by omega), f88.2 11 (by omega), uI_o (by omega), uI_o (by omega)]
      refine ⟨cl ++ [(cu.2.2.1, (code.length : Int), (c2.length : Int), 0)], clc_app hC (by rw [e7, hi]) (fun k hk => by rw [e290, uI_o (by omega)]) ⟨?_, fun h => ?_, fun h => ?_⟩ ?_ ?_ ⟨?_, fun _ => ?_⟩ ?_ (by omega), hG _ ⟨?_, by show cl.length < 24; omega, Or.inl ⟨hlw, hnl, cu9, c2, by show SumG t l (decide (cu.2.2.1 = 137)) _ _ _ _ _; rw [hdc]; exact g1, g2, by rw [g3]⟩⟩⟩
      · rw [e290, hi, uI_s]; exact k1
      · exfalso; have h9 : 138 ≤ cu.2.2.1 ∨ cu.2.2.1 = 128 := h; omega
      · exfalso; have h9 : cu.2.2.1 = 138 := h; omega
      · rw [hw]; rw [efr, eto]; exact lw_new (by have := hnl; rw [← hw]; exact this) ⟨by omega, by have := ap_lt hap; omega⟩
      · rw [hw]; rw [eo1, eo2]; exact lw_keep hC.2.2.2.1 (by show (136 : Int) ≠ 137; decide)
      · show isCl cu.2.2.1; omega
      · show LawOK (decide (cu.2.2.1 = 137)) _ _ _; rw [hdc]; exact law_new hap
      · obtain ⟨v, hv, _⟩ := hap
        exact ⟨v, hv⟩
      · show isCl cu.2.2.1; omega)
 | (refine hp J174 (Frc.tr (Frc.tr (Frc.u7 (Frc.u7 (Frc.tr (Frc.u7 (Frc.u0 Frc.rf) (by omega)) (Frd.fc (Fcu.rd f88))) (by omega)) (by omega)) (Frc.u7 (Frd.fc f149) (by omega))) (Frd.fc f174)) (outT_o o174 (CB.w (CB.u hcb (q := 4 * i) (v := I 287 15) (by omega)) ?_) (fun cu2 c2 _ rd g => ?_))
    · rw [f174.1 290 (by omega) (by omega), uI_row (by omega), f149.1 290 (by omega) (by omega), uI_row (by omega), uI_row (by omega), f88.1 290 (by omega), uI_row (by omega), show ((i : Int) * 4).toNat = 4 * i by omega]
    · obtain ⟨cu9, g1, g2, g3, g4⟩ := g
      have hap : Ap true false code c2 := g1.1.1.1
      have e290 : J174 290 = uI I 290 (4 * i) (I 287 15) 290 := by rw [f174.1 290 (by omega) (by omega), uI_row (by omega), f149.1 290 (by omega) (by omega), uI_row (by omega), uI_row (by omega), f88.1 290 (by omega), uI_row (by omega), show ((i : Int) * 4).toNat = 4 * i by omega]
      have e7 : J174 287 7 = ((i + 1 : Nat) : Int) := by rw [f174.2 7 (by omega), uI_o (by omega), f149.2 7 (by omega), uI_o (by omega), uI_o (by omega), f88.2 7 (by omega), uI_s]; omega
      have efr : J174 287 10 = (code.length : Int) := by rw [f174.2 10 (by omega), uI_o (by omega), f149.2 10 (by omega), uI_s, uI_o (by omega)]; exact hR88.2.2.1
      have eto : J174 287 11 = (c2.length : Int) := by rw [f174.2 11 (by omega), uI_s]; exact g4.symm
      have eo1 : J174 287 8 = I 287 8 := by rw [f174.2 8 (by omega), uI_o (by omega), f149.2 8 (by omega), uI_o (by omega), uI_o (by omega), f88.2 8 (by omega), uI_o (by omega), uI_o (by omega)]
      have eo2 : J174 287 9 = I 287 9 := by rw [f174.2 9 (by omega), uI_o (by omega), f149.2 9 (by omega), uI_o (by omega), uI_o (by omega), f88.2 9 (by omega), uI_o (by omega), uI_o (by omega)]
      refine ⟨cl ++ [(cu.2.2.1, (code.length : Int), (c2.length : Int), 0)], clc_app hC (by rw [e7, hi]) (fun k hk => by rw [e290, uI_o (by omega)]) ⟨?_, fun h => ?_, fun h => ?_⟩ ?_ ?_ ⟨?_, fun _ => ?_⟩ ?_ (by omega), hG _ ⟨?_, by show cl.length < 24; omega, Or.inl ⟨hlw, hnl, cu9, c2, by show SumG t l (decide (cu.2.2.1 = 137)) _ _ _ _ _; rw [hdc]; exact g1, g2, by rw [g3]⟩⟩⟩
      · rw [e290, hi, uI_s]; exact k1
      · exfalso; have h9 : 138 ≤ cu.2.2.1 ∨ cu.2.2.1 = 128 := h; omega
      · exfalso; have h9 : cu.2.2.1 = 138 := h; omega
      · rw [hw]; rw [eo1, eo2]; exact lw_keep hC.2.2.1 (by show (137 : Int) ≠ 136; decide)
      · rw [hw]; rw [efr, eto]; exact lw_new (by have := hnl; rw [← hw]; exact this) ⟨by omega, by have := ap_lt hap; omega⟩
      · show isCl cu.2.2.1; omega
      · show LawOK (decide (cu.2.2.1 = 137)) _ _ _; rw [hdc]; exact law_new hap
      · obtain ⟨v, hv, _⟩ := hap
        exact ⟨v, hv⟩
      · show isCl cu.2.2.1; omega)
 | (refine hp J174 (Frc.tr (Frc.tr (Frc.tr (Frc.u7 (Frc.u0 Frc.rf) (by omega)) (Frd.fc (Fcu.rd f88))) f168) (Frd.fc f174)) (outT_o o174 (Frd.cb f174 cb168) (fun cu2 c2 _ rd g => ?_))
    obtain ⟨g1, g2, g3, g4, g5⟩ := g
    subst g1
    have e290 : J174 290 = J168 290 := f174.1 290 (by omega) (by omega)
    have e88 : J88 290 = uI I 290 (4 * i) (I 287 15) 290 := by rw [f88.1 290 (by omega), uI_row (by omega), show ((i : Int) * 4).toNat = 4 * i by omega]
    have e7 : J174 287 7 = ((i + 1 : Nat) : Int) := by rw [f174.2 7 (by omega), e168 7 (by omega), f88.2 7 (by omega), uI_s]; omega
    have eq : ∀ k, (7 < k ∧ k < 12) → J174 287 k = I 287 k := fun k hk => by rw [f174.2 k (by omega), e168 k (by omega), f88.2 k (by omega), uI_o (by omega), uI_o (by omega)]
    refine ⟨cl ++ [(cu.2.2.1, v168)], clc_app hC (by rw [e7, hi]) (fun k hk => by rw [e290, a168 k (by omega), e88, uI_o (by omega)]) ⟨?_, fun h => ?_, fun h => ?_⟩ ?_ ?_ ⟨hcl, fun h => absurd h hnlw⟩ ⟨[], by rw [List.append_nil]⟩ (by omega), hG _ ⟨hcl, by show cl.length < 24; omega, Or.inr ⟨hnlw, g2, g3, by rw [g4, ← g5]⟩⟩⟩
    · rw [e290, hi, a168 (4 * i) (by omega), e88, uI_s]; exact k1
    · rw [e290, hi, p168]
    · rw [e290, hi]; exact q168 (by have h9 : cu.2.2.1 = 138 := h; omega)
    · rw [eq 8 (by omega), eq 9 (by omega)]; exact lw_keep hC.2.2.1 (by show cu.2.2.1 ≠ 136; omega)
    · rw [eq 10 (by omega), eq 11 (by omega)]; exact lw_keep hC.2.2.2.1 (by show cu.2.2.1 ≠ 137; omega)))
          · refine x_aload_n dX5_readClause_62 rfl ?_
            refine x_bipush dX5_readClause_63 (by decide) ?_
            refine x_callV1 (mc1 := 0) (ms1 := 0) dX5_readClause_65 cv_RX5_122 (ci := 5) (k_ob_287 cs) rfl (Nat.le_of_ble_eq_true rfl) (n1 := n - 1) (by omega) (by omega) (by omega) ?_
            refine sp_X5_refuse (G := fun _ _ => False) cs (by omega) (by omega) (hRf 6 (hF _ _ (Or.inr (Or.inr (Or.inl ⟨by show isCl cu.2.2.1; omega, by show ¬ (isLw cu.2.2.1 ∧ hasL cl cu.2.2.1); rintro ⟨h1, h2⟩; rcases h1 with h1 | h1 <;> rw [h1] at h2 <;> first | (rw [lh1] at h2; omega) | (rw [lh2] at h2; omega), by show cl.length = 24; omega, rfl, rfl⟩))))) (fun J65 f65 o65 => ?_)
            refine x_goto 177 dX5_readClause_68 (by decide) ?_
            exact x_return dX5_readClause_177 rfl (by omega) (by omega) (by first
 | exact hp _ (Frd.fc f14) (outT_f o14 (Frd.cb f14 hcb))
 | exact hp _ (Frd.fc f50) (outT_f o50 (Frd.cb f50 hcb))
 | exact hp _ (Frd.fc f65) (outT_f o65 (Frd.cb f65 hcb))
 | (refine hp J174 (Frc.tr (Frc.tr (Frc.u7 (Frc.u7 (Frc.tr (Frc.u7 (Frc.u0 Frc.rf) (by omega)) (Frd.fc (Fcu.rd f88))) (by omega)) (by omega)) (Frc.u7 (Frd.fc f113) (by omega))) (Frd.fc f174)) (outT_o o174 (CB.w (CB.u hcb (q := 4 * i) (v := I 287 15) (by omega)) ?_) (fun cu2 c2 _ rd g => ?_))
    · rw [f174.1 290 (by omega) (by omega), uI_row (by omega), f113.1 290 (by omega) (by omega), uI_row (by omega), uI_row (by omega), f88.1 290 (by omega), uI_row (by omega), show ((i : Int) * 4).toNat = 4 * i by omega]
    · obtain ⟨cu9, g1, g2, g3, g4⟩ := g
      have hap : Ap false false code c2 := g1.1.1.1
      have e290 : J174 290 = uI I 290 (4 * i) (I 287 15) 290 := by rw [f174.1 290 (by omega) (by omega), uI_row (by omega), f113.1 290 (by omega) (by omega), uI_row (by omega), uI_row (by omega), f88.1 290 (by omega), uI_row (by omega), show ((i : Int) * 4).toNat = 4 * i by omega]
      have e7 : J174 287 7 = ((i + 1 : Nat) : Int) := by rw [f174.2 7 (by omega), uI_o (by omega), f113.2 7 (by omega), uI_o (by omega), uI_o (by omega), f88.2 7 (by omega), uI_s]; omega
      have efr : J174 287 8 = (code.length : Int) := by rw [f174.2 8 (by omega), uI_o (by omega), f113.2 8 (by omega), uI_s, uI_o (by omega)]; exact hR88.2.2.1
      have eto : J174 287 9 = (c2.length : Int) := by rw [f174.2 9 (by omega), uI_s]; exact g4.symm
      have eo1 : J174 287 10 = I 287 10 := by rw [f174.2 10 (by omega), uI_o (by omega), f113.2 10 (by omega), uI_o (by omega), uI_o (by omega), f88.2 10 (by omega), uI_o (by omega), uI_o (by omega)]
      have eo2 : J174 287 11 = I 287 11 := by rw [f174.2 11 (by omega), uI_o (by omega), f113.2 11 (by omega), uI_o (by omega), uI_o (by omega), f88.2 11 (by omega), uI_o (by omega), uI_o (by omega)]
      refine ⟨cl ++ [(cu.2.2.1, (code.length : Int), (c2.length : Int), 0)], clc_app hC (by rw [e7, hi]) (fun k hk => by rw [e290, uI_o (by omega)]) ⟨?_, fun h => ?_, fun h => ?_⟩ ?_ ?_ ⟨?_, fun _ => ?_⟩ ?_ (by omega), hG _ ⟨?_, by show cl.length < 24; omega, Or.inl ⟨hlw, hnl, cu9, c2, by show SumG t l (decide (cu.2.2.1 = 137)) _ _ _ _ _; rw [hdc]; exact g1, g2, by rw [g3]⟩⟩⟩
      · rw [e290, hi, uI_s]; exact k1
      · exfalso; have h9 : 138 ≤ cu.2.2.1 ∨ cu.2.2.1 = 128 := h; omega
      · exfalso; have h9 : cu.2.2.1 = 138 := h; omega
      · rw [hw]; rw [efr, eto]; exact lw_new (by have := hnl; rw [← hw]; exact this) ⟨by omega, by have := ap_lt hap; omega⟩
      · rw [hw]; rw [eo1, eo2]; exact lw_keep hC.2.2.2.1 (by show (136 : Int) ≠ 137; decide)
      · show isCl cu.2.2.1; omega
      · show LawOK (decide (cu.2.2.1 = 137)) _ _ _; rw [hdc]; exact law_new hap
      · obtain ⟨v, hv, _⟩ := hap
        exact ⟨v, hv⟩
      · show isCl cu.2.2.1; omega)
 | (refine hp J174 (Frc.tr (Frc.tr (Frc.u7 (Frc.u7 (Frc.tr (Frc.u7 (Frc.u0 Frc.rf) (by omega)) (Frd.fc (Fcu.rd f88))) (by omega)) (by omega)) (Frc.u7 (Frd.fc f149) (by omega))) (Frd.fc f174)) (outT_o o174 (CB.w (CB.u hcb (q := 4 * i) (v := I 287 15) (by omega)) ?_) (fun cu2 c2 _ rd g => ?_))
    · rw [f174.1 290 (by omega) (by omega), uI_row (by omega), f149.1 290 (by omega) (by omega), uI_row (by omega), uI_row (by omega), f88.1 290 (by omega), uI_row (by omega), show ((i : Int) * 4).toNat = 4 * i by omega]
    · obtain ⟨cu9, g1, g2, g3, g4⟩ := g
      have hap : Ap true false code c2 := g1.1.1.1
      have e290 : J174 290 = uI I 290 (4 * i) (I 287 15) 290 := by rw [f174.1 290 (by omega) (by omega), uI_row (by omega), f149.1 290 (by omega) (by omega), uI_row (by omega), uI_row (by omega), f88.1 290 (by omega), uI_row (by omega), show ((i : Int) * 4).toNat = 4 * i by omega]
      have e7 : J174 287 7 = ((i + 1 : Nat) : Int) := by rw [f174.2 7 (by omega), uI_o (by omega), f149.2 7 (by omega), uI_o (by omega), uI_o (by omega), f88.2 7 (by omega), uI_s]; omega
      have efr : J174 287 10 = (code.length : Int) := by rw [f174.2 10 (by omega), uI_o (by omega), f149.2 10 (by omega), uI_s, uI_o (by omega)]; exact hR88.2.2.1
      have eto : J174 287 11 = (c2.length : Int) := by rw [f174.2 11 (by omega), uI_s]; exact g4.symm
      have eo1 : J174 287 8 = I 287 8 := by rw [f174.2 8 (by omega), uI_o (by omega), f149.2 8 (by omega), uI_o (by omega), uI_o (by omega), f88.2 8 (by omega), uI_o (by omega), uI_o (by omega)]
      have eo2 : J174 287 9 = I 287 9 := by rw [f174.2 9 (by omega), uI_o (by omega), f149.2 9 (by omega), uI_o (by omega), uI_o (by omega), f88.2 9 (by omega), uI_o (by omega), uI_o (by omega)]
      refine ⟨cl ++ [(cu.2.2.1, (code.length : Int), (c2.length : Int), 0)], clc_app hC (by rw [e7, hi]) (fun k hk => by rw [e290, uI_o (by omega)]) ⟨?_, fun h => ?_, fun h => ?_⟩ ?_ ?_ ⟨?_, fun _ => ?_⟩ ?_ (by omega), hG _ ⟨?_, by show cl.length < 24; omega, Or.inl ⟨hlw, hnl, cu9, c2, by show SumG t l (decide (cu.2.2.1 = 137)) _ _ _ _ _; rw [hdc]; exact g1, g2, by rw [g3]⟩⟩⟩
      · rw [e290, hi, uI_s]; exact k1
      · exfalso; have h9 : 138 ≤ cu.2.2.1 ∨ cu.2.2.1 = 128 := h; omega
      · exfalso; have h9 : cu.2.2.1 = 138 := h; omega
      · rw [hw]; rw [eo1, eo2]; exact lw_keep hC.2.2.1 (by show (137 : Int) ≠ 136; decide)
      · rw [hw]; rw [efr, eto]; exact lw_new (by have := hnl; rw [← hw]; exact this) ⟨by omega, by have := ap_lt hap; omega⟩
      · show isCl cu.2.2.1; omega
      · show LawOK (decide (cu.2.2.1 = 137)) _ _ _; rw [hdc]; exact law_new hap
      · obtain ⟨v, hv, _⟩ := hap
        exact ⟨v, hv⟩
      · show isCl cu.2.2.1; omega)
 | (refine hp J174 (Frc.tr (Frc.tr (Frc.tr (Frc.u7 (Frc.u0 Frc.rf) (by omega)) (Frd.fc (Fcu.rd f88))) f168) (Frd.fc f174)) (outT_o o174 (Frd.cb f174 cb168) (fun cu2 c2 _ rd g => ?_))
    obtain ⟨g1, g2, g3, g4, g5⟩ := g
    subst g1
    have e290 : J174 290 = J168 290 := f174.1 290 (by omega) (by omega)
    have e88 : J88 290 = uI I 290 (4 * i) (I 287 15) 290 := by rw [f88.1 290 (by omega), uI_row (by omega), show ((i : Int) * 4).toNat = 4 * i by omega]
    have e7 : J174 287 7 = ((i + 1 : Nat) : Int) := by rw [f174.2 7 (by omega), e168 7 (by omega), f88.2 7 (by omega), uI_s]; omega
    have eq : ∀ k, (7 < k ∧ k < 12) → J174 287 k = I 287 k := fun k hk => by rw [f174.2 k (by omega), e168 k (by omega), f88.2 k (by omega), uI_o (by omega), uI_o (by omega)]
    refine ⟨cl ++ [(cu.2.2.1, v168)], clc_app hC (by rw [e7, hi]) (fun k hk => by rw [e290, a168 k (by omega), e88, uI_o (by omega)]) ⟨?_, fun h => ?_, fun h => ?_⟩ ?_ ?_ ⟨hcl, fun h => absurd h hnlw⟩ ⟨[], by rw [List.append_nil]⟩ (by omega), hG _ ⟨hcl, by show cl.length < 24; omega, Or.inr ⟨hnlw, g2, g3, by rw [g4, ← g5]⟩⟩⟩
    · rw [e290, hi, a168 (4 * i) (by omega), e88, uI_s]; exact k1
    · rw [e290, hi, p168]
    · rw [e290, hi]; exact q168 (by have h9 : cu.2.2.1 = 138 := h; omega)
    · rw [eq 8 (by omega), eq 9 (by omega)]; exact lw_keep hC.2.2.1 (by show cu.2.2.1 ≠ 136; omega)
    · rw [eq 10 (by omega), eq 11 (by omega)]; exact lw_keep hC.2.2.2.1 (by show cu.2.2.1 ≠ 137; omega)))
        · refine x_aload_n dX5_readClause_48 rfl ?_
          refine x_iconst dX5_readClause_49 ?_
          refine x_callV1 (mc1 := 0) (ms1 := 0) dX5_readClause_50 cv_RX5_122 (ci := 5) (k_ob_287 cs) rfl (Nat.le_of_ble_eq_true rfl) (n1 := n - 1) (by omega) (by omega) (by omega) ?_
          refine sp_X5_refuse (G := fun _ _ => False) cs (by omega) (by omega) (hRf 4 (hF _ _ (Or.inr (Or.inl ⟨by show isLw cu.2.2.1; omega, by show hasL cl cu.2.2.1; first | (rw [show cu.2.2.1 = 136 by omega, lh1]; omega) | (rw [show cu.2.2.1 = 137 by omega, lh2]; omega), rfl, rfl⟩)))) (fun J50 f50 o50 => ?_)
          refine x_goto 177 dX5_readClause_53 (by decide) ?_
          exact x_return dX5_readClause_177 rfl (by omega) (by omega) (by first
 | exact hp _ (Frd.fc f14) (outT_f o14 (Frd.cb f14 hcb))
 | exact hp _ (Frd.fc f50) (outT_f o50 (Frd.cb f50 hcb))
 | exact hp _ (Frd.fc f65) (outT_f o65 (Frd.cb f65 hcb))
 | (refine hp J174 (Frc.tr (Frc.tr (Frc.u7 (Frc.u7 (Frc.tr (Frc.u7 (Frc.u0 Frc.rf) (by omega)) (Frd.fc (Fcu.rd f88))) (by omega)) (by omega)) (Frc.u7 (Frd.fc f113) (by omega))) (Frd.fc f174)) (outT_o o174 (CB.w (CB.u hcb (q := 4 * i) (v := I 287 15) (by omega)) ?_) (fun cu2 c2 _ rd g => ?_))
    · rw [f174.1 290 (by omega) (by omega), uI_row (by omega), f113.1 290 (by omega) (by omega), uI_row (by omega), uI_row (by omega), f88.1 290 (by omega), uI_row (by omega), show ((i : Int) * 4).toNat = 4 * i by omega]
    · obtain ⟨cu9, g1, g2, g3, g4⟩ := g
      have hap : Ap false false code c2 := g1.1.1.1
      have e290 : J174 290 = uI I 290 (4 * i) (I 287 15) 290 := by rw [f174.1 290 (by omega) (by omega), uI_row (by omega), f113.1 290 (by omega) (by omega), uI_row (by omega), uI_row (by omega), f88.1 290 (by omega), uI_row (by omega), show ((i : Int) * 4).toNat = 4 * i by omega]
      have e7 : J174 287 7 = ((i + 1 : Nat) : Int) := by rw [f174.2 7 (by omega), uI_o (by omega), f113.2 7 (by omega), uI_o (by omega), uI_o (by omega), f88.2 7 (by omega), uI_s]; omega
      have efr : J174 287 8 = (code.length : Int) := by rw [f174.2 8 (by omega), uI_o (by omega), f113.2 8 (by omega), uI_s, uI_o (by omega)]; exact hR88.2.2.1
      have eto : J174 287 9 = (c2.length : Int) := by rw [f174.2 9 (by omega), uI_s]; exact g4.symm
      have eo1 : J174 287 10 = I 287 10 := by rw [f174.2 10 (by omega), uI_o (by omega), f113.2 10 (by omega), uI_o (by omega), uI_o (by omega), f88.2 10 (by omega), uI_o (by omega), uI_o (by omega)]
      have eo2 : J174 287 11 = I 287 11 := by rw [f174.2 11 (by omega), uI_o (by omega), f113.2 11 (by omega), uI_o (by omega), uI_o (by omega), f88.2 11 (by omega), uI_o (by omega), uI_o (by omega)]
      refine ⟨cl ++ [(cu.2.2.1, (code.length : Int), (c2.length : Int), 0)], clc_app hC (by rw [e7, hi]) (fun k hk => by rw [e290, uI_o (by omega)]) ⟨?_, fun h => ?_, fun h => ?_⟩ ?_ ?_ ⟨?_, fun _ => ?_⟩ ?_ (by omega), hG _ ⟨?_, by show cl.length < 24; omega, Or.inl ⟨hlw, hnl, cu9, c2, by show SumG t l (decide (cu.2.2.1 = 137)) _ _ _ _ _; rw [hdc]; exact g1, g2, by rw [g3]⟩⟩⟩
      · rw [e290, hi, uI_s]; exact k1
      · exfalso; have h9 : 138 ≤ cu.2.2.1 ∨ cu.2.2.1 = 128 := h; omega
      · exfalso; have h9 : cu.2.2.1 = 138 := h; omega
      · rw [hw]; rw [efr, eto]; exact lw_new (by have := hnl; rw [← hw]; exact this) ⟨by omega, by have := ap_lt hap; omega⟩
      · rw [hw]; rw [eo1, eo2]; exact lw_keep hC.2.2.2.1 (by show (136 : Int) ≠ 137; decide)
      · show isCl cu.2.2.1; omega
      · show LawOK (decide (cu.2.2.1 = 137)) _ _ _; rw [hdc]; exact law_new hap
      · obtain ⟨v, hv, _⟩ := hap
        exact ⟨v, hv⟩
      · show isCl cu.2.2.1; omega)
 | (refine hp J174 (Frc.tr (Frc.tr (Frc.u7 (Frc.u7 (Frc.tr (Frc.u7 (Frc.u0 Frc.rf) (by omega)) (Frd.fc (Fcu.rd f88))) (by omega)) (by omega)) (Frc.u7 (Frd.fc f149) (by omega))) (Frd.fc f174)) (outT_o o174 (CB.w (CB.u hcb (q := 4 * i) (v := I 287 15) (by omega)) ?_) (fun cu2 c2 _ rd g => ?_))
    · rw [f174.1 290 (by omega) (by omega), uI_row (by omega), f149.1 290 (by omega) (by omega), uI_row (by omega), uI_row (by omega), f88.1 290 (by omega), uI_row (by omega), show ((i : Int) * 4).toNat = 4 * i by omega]
    · obtain ⟨cu9, g1, g2, g3, g4⟩ := g
      have hap : Ap true false code c2 := g1.1.1.1
      have e290 : J174 290 = uI I 290 (4 * i) (I 287 15) 290 := by rw [f174.1 290 (by omega) (by omega), uI_row (by omega), f149.1 290 (by omega) (by omega), uI_row (by omega), uI_row (by omega), f88.1 290 (by omega), uI_row (by omega), show ((i : Int) * 4).toNat = 4 * i by omega]
      have e7 : J174 287 7 = ((i + 1 : Nat) : Int) := by rw [f174.2 7 (by omega), uI_o (by omega), f149.2 7 (by omega), uI_o (by omega), uI_o (by omega), f88.2 7 (by omega), uI_s]; omega
      have efr : J174 287 10 = (code.length : Int) := by rw [f174.2 10 (by omega), uI_o (by omega), f149.2 10 (by omega), uI_s, uI_o (by omega)]; exact hR88.2.2.1
      have eto : J174 287 11 = (c2.length : Int) := by rw [f174.2 11 (by omega), uI_s]; exact g4.symm
      have eo1 : J174 287 8 = I 287 8 := by rw [f174.2 8 (by omega), uI_o (by omega), f149.2 8 (by omega), uI_o (by omega), uI_o (by omega), f88.2 8 (by omega), uI_o (by omega), uI_o (by omega)]
      have eo2 : J174 287 9 = I 287 9 := by rw [f174.2 9 (by omega), uI_o (by omega), f149.2 9 (by omega), uI_o (by omega), uI_o (by omega), f88.2 9 (by omega), uI_o (by omega), uI_o (by omega)]
      refine ⟨cl ++ [(cu.2.2.1, (code.length : Int), (c2.length : Int), 0)], clc_app hC (by rw [e7, hi]) (fun k hk => by rw [e290, uI_o (by omega)]) ⟨?_, fun h => ?_, fun h => ?_⟩ ?_ ?_ ⟨?_, fun _ => ?_⟩ ?_ (by omega), hG _ ⟨?_, by show cl.length < 24; omega, Or.inl ⟨hlw, hnl, cu9, c2, by show SumG t l (decide (cu.2.2.1 = 137)) _ _ _ _ _; rw [hdc]; exact g1, g2, by rw [g3]⟩⟩⟩
      · rw [e290, hi, uI_s]; exact k1
      · exfalso; have h9 : 138 ≤ cu.2.2.1 ∨ cu.2.2.1 = 128 := h; omega
      · exfalso; have h9 : cu.2.2.1 = 138 := h; omega
      · rw [hw]; rw [eo1, eo2]; exact lw_keep hC.2.2.1 (by show (137 : Int) ≠ 136; decide)
      · rw [hw]; rw [efr, eto]; exact lw_new (by have := hnl; rw [← hw]; exact this) ⟨by omega, by have := ap_lt hap; omega⟩
      · show isCl cu.2.2.1; omega
      · show LawOK (decide (cu.2.2.1 = 137)) _ _ _; rw [hdc]; exact law_new hap
      · obtain ⟨v, hv, _⟩ := hap
        exact ⟨v, hv⟩
      · show isCl cu.2.2.1; omega)
 | (refine hp J174 (Frc.tr (Frc.tr (Frc.tr (Frc.u7 (Frc.u0 Frc.rf) (by omega)) (Frd.fc (Fcu.rd f88))) f168) (Frd.fc f174)) (outT_o o174 (Frd.cb f174 cb168) (fun cu2 c2 _ rd g => ?_))
    obtain ⟨g1, g2, g3, g4, g5⟩ := g
    subst g1
    have e290 : J174 290 = J168 290 := f174.1 290 (by omega) (by omega)
    have e88 : J88 290 = uI I 290 (4 * i) (I 287 15) 290 := by rw [f88.1 290 (by omega), uI_row (by omega), show ((i : Int) * 4).toNat = 4 * i by omega]
    have e7 : J174 287 7 = ((i + 1 : Nat) : Int) := by rw [f174.2 7 (by omega), e168 7 (by omega), f88.2 7 (by omega), uI_s]; omega
    have eq : ∀ k, (7 < k ∧ k < 12) → J174 287 k = I 287 k := fun k hk => by rw [f174.2 k (by omega), e168 k (by omega), f88.2 k (by omega), uI_o (by omega), uI_o (by omega)]
    refine ⟨cl ++ [(cu.2.2.1, v168)], clc_app hC (by rw [e7, hi]) (fun k hk => by rw [e290, a168 k (by omega), e88, uI_o (by omega)]) ⟨?_, fun h => ?_, fun h => ?_⟩ ?_ ?_ ⟨hcl, fun h => absurd h hnlw⟩ ⟨[], by rw [List.append_nil]⟩ (by omega), hG _ ⟨hcl, by show cl.length < 24; omega, Or.inr ⟨hnlw, g2, g3, by rw [g4, ← g5]⟩⟩⟩
    · rw [e290, hi, a168 (4 * i) (by omega), e88, uI_s]; exact k1
    · rw [e290, hi, p168]
    · rw [e290, hi]; exact q168 (by have h9 : cu.2.2.1 = 138 := h; omega)
    · rw [eq 8 (by omega), eq 9 (by omega)]; exact lw_keep hC.2.2.1 (by show cu.2.2.1 ≠ 136; omega)
    · rw [eq 10 (by omega), eq 11 (by omega)]; exact lw_keep hC.2.2.2.1 (by show cu.2.2.1 ≠ 137; omega)))
    · refine x_aload_n dX5_readClause_27 rfl ?_
      refine x_getI dX5_readClause_28 gf_RX5_62 (k_ob_287 cs) (fun _ _ => rfl) ?_
      refine x_if_gt 48 dX5_readClause_31 (by decide) (by omega) (fun w31 => ?_) (fun w31 => ?_)
      · refine x_aload_n dX5_readClause_48 rfl ?_
        refine x_iconst dX5_readClause_49 ?_
        refine x_callV1 (mc1 := 0) (ms1 := 0) dX5_readClause_50 cv_RX5_122 (ci := 5) (k_ob_287 cs) rfl (Nat.le_of_ble_eq_true rfl) (n1 := n - 1) (by omega) (by omega) (by omega) ?_
        refine sp_X5_refuse (G := fun _ _ => False) cs (by omega) (by omega) (hRf 4 (hF _ _ (Or.inr (Or.inl ⟨by show isLw cu.2.2.1; omega, by show hasL cl cu.2.2.1; first | (rw [show cu.2.2.1 = 136 by omega, lh1]; omega) | (rw [show cu.2.2.1 = 137 by omega, lh2]; omega), rfl, rfl⟩)))) (fun J50 f50 o50 => ?_)
        refine x_goto 177 dX5_readClause_53 (by decide) ?_
        exact x_return dX5_readClause_177 rfl (by omega) (by omega) (by first
 | exact hp _ (Frd.fc f14) (outT_f o14 (Frd.cb f14 hcb))
 | exact hp _ (Frd.fc f50) (outT_f o50 (Frd.cb f50 hcb))
 | exact hp _ (Frd.fc f65) (outT_f o65 (Frd.cb f65 hcb))
 | (refine hp J174 (Frc.tr (Frc.tr (Frc.u7 (Frc.u7 (Frc.tr (Frc.u7 (Frc.u0 Frc.rf) (by omega)) (Frd.fc (Fcu.rd f88))) (by omega)) (by omega)) (Frc.u7 (Frd.fc f113) (by omega))) (Frd.fc f174)) (outT_o o174 (CB.w (CB.u hcb (q := 4 * i) (v := I 287 15) (by omega)) ?_) (fun cu2 c2 _ rd g => ?_))
    · rw [f174.1 290 (by omega) (by omega), uI_row (by omega), f113.1 290 (by omega) (by omega), uI_row (by omega), uI_row (by omega), f88.1 290 (by omega), uI_row (by omega), show ((i : Int) * 4).toNat = 4 * i by omega]
    · obtain ⟨cu9, g1, g2, g3, g4⟩ := g
      have hap : Ap false false code c2 := g1.1.1.1
      have e290 : J174 290 = uI I 290 (4 * i) (I 287 15) 290 := by rw [f174.1 290 (by omega) (by omega), uI_row (by omega), f113.1 290 (by omega) (by omega), uI_row (by omega), uI_row (by omega), f88.1 290 (by omega), uI_row (by omega), show ((i : Int) * 4).toNat = 4 * i by omega]
      have e7 : J174 287 7 = ((i + 1 : Nat) : Int) := by rw [f174.2 7 (by omega), uI_o (by omega), f113.2 7 (by omega), uI_o (by omega), uI_o (by omega), f88.2 7 (by omega), uI_s]; omega
      have efr : J174 287 8 = (code.length : Int) := by rw [f174.2 8 (by omega), uI_o (by omega), f113.2 8 (by omega), uI_s, uI_o (by omega)]; exact hR88.2.2.1
      have eto : J174 287 9 = (c2.length : Int) := by rw [f174.2 9 (by omega), uI_s]; exact g4.symm
      have eo1 : J174 287 10 = I 287 10 := by rw [f174.2 10 (by omega), uI_o (by omega), f113.2 10 (by omega), uI_o (by omega), uI_o (by omega), f88.2 10 (by omega), uI_o (by omega), uI_o (by omega)]
      have eo2 : J174 287 11 = I 287 11 := by rw [f174.2 11 (by omega), uI_o (by omega), f113.2 11 (by omega), uI_o (by omega), uI_o (by omega), f88.2 11 (by omega), uI_o (by omega), uI_o (by omega)]
      refine ⟨cl ++ [(cu.2.2.1, (code.length : Int), (c2.length : Int), 0)], clc_app hC (by rw [e7, hi]) (fun k hk => by rw [e290, uI_o (by omega)]) ⟨?_, fun h => ?_, fun h => ?_⟩ ?_ ?_ ⟨?_, fun _ => ?_⟩ ?_ (by omega), hG _ ⟨?_, by show cl.length < 24; omega, Or.inl ⟨hlw, hnl, cu9, c2, by show SumG t l (decide (cu.2.2.1 = 137)) _ _ _ _ _; rw [hdc]; exact g1, g2, by rw [g3]⟩⟩⟩
      · rw [e290, hi, uI_s]; exact k1
      · exfalso; have h9 : 138 ≤ cu.2.2.1 ∨ cu.2.2.1 = 128 := h; omega
      · exfalso; have h9 : cu.2.2.1 = 138 := h; omega
      · rw [hw]; rw [efr, eto]; exact lw_new (by have := hnl; rw [← hw]; exact this) ⟨by omega, by have := ap_lt hap; omega⟩
      · rw [hw]; rw [eo1, eo2]; exact lw_keep hC.2.2.2.1 (by show (136 : Int) ≠ 137; decide)
      · show isCl cu.2.2.1; omega
      · show LawOK (decide (cu.2.2.1 = 137)) _ _ _; rw [hdc]; exact law_new hap
      · obtain ⟨v, hv, _⟩ := hap
        exact ⟨v, hv⟩
      · show isCl cu.2.2.1; omega)
 | (refine hp J174 (Frc.tr (Frc.tr (Frc.u7 (Frc.u7 (Frc.tr (Frc.u7 (Frc.u0 Frc.rf) (by omega)) (Frd.fc (Fcu.rd f88))) (by omega)) (by omega)) (Frc.u7 (Frd.fc f149) (by omega))) (Frd.fc f174)) (outT_o o174 (CB.w (CB.u hcb (q := 4 * i) (v := I 287 15) (by omega)) ?_) (fun cu2 c2 _ rd g => ?_))
    · rw [f174.1 290 (by omega) (by omega), uI_row (by omega), f149.1 290 (by omega) (by omega), uI_row (by omega), uI_row (by omega), f88.1 290 (by omega), uI_row (by omega), show ((i : Int) * 4).toNat = 4 * i by omega]
    · obtain ⟨cu9, g1, g2, g3, g4⟩ := g
      have hap : Ap true false code c2 := g1.1.1.1
      have e290 : J174 290 = uI I 290 (4 * i) (I 287 15) 290 := by rw [f174.1 290 (by omega) (by omega), uI_row (by omega), f149.1 290 (by omega) (by omega), uI_row (by omega), uI_row (by omega), f88.1 290 (by omega), uI_row (by omega), show ((i : Int) * 4).toNat = 4 * i by omega]
      have e7 : J174 287 7 = ((i + 1 : Nat) : Int) := by rw [f174.2 7 (by omega), uI_o (by omega), f149.2 7 (by omega), uI_o (by omega), uI_o (by omega), f88.2 7 (by omega), uI_s]; omega
      have efr : J174 287 10 = (code.length : Int) := by rw [f174.2 10 (by omega), uI_o (by omega), f149.2 10 (by omega), uI_s, uI_o (by omega)]; exact hR88.2.2.1
      have eto : J174 287 11 = (c2.length : Int) := by rw [f174.2 11 (by omega), uI_s]; exact g4.symm
      have eo1 : J174 287 8 = I 287 8 := by rw [f174.2 8 (by omega), uI_o (by omega), f149.2 8 (by omega), uI_o (by omega), uI_o (by omega), f88.2 8 (by omega), uI_o (by omega), uI_o (by omega)]
      have eo2 : J174 287 9 = I 287 9 := by rw [f174.2 9 (by omega), uI_o (by omega), f149.2 9 (by omega), uI_o (by omega), uI_o (by omega), f88.2 9 (by omega), uI_o (by omega), uI_o (by omega)]
      refine ⟨cl ++ [(cu.2.2.1, (code.length : Int), (c2.length : Int), 0)], clc_app hC (by rw [e7, hi]) (fun k hk => by rw [e290, uI_o (by omega)]) ⟨?_, fun h => ?_, fun h => ?_⟩ ?_ ?_ ⟨?_, fun _ => ?_⟩ ?_ (by omega), hG _ ⟨?_, by show cl.length < 24; omega, Or.inl ⟨hlw, hnl, cu9, c2, by show SumG t l (decide (cu.2.2.1 = 137)) _ _ _ _ _; rw [hdc]; exact g1, g2, by rw [g3]⟩⟩⟩
      · rw [e290, hi, uI_s]; exact k1
      · exfalso; have h9 : 138 ≤ cu.2.2.1 ∨ cu.2.2.1 = 128 := h; omega
      · exfalso; have h9 : cu.2.2.1 = 138 := h; omega
      · rw [hw]; rw [eo1, eo2]; exact lw_keep hC.2.2.1 (by show (137 : Int) ≠ 136; decide)
      · rw [hw]; rw [efr, eto]; exact lw_new (by have := hnl; rw [← hw]; exact this) ⟨by omega, by have := ap_lt hap; omega⟩
      · show isCl cu.2.2.1; omega
      · show LawOK (decide (cu.2.2.1 = 137)) _ _ _; rw [hdc]; exact law_new hap
      · obtain ⟨v, hv, _⟩ := hap
        exact ⟨v, hv⟩
      · show isCl cu.2.2.1; omega)
 | (refine hp J174 (Frc.tr (Frc.tr (Frc.tr (Frc.u7 (Frc.u0 Frc.rf) (by omega)) (Frd.fc (Fcu.rd f88))) f168) (Frd.fc f174)) (outT_o o174 (Frd.cb f174 cb168) (fun cu2 c2 _ rd g => ?_))
    obtain ⟨g1, g2, g3, g4, g5⟩ := g
    subst g1
    have e290 : J174 290 = J168 290 := f174.1 290 (by omega) (by omega)
    have e88 : J88 290 = uI I 290 (4 * i) (I 287 15) 290 := by rw [f88.1 290 (by omega), uI_row (by omega), show ((i : Int) * 4).toNat = 4 * i by omega]
    have e7 : J174 287 7 = ((i + 1 : Nat) : Int) := by rw [f174.2 7 (by omega), e168 7 (by omega), f88.2 7 (by omega), uI_s]; omega
    have eq : ∀ k, (7 < k ∧ k < 12) → J174 287 k = I 287 k := fun k hk => by rw [f174.2 k (by omega), e168 k (by omega), f88.2 k (by omega), uI_o (by omega), uI_o (by omega)]
    refine ⟨cl ++ [(cu.2.2.1, v168)], clc_app hC (by rw [e7, hi]) (fun k hk => by rw [e290, a168 k (by omega), e88, uI_o (by omega)]) ⟨?_, fun h => ?_, fun h => ?_⟩ ?_ ?_ ⟨hcl, fun h => absurd h hnlw⟩ ⟨[], by rw [List.append_nil]⟩ (by omega), hG _ ⟨hcl, by show cl.length < 24; omega, Or.inr ⟨hnlw, g2, g3, by rw [g4, ← g5]⟩⟩⟩
    · rw [e290, hi, a168 (4 * i) (by omega), e88, uI_s]; exact k1
    · rw [e290, hi, p168]
    · rw [e290, hi]; exact q168 (by have h9 : cu.2.2.1 = 138 := h; omega)
    · rw [eq 8 (by omega), eq 9 (by omega)]; exact lw_keep hC.2.2.1 (by show cu.2.2.1 ≠ 136; omega)
    · rw [eq 10 (by omega), eq 11 (by omega)]; exact lw_keep hC.2.2.2.1 (by show cu.2.2.1 ≠ 137; omega)))
      · refine x_iload_n dX5_readClause_34 rfl ?_
        refine x_sipush dX5_readClause_35 (by decide) ?_
        refine x_icmp_ne 56 dX5_readClause_38 (by decide) ⟨(by omega), (by omega)⟩ (fun w38 => ?_) (fun w38 => ?_)
        · refine x_iload_n dX5_readClause_56 rfl ?_
          refine x_bipush dX5_readClause_57 (by decide) ?_
          refine x_icmp_lt 71 dX5_readClause_59 (by decide) ⟨(by omega), (by omega)⟩ (fun w59 => ?_) (fun w59 => ?_)
          · refine x_aload_n dX5_readClause_71 rfl ?_
            refine x_getR (b := 290) dX5_readClause_72 gf_RX5_18 (k_ob_287 cs) (fun _ _ => rfl) (k_r_287_2 cs) ?_
            refine x_iload_n dX5_readClause_75 rfl ?_
            refine x_iconst dX5_readClause_76 ?_
            refine x_imul dX5_readClause_77 ?_
            refine x_iload_n dX5_readClause_78 rfl ?_
            refine x_iastore dX5_readClause_79 (k_ar_290 cs) (by omega) (by omega) ?_
            refine x_aload_n dX5_readClause_80 rfl ?_
            refine x_iload_n dX5_readClause_81 rfl ?_
            refine x_iconst dX5_readClause_82 ?_
            refine x_iadd dX5_readClause_83 ?_
            refine x_putI dX5_readClause_84 gf_RX5_56 (k_ob_287 cs) rfl ?_
            refine x_aload_n dX5_readClause_87 rfl ?_
            refine x_callV0 (mc1 := 0) (ms1 := 0) dX5_readClause_88 cv_RX5_34 (ci := 5) (k_ob_287 cs) rfl (Nat.le_of_ble_eq_true rfl) (n1 := n - 1) (by omega) (by omega) (by omega) ?_
            have fo88 : Foc I (uI (uI I 290 (((i : Int) * 4).toNat) (I 287 15)) 287 7 ((i : Int) + 1)) := Foc.u7 (Foc.u0 Foc.rf) (by omega)
            refine sp_X5_advance (t := t) (l := l) (p := cu.1) cs (by omega) (tpc_fr hT fo88) k4 (by rw [uI_o (by omega), uI_o (by omega)]; exact hR.1.1) (fun J88 c88 f88 => ?_)
            have hT88 : TpC J88 t l := TpC.f (tpc_fr hT fo88) f88
            have hne : cu.2.2.1 ≠ 0 := by omega
            have ca88 := cu_adv (t := t) hR.2.1 l3
            have hR88 : RdC J88 l (adv t l cu.1) code := ⟨c88, ca88.1, by rw [f88.2 6 (by omega), uI_o (by omega), uI_o (by omega)]; exact hR.2.2.1, fun q hq => by rw [f88.1 289 (by omega), uI_o (by omega), uI_o (by omega)]; exact hR.2.2.2.1 q hq, by have := ca88.2.2; omega, by rw [f88.2 5 (by omega), uI_o (by omega), uI_o (by omega)]; exact hR.2.2.2.2.2⟩
            have h88 : J88 287 4 = 0 := by rw [f88.2 4 (by omega), uI_o (by omega), uI_o (by omega)]; exact h0
            have s88 : (J88 287 12 = 1 ∧ sl = true) ∨ (J88 287 12 = 0 ∧ sl = false) := by rw [f88.2 12 (by omega), uI_o (by omega), uI_o (by omega)]; exact hsl
            skip
            refine x_iload_n dX5_readClause_91 rfl ?_
            refine x_sipush dX5_readClause_92 (by decide) ?_
            refine x_icmp_ne 127 dX5_readClause_95 (by decide) ⟨(by omega), (by omega)⟩ (fun w95 => ?_) (fun w95 => ?_)
            · refine x_iload_n dX5_readClause_127 rfl ?_
              refine x_sipush dX5_readClause_128 (by decide) ?_
              refine x_icmp_ne 163 dX5_readClause_131 (by decide) ⟨(by omega), (by omega)⟩ (fun w131 => ?_) (fun w131 => ?_)
              · have hcl : isCl ((cl, code, cu) : TMS).2.2.2.2.1 := by show isCl cu.2.2.1; omega
                have hnlw : ¬ isLw ((cl, code, cu) : TMS).2.2.2.2.1 := by show ¬ isLw cu.2.2.1; omega
                have hcb88 : CB J88 := CB.w (CB.u hcb (q := ((i : Int) * 4).toNat) (v := I 287 15) (by omega)) (by rw [f88.1 290 (by omega), uI_row (by omega)])
                refine x_aload_n dX5_readClause_163 rfl ?_
                refine x_iload_n dX5_readClause_164 rfl ?_
                refine x_iload_n dX5_readClause_165 rfl ?_
                refine x_iconst dX5_readClause_166 ?_
                refine x_imul dX5_readClause_167 ?_
                refine x_callV2 (mc1 := 0) (ms1 := 0) dX5_readClause_168 cv_RX5_132 (ci := 5) (k_ob_287 cs) rfl (Nat.le_of_ble_eq_true rfl) (n1 := n - 1) (by omega) (by omega) (by omega) ?_
                rw [show (i : Int) * 4 = ((4 * i : Nat) : Int) by omega]
                refine sp_X5_readDeed (t := t) (l := l) (sl := sl) (F := F) (p := 4 * i) (G := fun v cu1 c1 => c1 = code ∧ (deed t l cu.2.2.1 (adv t l cu.1)).1 = 0 ∧ cu1 = (deed t l cu.2.2.1 (adv t l cu.1)).2.2 ∧ v = (deed t l cu.2.2.1 (adv t l cu.1)).2.1) cs (by omega) (by omega) (by omega) hcb88 ⟨⟨hT88, s88⟩, Or.inr ⟨h88, adv t l cu.1, code, hR88, ?_, fun h9 => ⟨rfl, by rw [← k1]; exact h9, by rw [← k1], by rw [← k1]⟩⟩⟩ (fun v168 J168 f168 e168 cb168 a168 p168 q168 o168 => ?_)
                · rw [k1]
                  exact fun h9 => hF _ _ (Or.inr (Or.inr (Or.inr (Or.inr ⟨hcl, hnlw, by show cl.length < 24; omega, Or.inl ⟨h9, rfl, rfl⟩⟩))))
                refine x_aload_n dX5_readClause_171 rfl ?_
                refine x_bipush dX5_readClause_172 (by decide) ?_
                refine x_callV1 (mc1 := 0) (ms1 := 0) dX5_readClause_174 cv_RX5_136 (ci := 5) (k_ob_287 cs) rfl (Nat.le_of_ble_eq_true rfl) (n1 := n - 1) (by omega) (by omega) (by omega) ?_
                refine sp_X5_expect (sl := sl) (F := F) (G := fun cu2 c2 => c2 = code ∧ (deed t l cu.2.2.1 (adv t l cu.1)).1 = 0 ∧ (deed t l cu.2.2.1 (adv t l cu.1)).2.2.2.2.1 = 59 ∧ cu2 = adv t l (deed t l cu.2.2.1 (adv t l cu.1)).2.2.1 ∧ v168 = (deed t l cu.2.2.1 (adv t l cu.1)).2.1) cs (by omega) (by omega) (out_imp o168 (fun cu1 c1 ok ln _ _ _ _ g => ?_)) (fun J174 f174 o174 => ?_)
                · obtain ⟨g1, g2, g3, g4⟩ := g
                  subst g1
                  refine ⟨fun hk => hF 1 _ (Or.inr (Or.inr (Or.inr (Or.inr ⟨hcl, hnlw, by show cl.length < 24; omega, Or.inr ⟨g2, ?_, rfl, ?_⟩⟩)))), fun hk => ⟨rfl, g2, ?_, ?_, g4⟩⟩
                  · show (deed t l cu.2.2.1 (adv t l cu.1)).2.2.2.2.1 ≠ 59
                    rw [← g3]; exact hk
                  · show _ = (deed t l cu.2.2.1 (adv t l cu.1)).2.2.2.1
                    rw [← g3]
                  · rw [← g3]; exact hk
                  · rw [← g3]
                exact x_return dX5_readClause_177 rfl (by omega) (by omega) (by first
 | exact hp _ (Frd.fc f14) (outT_f o14 (Frd.cb f14 hcb))
 | exact hp _ (Frd.fc f50) (outT_f o50 (Frd.cb f50 hcb))
 | exact hp _ (Frd.fc f65) (outT_f o65 (Frd.cb f65 hcb))
 | (refine hp J174 (Frc.tr (Frc.tr (Frc.u7 (Frc.u7 (Frc.tr (Frc.u7 (Frc.u0 Frc.rf) (by omega)) (Frd.fc (Fcu.rd f88))) (by omega)) (by omega)) (Frc.u7 (Frd.fc f113) (by omega))) (Frd.fc f174)) (outT_o o174 (CB.w (CB.u hcb (q := 4 * i) (v := I 287 15) (by omega)) ?_) (fun cu2 c2 _ rd g => ?_))
    · rw [f174.1 290 (by omega) (by omega), uI_row (by omega), f113.1 290 (by omega) (by omega), uI_row (by omega), uI_row (by omega), f88.1 290 (by omega), uI_row (by omega), show ((i : Int) * 4).toNat = 4 * i by omega]
    · obtain ⟨cu9, g1, g2, g3, g4⟩ := g
      have hap : Ap false false code c2 := g1.1.1.1
      have e290 : J174 290 = uI I 290 (4 * i) (I 287 15) 290 := by rw [f174.1 290 (by omega) (by omega), uI_row (by omega), f113.1 290 (by omega) (by omega), uI_row (by omega), uI_row (by omega), f88.1 290 (by omega), uI_row (by omega), show ((i : Int) * 4).toNat = 4 * i by omega]
      have e7 : J174 287 7 = ((i + 1 : Nat) : Int) := by rw [f174.2 7 (by omega), uI_o (by omega), f113.2 7 (by omega), uI_o (by omega), uI_o (by omega), f88.2 7 (by omega), uI_s]; omega
      have efr : J174 287 8 = (code.length : Int) := by rw [f174.2 8 (by omega), uI_o (by omega), f113.2 8 (by omega), uI_s, uI_o (by omega)]; exact hR88.2.2.1
      have eto : J174 287 9 = (c2.length : Int) := by rw [f174.2 9 (by omega), uI_s]; exact g4.symm
      have eo1 : J174 287 10 = I 287 10 := by rw [f174.2 10 (by omega), uI_o (by omega), f113.2 10 (by omega), uI_o (by omega), uI_o (by omega), f88.2 10 (by omega), uI_o (by omega), uI_o (by omega)]
      have eo2 : J174 287 11 = I 287 11 := by rw [f174.2 11 (by omega), uI_o (by omega), f113.2 11 (by omega), uI_o (by omega), uI_o (by omega), f88.2 11 (by omega), uI_o (by omega), uI_o (by omega)]
      refine ⟨cl ++ [(cu.2.2.1, (code.length : Int), (c2.length : Int), 0)], clc_app hC (by rw [e7, hi]) (fun k hk => by rw [e290, uI_o (by omega)]) ⟨?_, fun h => ?_, fun h => ?_⟩ ?_ ?_ ⟨?_, fun _ => ?_⟩ ?_ (by omega), hG _ ⟨?_, by show cl.length < 24; omega, Or.inl ⟨hlw, hnl, cu9, c2, by show SumG t l (decide (cu.2.2.1 = 137)) _ _ _ _ _; rw [hdc]; exact g1, g2, by rw [g3]⟩⟩⟩
      · rw [e290, hi, uI_s]; exact k1
      · exfalso; have h9 : 138 ≤ cu.2.2.1 ∨ cu.2.2.1 = 128 := h; omega
      · exfalso; have h9 : cu.2.2.1 = 138 := h; omega
      · rw [hw]; rw [efr, eto]; exact lw_new (by have := hnl; rw [← hw]; exact this) ⟨by omega, by have := ap_lt hap; omega⟩
      · rw [hw]; rw [eo1, eo2]; exact lw_keep hC.2.2.2.1 (by show (136 : Int) ≠ 137; decide)
      · show isCl cu.2.2.1; omega
      · show LawOK (decide (cu.2.2.1 = 137)) _ _ _; rw [hdc]; exact law_new hap
      · obtain ⟨v, hv, _⟩ := hap
        exact ⟨v, hv⟩
      · show isCl cu.2.2.1; omega)
 | (refine hp J174 (Frc.tr (Frc.tr (Frc.u7 (Frc.u7 (Frc.tr (Frc.u7 (Frc.u0 Frc.rf) (by omega)) (Frd.fc (Fcu.rd f88))) (by omega)) (by omega)) (Frc.u7 (Frd.fc f149) (by omega))) (Frd.fc f174)) (outT_o o174 (CB.w (CB.u hcb (q := 4 * i) (v := I 287 15) (by omega)) ?_) (fun cu2 c2 _ rd g => ?_))
    · rw [f174.1 290 (by omega) (by omega), uI_row (by omega), f149.1 290 (by omega) (by omega), uI_row (by omega), uI_row (by omega), f88.1 290 (by omega), uI_row (by omega), show ((i : Int) * 4).toNat = 4 * i by omega]
    · obtain ⟨cu9, g1, g2, g3, g4⟩ := g
      have hap : Ap true false code c2 := g1.1.1.1
      have e290 : J174 290 = uI I 290 (4 * i) (I 287 15) 290 := by rw [f174.1 290 (by omega) (by omega), uI_row (by omega), f149.1 290 (by omega) (by omega), uI_row (by omega), uI_row (by omega), f88.1 290 (by omega), uI_row (by omega), show ((i : Int) * 4).toNat = 4 * i by omega]
      have e7 : J174 287 7 = ((i + 1 : Nat) : Int) := by rw [f174.2 7 (by omega), uI_o (by omega), f149.2 7 (by omega), uI_o (by omega), uI_o (by omega), f88.2 7 (by omega), uI_s]; omega
      have efr : J174 287 10 = (code.length : Int) := by rw [f174.2 10 (by omega), uI_o (by omega), f149.2 10 (by omega), uI_s, uI_o (by omega)]; exact hR88.2.2.1
      have eto : J174 287 11 = (c2.length : Int) := by rw [f174.2 11 (by omega), uI_s]; exact g4.symm
      have eo1 : J174 287 8 = I 287 8 := by rw [f174.2 8 (by omega), uI_o (by omega), f149.2 8 (by omega), uI_o (by omega), uI_o (by omega), f88.2 8 (by omega), uI_o (by omega), uI_o (by omega)]
      have eo2 : J174 287 9 = I 287 9 := by rw [f174.2 9 (by omega), uI_o (by omega), f149.2 9 (by omega), uI_o (by omega), uI_o (by omega), f88.2 9 (by omega), uI_o (by omega), uI_o (by omega)]
      refine ⟨cl ++ [(cu.2.2.1, (code.length : Int), (c2.length : Int), 0)], clc_app hC (by rw [e7, hi]) (fun k hk => by rw [e290, uI_o (by omega)]) ⟨?_, fun h => ?_, fun h => ?_⟩ ?_ ?_ ⟨?_, fun _ => ?_⟩ ?_ (by omega), hG _ ⟨?_, by show cl.length < 24; omega, Or.inl ⟨hlw, hnl, cu9, c2, by show SumG t l (decide (cu.2.2.1 = 137)) _ _ _ _ _; rw [hdc]; exact g1, g2, by rw [g3]⟩⟩⟩
      · rw [e290, hi, uI_s]; exact k1
      · exfalso; have h9 : 138 ≤ cu.2.2.1 ∨ cu.2.2.1 = 128 := h; omega
      · exfalso; have h9 : cu.2.2.1 = 138 := h; omega
      · rw [hw]; rw [eo1, eo2]; exact lw_keep hC.2.2.1 (by show (137 : Int) ≠ 136; decide)
      · rw [hw]; rw [efr, eto]; exact lw_new (by have := hnl; rw [← hw]; exact this) ⟨by omega, by have := ap_lt hap; omega⟩
      · show isCl cu.2.2.1; omega
      · show LawOK (decide (cu.2.2.1 = 137)) _ _ _; rw [hdc]; exact law_new hap
      · obtain ⟨v, hv, _⟩ := hap
        exact ⟨v, hv⟩
      · show isCl cu.2.2.1; omega)
 | (refine hp J174 (Frc.tr (Frc.tr (Frc.tr (Frc.u7 (Frc.u0 Frc.rf) (by omega)) (Frd.fc (Fcu.rd f88))) f168) (Frd.fc f174)) (outT_o o174 (Frd.cb f174 cb168) (fun cu2 c2 _ rd g => ?_))
    obtain ⟨g1, g2, g3, g4, g5⟩ := g
    subst g1
    have e290 : J174 290 = J168 290 := f174.1 290 (by omega) (by omega)
    have e88 : J88 290 = uI I 290 (4 * i) (I 287 15) 290 := by rw [f88.1 290 (by omega), uI_row (by omega), show ((i : Int) * 4).toNat = 4 * i by omega]
    have e7 : J174 287 7 = ((i + 1 : Nat) : Int) := by rw [f174.2 7 (by omega), e168 7 (by omega), f88.2 7 (by omega), uI_s]; omega
    have eq : ∀ k, (7 < k ∧ k < 12) → J174 287 k = I 287 k := fun k hk => by rw [f174.2 k (by omega), e168 k (by omega), f88.2 k (by omega), uI_o (by omega), uI_o (by omega)]
    refine ⟨cl ++ [(cu.2.2.1, v168)], clc_app hC (by rw [e7, hi]) (fun k hk => by rw [e290, a168 k (by omega), e88, uI_o (by omega)]) ⟨?_, fun h => ?_, fun h => ?_⟩ ?_ ?_ ⟨hcl, fun h => absurd h hnlw⟩ ⟨[], by rw [List.append_nil]⟩ (by omega), hG _ ⟨hcl, by show cl.length < 24; omega, Or.inr ⟨hnlw, g2, g3, by rw [g4, ← g5]⟩⟩⟩
    · rw [e290, hi, a168 (4 * i) (by omega), e88, uI_s]; exact k1
    · rw [e290, hi, p168]
    · rw [e290, hi]; exact q168 (by have h9 : cu.2.2.1 = 138 := h; omega)
    · rw [eq 8 (by omega), eq 9 (by omega)]; exact lw_keep hC.2.2.1 (by show cu.2.2.1 ≠ 136; omega)
    · rw [eq 10 (by omega), eq 11 (by omega)]; exact lw_keep hC.2.2.2.1 (by show cu.2.2.1 ≠ 137; omega)))
              · have hw : cu.2.2.1 = 137 := by omega
                have hlw : isLw ((cl, code, cu) : TMS).2.2.2.2.1 := by show isLw cu.2.2.1; omega
                have hnl : ¬ hasL ((cl, code, cu) : TMS).1 ((cl, code, cu) : TMS).2.2.2.2.1 := by show ¬ hasL cl cu.2.2.1; rw [hw, lh2]; omega
                have hdc : decide (cu.2.2.1 = 137) = true := by rw [hw]; rfl
                refine x_aload_n dX5_readClause_134 rfl ?_
                refine x_iconst dX5_readClause_135 ?_
                refine x_putZ dX5_readClause_136 gf_RX5_125 (k_ob_287 cs) rfl (by omega) ?_
                refine x_aload_n dX5_readClause_139 rfl ?_
                refine x_aload_n dX5_readClause_140 rfl ?_
                refine x_getI dX5_readClause_141 gf_RX5_53 (k_ob_287 cs) (fun _ _ => rfl) ?_
                refine x_putI dX5_readClause_144 gf_RX5_65 (k_ob_287 cs) rfl ?_
                refine x_aload_n dX5_readClause_147 rfl ?_
                refine x_iconst dX5_readClause_148 ?_
                refine x_callV1 (mc1 := 0) (ms1 := 0) dX5_readClause_149 cv_RX5_129 (ci := 5) (k_ob_287 cs) rfl (Nat.le_of_ble_eq_true rfl) (n1 := n - 1) (by omega) (by omega) (by omega) ?_
                refine sum_K cs _ _ _ t l true F (fun cu1 c1 => SumG t l true 0 (adv t l cu.1) code cu1 c1) (by omega) ?_ (fun J149 f149 o149 => ?_)
                · exact ⟨⟨tpc_fr hT88 (Foc.u7 (Foc.u7 Foc.rf (by omega)) (by omega)), by first | exact Or.inr ⟨by rw [uI_o (by omega), uI_s], rfl⟩ | exact Or.inl ⟨by rw [uI_o (by omega), uI_s], rfl⟩⟩, Or.inr ⟨by rw [uI_o (by omega), uI_o (by omega)]; exact h88, adv t l cu.1, code, rdc_fr hR88 (Foc.u7 (Foc.u7 Foc.rf (by omega)) (by omega)), fun f pl x => hF f pl (Or.inr (Or.inr (Or.inr (Or.inl ⟨hlw, hnl, by show cl.length < 24; omega, Or.inl (by show SumF t l (decide (cu.2.2.1 = 137)) _ _ _ _ _; rw [hdc]; exact x)⟩)))), fun _ _ x => x⟩⟩
                refine x_aload_n dX5_readClause_152 rfl ?_
                refine x_aload_n dX5_readClause_153 rfl ?_
                refine x_getI dX5_readClause_154 gf_RX5_53 (k_ob_287 cs) (fun _ _ => rfl) ?_
                refine x_putI dX5_readClause_157 gf_RX5_68 (k_ob_287 cs) rfl ?_
                refine x_goto 171 dX5_readClause_160 (by decide) ?_
                refine x_aload_n dX5_readClause_171 rfl ?_
                refine x_bipush dX5_readClause_172 (by decide) ?_
                refine x_callV1 (mc1 := 0) (ms1 := 0) dX5_readClause_174 cv_RX5_136 (ci := 5) (k_ob_287 cs) rfl (Nat.le_of_ble_eq_true rfl) (n1 := n - 1) (by omega) (by omega) (by omega) ?_
                have q174 : OutC _ t l true F (fun cu1 c1 => (cu1.2.2.1 ≠ 59 → F 1 cu1.2.1) ∧ (cu1.2.2.1 = 59 → ∃ cu9, SumG t l true 0 (adv t l cu.1) code cu9 c1 ∧ cu9.2.2.1 = 59 ∧ adv t l cu1.1 = adv t l cu9.1 ∧ (c1.length : Int) = J149 287 6)) := out_fr (out_imp2 o149 (fun cu1 c1 rd _ g => ⟨fun hk => hF 1 _ (Or.inr (Or.inr (Or.inr (Or.inl ⟨hlw, hnl, by show cl.length < 24; omega, Or.inr ⟨cu1, c1, by show SumG t l (decide (cu.2.2.1 = 137)) _ _ _ _ _; rw [hdc]; exact g, hk, rfl, rfl⟩⟩)))), fun hk => ⟨cu1, g, hk, rfl, rd.2.2.1.symm⟩⟩)) (Foc.u7 (q := 11) (v := J149 287 6) Foc.rf (by omega)) (by rw [uI_o (by omega)]; exact o149.1.2)
                refine sp_X5_expect (sl := true) (F := F) (G := fun cu2 c2 => ∃ cu9, SumG t l true 0 (adv t l cu.1) code cu9 c2 ∧ cu9.2.2.1 = 59 ∧ cu2 = adv t l cu9.1 ∧ (c2.length : Int) = J149 287 6) cs (by omega) (by omega) q174 (fun J174 f174 o174 => ?_)
                exact x_return dX5_readClause_177 rfl (by omega) (by omega) (by first
 | exact hp _ (Frd.fc f14) (outT_f o14 (Frd.cb f14 hcb))
 | exact hp _ (Frd.fc f50) (outT_f o50 (Frd.cb f50 hcb))
 | exact hp _ (Frd.fc f65) (outT_f o65 (Frd.cb f65 hcb))
 | (refine hp J174 (Frc.tr (Frc.tr (Frc.u7 (Frc.u7 (Frc.tr (Frc.u7 (Frc.u0 Frc.rf) (by omega)) (Frd.fc (Fcu.rd f88))) (by omega)) (by omega)) (Frc.u7 (Frd.fc f113) (by omega))) (Frd.fc f174)) (outT_o o174 (CB.w (CB.u hcb (q := 4 * i) (v := I 287 15) (by omega)) ?_) (fun cu2 c2 _ rd g => ?_))
    · rw [f174.1 290 (by omega) (by omega), uI_row (by omega), f113.1 290 (by omega) (by omega), uI_row (by omega), uI_row (by omega), f88.1 290 (by omega), uI_row (by omega), show ((i : Int) * 4).toNat = 4 * i by omega]
    · obtain ⟨cu9, g1, g2, g3, g4⟩ := g
      have hap : Ap false false code c2 := g1.1.1.1
      have e290 : J174 290 = uI I 290 (4 * i) (I 287 15) 290 := by rw [f174.1 290 (by omega) (by omega), uI_row (by omega), f113.1 290 (by omega) (by omega), uI_row (by omega), uI_row (by omega), f88.1 290 (by omega), uI_row (by omega), show ((i : Int) * 4).toNat = 4 * i by omega]
      have e7 : J174 287 7 = ((i + 1 : Nat) : Int) := by rw [f174.2 7 (by omega), uI_o (by omega), f113.2 7 (by omega), uI_o (by omega), uI_o (by omega), f88.2 7 (by omega), uI_s]; omega
      have efr : J174 287 8 = (code.length : Int) := by rw [f174.2 8 (by omega), uI_o (by omega), f113.2 8 (by omega), uI_s, uI_o (by omega)]; exact hR88.2.2.1
      have eto : J174 287 9 = (c2.length : Int) := by rw [f174.2 9 (by omega), uI_s]; exact g4.symm
      have eo1 : J174 287 10 = I 287 10 := by rw [f174.2 10 (by omega), uI_o (by omega), f113.2 10 (by omega), uI_o (by omega), uI_o (by omega), f88.2 10 (by omega), uI_o (by omega), uI_o (by omega)]
      have eo2 : J174 287 11 = I 287 11 := by rw [f174.2 11 (by omega), uI_o (by omega), f113.2 11 (by omega), uI_o (by omega), uI_o (by omega), f88.2 11 (by omega), uI_o (by omega), uI_o (by omega)]
      refine ⟨cl ++ [(cu.2.2.1, (code.length : Int), (c2.length : Int), 0)], clc_app hC (by rw [e7, hi]) (fun k hk => by rw [e290, uI_o (by omega)]) ⟨?_, fun h => ?_, fun h => ?_⟩ ?_ ?_ ⟨?_, fun _ => ?_⟩ ?_ (by omega), hG _ ⟨?_, by show cl.length < 24; omega, Or.inl ⟨hlw, hnl, cu9, c2, by show SumG t l (decide (cu.2.2.1 = 137)) _ _ _ _ _; rw [hdc]; exact g1, g2, by rw [g3]⟩⟩⟩
      · rw [e290, hi, uI_s]; exact k1
      · exfalso; have h9 : 138 ≤ cu.2.2.1 ∨ cu.2.2.1 = 128 := h; omega
      · exfalso; have h9 : cu.2.2.1 = 138 := h; omega
      · rw [hw]; rw [efr, eto]; exact lw_new (by have := hnl; rw [← hw]; exact this) ⟨by omega, by have := ap_lt hap; omega⟩
      · rw [hw]; rw [eo1, eo2]; exact lw_keep hC.2.2.2.1 (by show (136 : Int) ≠ 137; decide)
      · show isCl cu.2.2.1; omega
      · show LawOK (decide (cu.2.2.1 = 137)) _ _ _; rw [hdc]; exact law_new hap
      · obtain ⟨v, hv, _⟩ := hap
        exact ⟨v, hv⟩
      · show isCl cu.2.2.1; omega)
 | (refine hp J174 (Frc.tr (Frc.tr (Frc.u7 (Frc.u7 (Frc.tr (Frc.u7 (Frc.u0 Frc.rf) (by omega)) (Frd.fc (Fcu.rd f88))) (by omega)) (by omega)) (Frc.u7 (Frd.fc f149) (by omega))) (Frd.fc f174)) (outT_o o174 (CB.w (CB.u hcb (q := 4 * i) (v := I 287 15) (by omega)) ?_) (fun cu2 c2 _ rd g => ?_))
    · rw [f174.1 290 (by omega) (by omega), uI_row (by omega), f149.1 290 (by omega) (by omega), uI_row (by omega), uI_row (by omega), f88.1 290 (by omega), uI_row (by omega), show ((i : Int) * 4).toNat = 4 * i by omega]
    · obtain ⟨cu9, g1, g2, g3, g4⟩ := g
      have hap : Ap true false code c2 := g1.1.1.1
      have e290 : J174 290 = uI I 290 (4 * i) (I 287 15) 290 := by rw [f174.1 290 (by omega) (by omega), uI_row (by omega), f149.1 290 (by omega) (by omega), uI_row (by omega), uI_row (by omega), f88.1 290 (by omega), uI_row (by omega), show ((i : Int) * 4).toNat = 4 * i by omega]
      have e7 : J174 287 7 = ((i + 1 : Nat) : Int) := by rw [f174.2 7 (by omega), uI_o (by omega), f149.2 7 (by omega), uI_o (by omega), uI_o (by omega), f88.2 7 (by omega), uI_s]; omega
      have efr : J174 287 10 = (code.length : Int) := by rw [f174.2 10 (by omega), uI_o (by omega), f149.2 10 (by omega), uI_s, uI_o (by omega)]; exact hR88.2.2.1
      have eto : J174 287 11 = (c2.length : Int) := by rw [f174.2 11 (by omega), uI_s]; exact g4.symm
      have eo1 : J174 287 8 = I 287 8 := by rw [f174.2 8 (by omega), uI_o (by omega), f149.2 8 (by omega), uI_o (by omega), uI_o (by omega), f88.2 8 (by omega), uI_o (by omega), uI_o (by omega)]
      have eo2 : J174 287 9 = I 287 9 := by rw [f174.2 9 (by omega), uI_o (by omega), f149.2 9 (by omega), uI_o (by omega), uI_o (by omega), f88.2 9 (by omega), uI_o (by omega), uI_o (by omega)]
      refine ⟨cl ++ [(cu.2.2.1, (code.length : Int), (c2.length : Int), 0)], clc_app hC (by rw [e7, hi]) (fun k hk => by rw [e290, uI_o (by omega)]) ⟨?_, fun h => ?_, fun h => ?_⟩ ?_ ?_ ⟨?_, fun _ => ?_⟩ ?_ (by omega), hG _ ⟨?_, by show cl.length < 24; omega, Or.inl ⟨hlw, hnl, cu9, c2, by show SumG t l (decide (cu.2.2.1 = 137)) _ _ _ _ _; rw [hdc]; exact g1, g2, by rw [g3]⟩⟩⟩
      · rw [e290, hi, uI_s]; exact k1
      · exfalso; have h9 : 138 ≤ cu.2.2.1 ∨ cu.2.2.1 = 128 := h; omega
      · exfalso; have h9 : cu.2.2.1 = 138 := h; omega
      · rw [hw]; rw [eo1, eo2]; exact lw_keep hC.2.2.1 (by show (137 : Int) ≠ 136; decide)
      · rw [hw]; rw [efr, eto]; exact lw_new (by have := hnl; rw [← hw]; exact this) ⟨by omega, by have := ap_lt hap; omega⟩
      · show isCl cu.2.2.1; omega
      · show LawOK (decide (cu.2.2.1 = 137)) _ _ _; rw [hdc]; exact law_new hap
      · obtain ⟨v, hv, _⟩ := hap
        exact ⟨v, hv⟩
      · show isCl cu.2.2.1; omega)
 | (refine hp J174 (Frc.tr (Frc.tr (Frc.tr (Frc.u7 (Frc.u0 Frc.rf) (by omega)) (Frd.fc (Fcu.rd f88))) f168) (Frd.fc f174)) (outT_o o174 (Frd.cb f174 cb168) (fun cu2 c2 _ rd g => ?_))
    obtain ⟨g1, g2, g3, g4, g5⟩ := g
    subst g1
    have e290 : J174 290 = J168 290 := f174.1 290 (by omega) (by omega)
    have e88 : J88 290 = uI I 290 (4 * i) (I 287 15) 290 := by rw [f88.1 290 (by omega), uI_row (by omega), show ((i : Int) * 4).toNat = 4 * i by omega]
    have e7 : J174 287 7 = ((i + 1 : Nat) : Int) := by rw [f174.2 7 (by omega), e168 7 (by omega), f88.2 7 (by omega), uI_s]; omega
    have eq : ∀ k, (7 < k ∧ k < 12) → J174 287 k = I 287 k := fun k hk => by rw [f174.2 k (by omega), e168 k (by omega), f88.2 k (by omega), uI_o (by omega), uI_o (by omega)]
    refine ⟨cl ++ [(cu.2.2.1, v168)], clc_app hC (by rw [e7, hi]) (fun k hk => by rw [e290, a168 k (by omega), e88, uI_o (by omega)]) ⟨?_, fun h => ?_, fun h => ?_⟩ ?_ ?_ ⟨hcl, fun h => absurd h hnlw⟩ ⟨[], by rw [List.append_nil]⟩ (by omega), hG _ ⟨hcl, by show cl.length < 24; omega, Or.inr ⟨hnlw, g2, g3, by rw [g4, ← g5]⟩⟩⟩
    · rw [e290, hi, a168 (4 * i) (by omega), e88, uI_s]; exact k1
    · rw [e290, hi, p168]
    · rw [e290, hi]; exact q168 (by have h9 : cu.2.2.1 = 138 := h; omega)
    · rw [eq 8 (by omega), eq 9 (by omega)]; exact lw_keep hC.2.2.1 (by show cu.2.2.1 ≠ 136; omega)
    · rw [eq 10 (by omega), eq 11 (by omega)]; exact lw_keep hC.2.2.2.1 (by show cu.2.2.1 ≠ 137; omega)))
            · have hw : cu.2.2.1 = 136 := by omega
              have hlw : isLw ((cl, code, cu) : TMS).2.2.2.2.1 := by show isLw cu.2.2.1; omega
              have hnl : ¬ hasL ((cl, code, cu) : TMS).1 ((cl, code, cu) : TMS).2.2.2.2.1 := by show ¬ hasL cl cu.2.2.1; rw [hw, lh1]; omega
              have hdc : decide (cu.2.2.1 = 137) = false := by rw [hw]; rfl
              refine x_aload_n dX5_readClause_98 rfl ?_
              refine x_iconst dX5_readClause_99 ?_
              refine x_putZ dX5_readClause_100 gf_RX5_125 (k_ob_287 cs) rfl (by omega) ?_
              refine x_aload_n dX5_readClause_103 rfl ?_
              refine x_aload_n dX5_readClause_104 rfl ?_
              refine x_getI dX5_readClause_105 gf_RX5_53 (k_ob_287 cs) (fun _ _ => rfl) ?_
              refine x_putI dX5_readClause_108 gf_RX5_59 (k_ob_287 cs) rfl ?_
              refine x_aload_n dX5_readClause_111 rfl ?_
              refine x_iconst dX5_readClause_112 ?_
              refine x_callV1 (mc1 := 0) (ms1 := 0) dX5_readClause_113 cv_RX5_129 (ci := 5) (k_ob_287 cs) rfl (Nat.le_of_ble_eq_true rfl) (n1 := n - 1) (by omega) (by omega) (by omega) ?_
              refine sum_K cs _ _ _ t l false F (fun cu1 c1 => SumG t l false 0 (adv t l cu.1) code cu1 c1) (by omega) ?_ (fun J113 f113 o113 => ?_)
              · exact ⟨⟨tpc_fr hT88 (Foc.u7 (Foc.u7 Foc.rf (by omega)) (by omega)), by first | exact Or.inr ⟨by rw [uI_o (by omega), uI_s], rfl⟩ | exact Or.inl ⟨by rw [uI_o (by omega), uI_s], rfl⟩⟩, Or.inr ⟨by rw [uI_o (by omega), uI_o (by omega)]; exact h88, adv t l cu.1, code, rdc_fr hR88 (Foc.u7 (Foc.u7 Foc.rf (by omega)) (by omega)), fun f pl x => hF f pl (Or.inr (Or.inr (Or.inr (Or.inl ⟨hlw, hnl, by show cl.length < 24; omega, Or.inl (by show SumF t l (decide (cu.2.2.1 = 137)) _ _ _ _ _; rw [hdc]; exact x)⟩)))), fun _ _ x => x⟩⟩
              refine x_aload_n dX5_readClause_116 rfl ?_
              refine x_aload_n dX5_readClause_117 rfl ?_
              refine x_getI dX5_readClause_118 gf_RX5_53 (k_ob_287 cs) (fun _ _ => rfl) ?_
              refine x_putI dX5_readClause_121 gf_RX5_62 (k_ob_287 cs) rfl ?_
              refine x_goto 171 dX5_readClause_124 (by decide) ?_
              refine x_aload_n dX5_readClause_171 rfl ?_
              refine x_bipush dX5_readClause_172 (by decide) ?_
              refine x_callV1 (mc1 := 0) (ms1 := 0) dX5_readClause_174 cv_RX5_136 (ci := 5) (k_ob_287 cs) rfl (Nat.le_of_ble_eq_true rfl) (n1 := n - 1) (by omega) (by omega) (by omega) ?_
              have q174 : OutC _ t l false F (fun cu1 c1 => (cu1.2.2.1 ≠ 59 → F 1 cu1.2.1) ∧ (cu1.2.2.1 = 59 → ∃ cu9, SumG t l false 0 (adv t l cu.1) code cu9 c1 ∧ cu9.2.2.1 = 59 ∧ adv t l cu1.1 = adv t l cu9.1 ∧ (c1.length : Int) = J113 287 6)) := out_fr (out_imp2 o113 (fun cu1 c1 rd _ g => ⟨fun hk => hF 1 _ (Or.inr (Or.inr (Or.inr (Or.inl ⟨hlw, hnl, by show cl.length < 24; omega, Or.inr ⟨cu1, c1, by show SumG t l (decide (cu.2.2.1 = 137)) _ _ _ _ _; rw [hdc]; exact g, hk, rfl, rfl⟩⟩)))), fun hk => ⟨cu1, g, hk, rfl, rd.2.2.1.symm⟩⟩)) (Foc.u7 (q := 9) (v := J113 287 6) Foc.rf (by omega)) (by rw [uI_o (by omega)]; exact o113.1.2)
              refine sp_X5_expect (sl := false) (F := F) (G := fun cu2 c2 => ∃ cu9, SumG t l false 0 (adv t l cu.1) code cu9 c2 ∧ cu9.2.2.1 = 59 ∧ cu2 = adv t l cu9.1 ∧ (c2.length : Int) = J113 287 6) cs (by omega) (by omega) q174 (fun J174 f174 o174 => ?_)
              exact x_return dX5_readClause_177 rfl (by omega) (by omega) (by first
 | exact hp _ (Frd.fc f14) (outT_f o14 (Frd.cb f14 hcb))
 | exact hp _ (Frd.fc f50) (outT_f o50 (Frd.cb f50 hcb))
 | exact hp _ (Frd.fc f65) (outT_f o65 (Frd.cb f65 hcb))
 | (refine hp J174 (Frc.tr (Frc.tr (Frc.u7 (Frc.u7 (Frc.tr (Frc.u7 (Frc.u0 Frc.rf) (by omega)) (Frd.fc (Fcu.rd f88))) (by omega)) (by omega)) (Frc.u7 (Frd.fc f113) (by omega))) (Frd.fc f174)) (outT_o o174 (CB.w (CB.u hcb (q := 4 * i) (v := I 287 15) (by omega)) ?_) (fun cu2 c2 _ rd g => ?_))
    · rw [f174.1 290 (by omega) (by omega), uI_row (by omega), f113.1 290 (by omega) (by omega), uI_row (by omega), uI_row (by omega), f88.1 290 (by omega), uI_row (by omega), show ((i : Int) * 4).toNat = 4 * i by omega]
    · obtain ⟨cu9, g1, g2, g3, g4⟩ := g
      have hap : Ap false false code c2 := g1.1.1.1
      have e290 : J174 290 = uI I 290 (4 * i) (I 287 15) 290 := by rw [f174.1 290 (by omega) (by omega), uI_row (by omega), f113.1 290 (by omega) (by omega), uI_row (by omega), uI_row (by omega), f88.1 290 (by omega), uI_row (by omega), show ((i : Int) * 4).toNat = 4 * i by omega]
      have e7 : J174 287 7 = ((i + 1 : Nat) : Int) := by rw [f174.2 7 (by omega), uI_o (by omega), f113.2 7 (by omega), uI_o (by omega), uI_o (by omega), f88.2 7 (by omega), uI_s]; omega
      have efr : J174 287 8 = (code.length : Int) := by rw [f174.2 8 (by omega), uI_o (by omega), f113.2 8 (by omega), uI_s, uI_o (by omega)]; exact hR88.2.2.1
      have eto : J174 287 9 = (c2.length : Int) := by rw [f174.2 9 (by omega), uI_s]; exact g4.symm
      have eo1 : J174 287 10 = I 287 10 := by rw [f174.2 10 (by omega), uI_o (by omega), f113.2 10 (by omega), uI_o (by omega), uI_o (by omega), f88.2 10 (by omega), uI_o (by omega), uI_o (by omega)]
      have eo2 : J174 287 11 = I 287 11 := by rw [f174.2 11 (by omega), uI_o (by omega), f113.2 11 (by omega), uI_o (by omega), uI_o (by omega), f88.2 11 (by omega), uI_o (by omega), uI_o (by omega)]
      refine ⟨cl ++ [(cu.2.2.1, (code.length : Int), (c2.length : Int), 0)], clc_app hC (by rw [e7, hi]) (fun k hk => by rw [e290, uI_o (by omega)]) ⟨?_, fun h => ?_, fun h => ?_⟩ ?_ ?_ ⟨?_, fun _ => ?_⟩ ?_ (by omega), hG _ ⟨?_, by show cl.length < 24; omega, Or.inl ⟨hlw, hnl, cu9, c2, by show SumG t l (decide (cu.2.2.1 = 137)) _ _ _ _ _; rw [hdc]; exact g1, g2, by rw [g3]⟩⟩⟩
      · rw [e290, hi, uI_s]; exact k1
      · exfalso; have h9 : 138 ≤ cu.2.2.1 ∨ cu.2.2.1 = 128 := h; omega
      · exfalso; have h9 : cu.2.2.1 = 138 := h; omega
      · rw [hw]; rw [efr, eto]; exact lw_new (by have := hnl; rw [← hw]; exact this) ⟨by omega, by have := ap_lt hap; omega⟩
      · rw [hw]; rw [eo1, eo2]; exact lw_keep hC.2.2.2.1 (by show (136 : Int) ≠ 137; decide)
      · show isCl cu.2.2.1; omega
      · show LawOK (decide (cu.2.2.1 = 137)) _ _ _; rw [hdc]; exact law_new hap
      · obtain ⟨v, hv, _⟩ := hap
        exact ⟨v, hv⟩
      · show isCl cu.2.2.1; omega)
 | (refine hp J174 (Frc.tr (Frc.tr (Frc.u7 (Frc.u7 (Frc.tr (Frc.u7 (Frc.u0 Frc.rf) (by omega)) (Frd.fc (Fcu.rd f88))) (by omega)) (by omega)) (Frc.u7 (Frd.fc f149) (by omega))) (Frd.fc f174)) (outT_o o174 (CB.w (CB.u hcb (q := 4 * i) (v := I 287 15) (by omega)) ?_) (fun cu2 c2 _ rd g => ?_))
    · rw [f174.1 290 (by omega) (by omega), uI_row (by omega), f149.1 290 (by omega) (by omega), uI_row (by omega), uI_row (by omega), f88.1 290 (by omega), uI_row (by omega), show ((i : Int) * 4).toNat = 4 * i by omega]
    · obtain ⟨cu9, g1, g2, g3, g4⟩ := g
      have hap : Ap true false code c2 := g1.1.1.1
      have e290 : J174 290 = uI I 290 (4 * i) (I 287 15) 290 := by rw [f174.1 290 (by omega) (by omega), uI_row (by omega), f149.1 290 (by omega) (by omega), uI_row (by omega), uI_row (by omega), f88.1 290 (by omega), uI_row (by omega), show ((i : Int) * 4).toNat = 4 * i by omega]
      have e7 : J174 287 7 = ((i + 1 : Nat) : Int) := by rw [f174.2 7 (by omega), uI_o (by omega), f149.2 7 (by omega), uI_o (by omega), uI_o (by omega), f88.2 7 (by omega), uI_s]; omega
      have efr : J174 287 10 = (code.length : Int) := by rw [f174.2 10 (by omega), uI_o (by omega), f149.2 10 (by omega), uI_s, uI_o (by omega)]; exact hR88.2.2.1
      have eto : J174 287 11 = (c2.length : Int) := by rw [f174.2 11 (by omega), uI_s]; exact g4.symm
      have eo1 : J174 287 8 = I 287 8 := by rw [f174.2 8 (by omega), uI_o (by omega), f149.2 8 (by omega), uI_o (by omega), uI_o (by omega), f88.2 8 (by omega), uI_o (by omega), uI_o (by omega)]
      have eo2 : J174 287 9 = I 287 9 := by rw [f174.2 9 (by omega), uI_o (by omega), f149.2 9 (by omega), uI_o (by omega), uI_o (by omega), f88.2 9 (by omega), uI_o (by omega), uI_o (by omega)]
      refine ⟨cl ++ [(cu.2.2.1, (code.length : Int), (c2.length : Int), 0)], clc_app hC (by rw [e7, hi]) (fun k hk => by rw [e290, uI_o (by omega)]) ⟨?_, fun h => ?_, fun h => ?_⟩ ?_ ?_ ⟨?_, fun _ => ?_⟩ ?_ (by omega), hG _ ⟨?_, by show cl.length < 24; omega, Or.inl ⟨hlw, hnl, cu9, c2, by show SumG t l (decide (cu.2.2.1 = 137)) _ _ _ _ _; rw [hdc]; exact g1, g2, by rw [g3]⟩⟩⟩
      · rw [e290, hi, uI_s]; exact k1
      · exfalso; have h9 : 138 ≤ cu.2.2.1 ∨ cu.2.2.1 = 128 := h; omega
      · exfalso; have h9 : cu.2.2.1 = 138 := h; omega
      · rw [hw]; rw [eo1, eo2]; exact lw_keep hC.2.2.1 (by show (137 : Int) ≠ 136; decide)
      · rw [hw]; rw [efr, eto]; exact lw_new (by have := hnl; rw [← hw]; exact this) ⟨by omega, by have := ap_lt hap; omega⟩
      · show isCl cu.2.2.1; omega
      · show LawOK (decide (cu.2.2.1 = 137)) _ _ _; rw [hdc]; exact law_new hap
      · obtain ⟨v, hv, _⟩ := hap
        exact ⟨v, hv⟩
      · show isCl cu.2.2.1; omega)
 | (refine hp J174 (Frc.tr (Frc.tr (Frc.tr (Frc.u7 (Frc.u0 Frc.rf) (by omega)) (Frd.fc (Fcu.rd f88))) f168) (Frd.fc f174)) (outT_o o174 (Frd.cb f174 cb168) (fun cu2 c2 _ rd g => ?_))
    obtain ⟨g1, g2, g3, g4, g5⟩ := g
    subst g1
    have e290 : J174 290 = J168 290 := f174.1 290 (by omega) (by omega)
    have e88 : J88 290 = uI I 290 (4 * i) (I 287 15) 290 := by rw [f88.1 290 (by omega), uI_row (by omega), show ((i : Int) * 4).toNat = 4 * i by omega]
    have e7 : J174 287 7 = ((i + 1 : Nat) : Int) := by rw [f174.2 7 (by omega), e168 7 (by omega), f88.2 7 (by omega), uI_s]; omega
    have eq : ∀ k, (7 < k ∧ k < 12) → J174 287 k = I 287 k := fun k hk => by rw [f174.2 k (by omega), e168 k (by omega), f88.2 k (by omega), uI_o (by omega), uI_o (by omega)]
    refine ⟨cl ++ [(cu.2.2.1, v168)], clc_app hC (by rw [e7, hi]) (fun k hk => by rw [e290, a168 k (by omega), e88, uI_o (by omega)]) ⟨?_, fun h => ?_, fun h => ?_⟩ ?_ ?_ ⟨hcl, fun h => absurd h hnlw⟩ ⟨[], by rw [List.append_nil]⟩ (by omega), hG _ ⟨hcl, by show cl.length < 24; omega, Or.inr ⟨hnlw, g2, g3, by rw [g4, ← g5]⟩⟩⟩
    · rw [e290, hi, a168 (4 * i) (by omega), e88, uI_s]; exact k1
    · rw [e290, hi, p168]
    · rw [e290, hi]; exact q168 (by have h9 : cu.2.2.1 = 138 := h; omega)
    · rw [eq 8 (by omega), eq 9 (by omega)]; exact lw_keep hC.2.2.1 (by show cu.2.2.1 ≠ 136; omega)
    · rw [eq 10 (by omega), eq 11 (by omega)]; exact lw_keep hC.2.2.2.1 (by show cu.2.2.1 ≠ 137; omega)))
          · refine x_aload_n dX5_readClause_62 rfl ?_
            refine x_bipush dX5_readClause_63 (by decide) ?_
            refine x_callV1 (mc1 := 0) (ms1 := 0) dX5_readClause_65 cv_RX5_122 (ci := 5) (k_ob_287 cs) rfl (Nat.le_of_ble_eq_true rfl) (n1 := n - 1) (by omega) (by omega) (by omega) ?_
            refine sp_X5_refuse (G := fun _ _ => False) cs (by omega) (by omega) (hRf 6 (hF _ _ (Or.inr (Or.inr (Or.inl ⟨by show isCl cu.2.2.1; omega, by show ¬ (isLw cu.2.2.1 ∧ hasL cl cu.2.2.1); rintro ⟨h1, h2⟩; rcases h1 with h1 | h1 <;> rw [h1] at h2 <;> first | (rw [lh1] at h2; omega) | (rw [lh2] at h2; omega), by show cl.length = 24; omega, rfl, rfl⟩))))) (fun J65 f65 o65 => ?_)
            refine x_goto 177 dX5_readClause_68 (by decide) ?_
            exact x_return dX5_readClause_177 rfl (by omega) (by omega) (by first
 | exact hp _ (Frd.fc f14) (outT_f o14 (Frd.cb f14 hcb))
 | exact hp _ (Frd.fc f50) (outT_f o50 (Frd.cb f50 hcb))
 | exact hp _ (Frd.fc f65) (outT_f o65 (Frd.cb f65 hcb))
 | (refine hp J174 (Frc.tr (Frc.tr (Frc.u7 (Frc.u7 (Frc.tr (Frc.u7 (Frc.u0 Frc.rf) (by omega)) (Frd.fc (Fcu.rd f88))) (by omega)) (by omega)) (Frc.u7 (Frd.fc f113) (by omega))) (Frd.fc f174)) (outT_o o174 (CB.w (CB.u hcb (q := 4 * i) (v := I 287 15) (by omega)) ?_) (fun cu2 c2 _ rd g => ?_))
    · rw [f174.1 290 (by omega) (by omega), uI_row (by omega), f113.1 290 (by omega) (by omega), uI_row (by omega), uI_row (by omega), f88.1 290 (by omega), uI_row (by omega), show ((i : Int) * 4).toNat = 4 * i by omega]
    · obtain ⟨cu9, g1, g2, g3, g4⟩ := g
      have hap : Ap false false code c2 := g1.1.1.1
      have e290 : J174 290 = uI I 290 (4 * i) (I 287 15) 290 := by rw [f174.1 290 (by omega) (by omega), uI_row (by omega), f113.1 290 (by omega) (by omega), uI_row (by omega), uI_row (by omega), f88.1 290 (by omega), uI_row (by omega), show ((i : Int) * 4).toNat = 4 * i by omega]
      have e7 : J174 287 7 = ((i + 1 : Nat) : Int) := by rw [f174.2 7 (by omega), uI_o (by omega), f113.2 7 (by omega), uI_o (by omega), uI_o (by omega), f88.2 7 (by omega), uI_s]; omega
      have efr : J174 287 8 = (code.length : Int) := by rw [f174.2 8 (by omega), uI_o (by omega), f113.2 8 (by omega), uI_s, uI_o (by omega)]; exact hR88.2.2.1
      have eto : J174 287 9 = (c2.length : Int) := by rw [f174.2 9 (by omega), uI_s]; exact g4.symm
      have eo1 : J174 287 10 = I 287 10 := by rw [f174.2 10 (by omega), uI_o (by omega), f113.2 10 (by omega), uI_o (by omega), uI_o (by omega), f88.2 10 (by omega), uI_o (by omega), uI_o (by omega)]
      have eo2 : J174 287 11 = I 287 11 := by rw [f174.2 11 (by omega), uI_o (by omega), f113.2 11 (by omega), uI_o (by omega), uI_o (by omega), f88.2 11 (by omega), uI_o (by omega), uI_o (by omega)]
      refine ⟨cl ++ [(cu.2.2.1, (code.length : Int), (c2.length : Int), 0)], clc_app hC (by rw [e7, hi]) (fun k hk => by rw [e290, uI_o (by omega)]) ⟨?_, fun h => ?_, fun h => ?_⟩ ?_ ?_ ⟨?_, fun _ => ?_⟩ ?_ (by omega), hG _ ⟨?_, by show cl.length < 24; omega, Or.inl ⟨hlw, hnl, cu9, c2, by show SumG t l (decide (cu.2.2.1 = 137)) _ _ _ _ _; rw [hdc]; exact g1, g2, by rw [g3]⟩⟩⟩
      · rw [e290, hi, uI_s]; exact k1
      · exfalso; have h9 : 138 ≤ cu.2.2.1 ∨ cu.2.2.1 = 128 := h; omega
      · exfalso; have h9 : cu.2.2.1 = 138 := h; omega
      · rw [hw]; rw [efr, eto]; exact lw_new (by have := hnl; rw [← hw]; exact this) ⟨by omega, by have := ap_lt hap; omega⟩
      · rw [hw]; rw [eo1, eo2]; exact lw_keep hC.2.2.2.1 (by show (136 : Int) ≠ 137; decide)
      · show isCl cu.2.2.1; omega
      · show LawOK (decide (cu.2.2.1 = 137)) _ _ _; rw [hdc]; exact law_new hap
      · obtain ⟨v, hv, _⟩ := hap
        exact ⟨v, hv⟩
      · show isCl cu.2.2.1; omega)
 | (refine hp J174 (Frc.tr (Frc.tr (Frc.u7 (Frc.u7 (Frc.tr (Frc.u7 (Frc.u0 Frc.rf) (by omega)) (Frd.fc (Fcu.rd f88))) (by omega)) (by omega)) (Frc.u7 (Frd.fc f149) (by omega))) (Frd.fc f174)) (outT_o o174 (CB.w (CB.u hcb (q := 4 * i) (v := I 287 15) (by omega)) ?_) (fun cu2 c2 _ rd g => ?_))
    · rw [f174.1 290 (by omega) (by omega), uI_row (by omega), f149.1 290 (by omega) (by omega), uI_row (by omega), uI_row (by omega), f88.1 290 (by omega), uI_row (by omega), show ((i : Int) * 4).toNat = 4 * i by omega]
    · obtain ⟨cu9, g1, g2, g3, g4⟩ := g
      have hap : Ap true false code c2 := g1.1.1.1
      have e290 : J174 290 = uI I 290 (4 * i) (I 287 15) 290 := by rw [f174.1 290 (by omega) (by omega), uI_row (by omega), f149.1 290 (by omega) (by omega), uI_row (by omega), uI_row (by omega), f88.1 290 (by omega), uI_row (by omega), show ((i : Int) * 4).toNat = 4 * i by omega]
      have e7 : J174 287 7 = ((i + 1 : Nat) : Int) := by rw [f174.2 7 (by omega), uI_o (by omega), f149.2 7 (by omega), uI_o (by omega), uI_o (by omega), f88.2 7 (by omega), uI_s]; omega
      have efr : J174 287 10 = (code.length : Int) := by rw [f174.2 10 (by omega), uI_o (by omega), f149.2 10 (by omega), uI_s, uI_o (by omega)]; exact hR88.2.2.1
      have eto : J174 287 11 = (c2.length : Int) := by rw [f174.2 11 (by omega), uI_s]; exact g4.symm
      have eo1 : J174 287 8 = I 287 8 := by rw [f174.2 8 (by omega), uI_o (by omega), f149.2 8 (by omega), uI_o (by omega), uI_o (by omega), f88.2 8 (by omega), uI_o (by omega), uI_o (by omega)]
      have eo2 : J174 287 9 = I 287 9 := by rw [f174.2 9 (by omega), uI_o (by omega), f149.2 9 (by omega), uI_o (by omega), uI_o (by omega), f88.2 9 (by omega), uI_o (by omega), uI_o (by omega)]
      refine ⟨cl ++ [(cu.2.2.1, (code.length : Int), (c2.length : Int), 0)], clc_app hC (by rw [e7, hi]) (fun k hk => by rw [e290, uI_o (by omega)]) ⟨?_, fun h => ?_, fun h => ?_⟩ ?_ ?_ ⟨?_, fun _ => ?_⟩ ?_ (by omega), hG _ ⟨?_, by show cl.length < 24; omega, Or.inl ⟨hlw, hnl, cu9, c2, by show SumG t l (decide (cu.2.2.1 = 137)) _ _ _ _ _; rw [hdc]; exact g1, g2, by rw [g3]⟩⟩⟩
      · rw [e290, hi, uI_s]; exact k1
      · exfalso; have h9 : 138 ≤ cu.2.2.1 ∨ cu.2.2.1 = 128 := h; omega
      · exfalso; have h9 : cu.2.2.1 = 138 := h; omega
      · rw [hw]; rw [eo1, eo2]; exact lw_keep hC.2.2.1 (by show (137 : Int) ≠ 136; decide)
      · rw [hw]; rw [efr, eto]; exact lw_new (by have := hnl; rw [← hw]; exact this) ⟨by omega, by have := ap_lt hap; omega⟩
      · show isCl cu.2.2.1; omega
      · show LawOK (decide (cu.2.2.1 = 137)) _ _ _; rw [hdc]; exact law_new hap
      · obtain ⟨v, hv, _⟩ := hap
        exact ⟨v, hv⟩
      · show isCl cu.2.2.1; omega)
 | (refine hp J174 (Frc.tr (Frc.tr (Frc.tr (Frc.u7 (Frc.u0 Frc.rf) (by omega)) (Frd.fc (Fcu.rd f88))) f168) (Frd.fc f174)) (outT_o o174 (Frd.cb f174 cb168) (fun cu2 c2 _ rd g => ?_))
    obtain ⟨g1, g2, g3, g4, g5⟩ := g
    subst g1
    have e290 : J174 290 = J168 290 := f174.1 290 (by omega) (by omega)
    have e88 : J88 290 = uI I 290 (4 * i) (I 287 15) 290 := by rw [f88.1 290 (by omega), uI_row (by omega), show ((i : Int) * 4).toNat = 4 * i by omega]
    have e7 : J174 287 7 = ((i + 1 : Nat) : Int) := by rw [f174.2 7 (by omega), e168 7 (by omega), f88.2 7 (by omega), uI_s]; omega
    have eq : ∀ k, (7 < k ∧ k < 12) → J174 287 k = I 287 k := fun k hk => by rw [f174.2 k (by omega), e168 k (by omega), f88.2 k (by omega), uI_o (by omega), uI_o (by omega)]
    refine ⟨cl ++ [(cu.2.2.1, v168)], clc_app hC (by rw [e7, hi]) (fun k hk => by rw [e290, a168 k (by omega), e88, uI_o (by omega)]) ⟨?_, fun h => ?_, fun h => ?_⟩ ?_ ?_ ⟨hcl, fun h => absurd h hnlw⟩ ⟨[], by rw [List.append_nil]⟩ (by omega), hG _ ⟨hcl, by show cl.length < 24; omega, Or.inr ⟨hnlw, g2, g3, by rw [g4, ← g5]⟩⟩⟩
    · rw [e290, hi, a168 (4 * i) (by omega), e88, uI_s]; exact k1
    · rw [e290, hi, p168]
    · rw [e290, hi]; exact q168 (by have h9 : cu.2.2.1 = 138 := h; omega)
    · rw [eq 8 (by omega), eq 9 (by omega)]; exact lw_keep hC.2.2.1 (by show cu.2.2.1 ≠ 136; omega)
    · rw [eq 10 (by omega), eq 11 (by omega)]; exact lw_keep hC.2.2.2.1 (by show cu.2.2.1 ≠ 137; omega)))
        · refine x_aload_n dX5_readClause_41 rfl ?_
          refine x_getI dX5_readClause_42 gf_RX5_68 (k_ob_287 cs) (fun _ _ => rfl) ?_
          refine x_if_le 56 dX5_readClause_45 (by decide) (by omega) (fun w45 => ?_) (fun w45 => ?_)
          · refine x_iload_n dX5_readClause_56 rfl ?_
            refine x_bipush dX5_readClause_57 (by decide) ?_
            refine x_icmp_lt 71 dX5_readClause_59 (by decide) ⟨(by omega), (by omega)⟩ (fun w59 => ?_) (fun w59 => ?_)
            · refine x_aload_n dX5_readClause_71 rfl ?_
              refine x_getR (b := 290) dX5_readClause_72 gf_RX5_18 (k_ob_287 cs) (fun _ _ => rfl) (k_r_287_2 cs) ?_
              refine x_iload_n dX5_readClause_75 rfl ?_
              refine x_iconst dX5_readClause_76 ?_
              refine x_imul dX5_readClause_77 ?_
              refine x_iload_n dX5_readClause_78 rfl ?_
              refine x_iastore dX5_readClause_79 (k_ar_290 cs) (by omega) (by omega) ?_
              refine x_aload_n dX5_readClause_80 rfl ?_
              refine x_iload_n dX5_readClause_81 rfl ?_
              refine x_iconst dX5_readClause_82 ?_
              refine x_iadd dX5_readClause_83 ?_
              refine x_putI dX5_readClause_84 gf_RX5_56 (k_ob_287 cs) rfl ?_
              refine x_aload_n dX5_readClause_87 rfl ?_
              refine x_callV0 (mc1 := 0) (ms1 := 0) dX5_readClause_88 cv_RX5_34 (ci := 5) (k_ob_287 cs) rfl (Nat.le_of_ble_eq_true rfl) (n1 := n - 1) (by omega) (by omega) (by omega) ?_
              have fo88 : Foc I (uI (uI I 290 (((i : Int) * 4).toNat) (I 287 15)) 287 7 ((i : Int) + 1)) := Foc.u7 (Foc.u0 Foc.rf) (by omega)
              refine sp_X5_advance (t := t) (l := l) (p := cu.1) cs (by omega) (tpc_fr hT fo88) k4 (by rw [uI_o (by omega), uI_o (by omega)]; exact hR.1.1) (fun J88 c88 f88 => ?_)
              have hT88 : TpC J88 t l := TpC.f (tpc_fr hT fo88) f88
              have hne : cu.2.2.1 ≠ 0 := by omega
              have ca88 := cu_adv (t := t) hR.2.1 l3
              have hR88 : RdC J88 l (adv t l cu.1) code := ⟨c88, ca88.1, by rw [f88.2 6 (by omega), uI_o (by omega), uI_o (by omega)]; exact hR.2.2.1, fun q hq => by rw [f88.1 289 (by omega), uI_o (by omega), uI_o (by omega)]; exact hR.2.2.2.1 q hq, by have := ca88.2.2; omega, by rw [f88.2 5 (by omega), uI_o (by omega), uI_o (by omega)]; exact hR.2.2.2.2.2⟩
              have h88 : J88 287 4 = 0 := by rw [f88.2 4 (by omega), uI_o (by omega), uI_o (by omega)]; exact h0
              have s88 : (J88 287 12 = 1 ∧ sl = true) ∨ (J88 287 12 = 0 ∧ sl = false) := by rw [f88.2 12 (by omega), uI_o (by omega), uI_o (by omega)]; exact hsl
              skip
              refine x_iload_n dX5_readClause_91 rfl ?_
              refine x_sipush dX5_readClause_92 (by decide) ?_
              refine x_icmp_ne 127 dX5_readClause_95 (by decide) ⟨(by omega), (by omega)⟩ (fun w95 => ?_) (fun w95 => ?_)
              · refine x_iload_n dX5_readClause_127 rfl ?_
                refine x_sipush dX5_readClause_128 (by decide) ?_
                refine x_icmp_ne 163 dX5_readClause_131 (by decide) ⟨(by omega), (by omega)⟩ (fun w131 => ?_) (fun w131 => ?_)
                · have hcl : isCl ((cl, code, cu) : TMS).2.2.2.2.1 := by show isCl cu.2.2.1; omega
                  have hnlw : ¬ isLw ((cl, code, cu) : TMS).2.2.2.2.1 := by show ¬ isLw cu.2.2.1; omega
                  have hcb88 : CB J88 := CB.w (CB.u hcb (q := ((i : Int) * 4).toNat) (v := I 287 15) (by omega)) (by rw [f88.1 290 (by omega), uI_row (by omega)])
                  refine x_aload_n dX5_readClause_163 rfl ?_
                  refine x_iload_n dX5_readClause_164 rfl ?_
                  refine x_iload_n dX5_readClause_165 rfl ?_
                  refine x_iconst dX5_readClause_166 ?_
                  refine x_imul dX5_readClause_167 ?_
                  refine x_callV2 (mc1 := 0) (ms1 := 0) dX5_readClause_168 cv_RX5_132 (ci := 5) (k_ob_287 cs) rfl (Nat.le_of_ble_eq_true rfl) (n1 := n - 1) (by omega) (by omega) (by omega) ?_
                  rw [show (i : Int) * 4 = ((4 * i : Nat) : Int) by omega]
                  refine sp_X5_readDeed (t := t) (l := l) (sl := sl) (F := F) (p := 4 * i) (G := fun v cu1 c1 => c1 = code ∧ (deed t l cu.2.2.1 (adv t l cu.1)).1 = 0 ∧ cu1 = (deed t l cu.2.2.1 (adv t l cu.1)).2.2 ∧ v = (deed t l cu.2.2.1 (adv t l cu.1)).2.1) cs (by omega) (by omega) (by omega) hcb88 ⟨⟨hT88, s88⟩, Or.inr ⟨h88, adv t l cu.1, code, hR88, ?_, fun h9 => ⟨rfl, by rw [← k1]; exact h9, by rw [← k1], by rw [← k1]⟩⟩⟩ (fun v168 J168 f168 e168 cb168 a168 p168 q168 o168 => ?_)
                  · rw [k1]
                    exact fun h9 => hF _ _ (Or.inr (Or.inr (Or.inr (Or.inr ⟨hcl, hnlw, by show cl.length < 24; omega, Or.inl ⟨h9, rfl, rfl⟩⟩))))
                  refine x_aload_n dX5_readClause_171 rfl ?_
                  refine x_bipush dX5_readClause_172 (by decide) ?_
                  refine x_callV1 (mc1 := 0) (ms1 := 0) dX5_readClause_174 cv_RX5_136 (ci := 5) (k_ob_287 cs) rfl (Nat.le_of_ble_eq_true rfl) (n1 := n - 1) (by omega) (by omega) (by omega) ?_
                  refine sp_X5_expect (sl := sl) (F := F) (G := fun cu2 c2 => c2 = code ∧ (deed t l cu.2.2.1 (adv t l cu.1)).1 = 0 ∧ (deed t l cu.2.2.1 (adv t l cu.1)).2.2.2.2.1 = 59 ∧ cu2 = adv t l (deed t l cu.2.2.1 (adv t l cu.1)).2.2.1 ∧ v168 = (deed t l cu.2.2.1 (adv t l cu.1)).2.1) cs (by omega) (by omega) (out_imp o168 (fun cu1 c1 ok ln _ _ _ _ g => ?_)) (fun J174 f174 o174 => ?_)
                  · obtain ⟨g1, g2, g3, g4⟩ := g
                    subst g1
                    refine ⟨fun hk => hF 1 _ (Or.inr (Or.inr (Or.inr (Or.inr ⟨hcl, hnlw, by show cl.length < 24; omega, Or.inr ⟨g2, ?_, rfl, ?_⟩⟩)))), fun hk => ⟨rfl, g2, ?_, ?_, g4⟩⟩
                    · show (deed t l cu.2.2.1 (adv t l cu.1)).2.2.2.2.1 ≠ 59
                      rw [← g3]; exact hk
                    · show _ = (deed t l cu.2.2.1 (adv t l cu.1)).2.2.2.1
                      rw [← g3]
                    · rw [← g3]; exact hk
                    · rw [← g3]
                  exact x_return dX5_readClause_177 rfl (by omega) (by omega) (by first
 | exact hp _ (Frd.fc f14) (outT_f o14 (Frd.cb f14 hcb))
 | exact hp _ (Frd.fc f50) (outT_f o50 (Frd.cb f50 hcb))
 | exact hp _ (Frd.fc f65) (outT_f o65 (Frd.cb f65 hcb))
 | (refine hp J174 (Frc.tr (Frc.tr (Frc.u7 (Frc.u7 (Frc.tr (Frc.u7 (Frc.u0 Frc.rf) (by omega)) (Frd.fc (Fcu.rd f88))) (by omega)) (by omega)) (Frc.u7 (Frd.fc f113) (by omega))) (Frd.fc f174)) (outT_o o174 (CB.w (CB.u hcb (q := 4 * i) (v := I 287 15) (by omega)) ?_) (fun cu2 c2 _ rd g => ?_))
    · rw [f174.1 290 (by omega) (by omega), uI_row (by omega), f113.1 290 (by omega) (by omega), uI_row (by omega), uI_row (by omega), f88.1 290 (by omega), uI_row (by omega), show ((i : Int) * 4).toNat = 4 * i by omega]
    · obtain ⟨cu9, g1, g2, g3, g4⟩ := g
      have hap : Ap false false code c2 := g1.1.1.1
      have e290 : J174 290 = uI I 290 (4 * i) (I 287 15) 290 := by rw [f174.1 290 (by omega) (by omega), uI_row (by omega), f113.1 290 (by omega) (by omega), uI_row (by omega), uI_row (by omega), f88.1 290 (by omega), uI_row (by omega), show ((i : Int) * 4).toNat = 4 * i by omega]
      have e7 : J174 287 7 = ((i + 1 : Nat) : Int) := by rw [f174.2 7 (by omega), uI_o (by omega), f113.2 7 (by omega), uI_o (by omega), uI_o (by omega), f88.2 7 (by omega), uI_s]; omega
      have efr : J174 287 8 = (code.length : Int) := by rw [f174.2 8 (by omega), uI_o (by omega), f113.2 8 (by omega), uI_s, uI_o (by omega)]; exact hR88.2.2.1
      have eto : J174 287 9 = (c2.length : Int) := by rw [f174.2 9 (by omega), uI_s]; exact g4.symm
      have eo1 : J174 287 10 = I 287 10 := by rw [f174.2 10 (by omega), uI_o (by omega), f113.2 10 (by omega), uI_o (by omega), uI_o (by omega), f88.2 10 (by omega), uI_o (by omega), uI_o (by omega)]
      have eo2 : J174 287 11 = I 287 11 := by rw [f174.2 11 (by omega), uI_o (by omega), f113.2 11 (by omega), uI_o (by omega), uI_o (by omega), f88.2 11 (by omega), uI_o (by omega), uI_o (by omega)]
      refine ⟨cl ++ [(cu.2.2.1, (code.length : Int), (c2.length : Int), 0)], clc_app hC (by rw [e7, hi]) (fun k hk => by rw [e290, uI_o (by omega)]) ⟨?_, fun h => ?_, fun h => ?_⟩ ?_ ?_ ⟨?_, fun _ => ?_⟩ ?_ (by omega), hG _ ⟨?_, by show cl.length < 24; omega, Or.inl ⟨hlw, hnl, cu9, c2, by show SumG t l (decide (cu.2.2.1 = 137)) _ _ _ _ _; rw [hdc]; exact g1, g2, by rw [g3]⟩⟩⟩
      · rw [e290, hi, uI_s]; exact k1
      · exfalso; have h9 : 138 ≤ cu.2.2.1 ∨ cu.2.2.1 = 128 := h; omega
      · exfalso; have h9 : cu.2.2.1 = 138 := h; omega
      · rw [hw]; rw [efr, eto]; exact lw_new (by have := hnl; rw [← hw]; exact this) ⟨by omega, by have := ap_lt hap; omega⟩
      · rw [hw]; rw [eo1, eo2]; exact lw_keep hC.2.2.2.1 (by show (136 : Int) ≠ 137; decide)
      · show isCl cu.2.2.1; omega
      · show LawOK (decide (cu.2.2.1 = 137)) _ _ _; rw [hdc]; exact law_new hap
      · obtain ⟨v, hv, _⟩ := hap
        exact ⟨v, hv⟩
      · show isCl cu.2.2.1; omega)
 | (refine hp J174 (Frc.tr (Frc.tr (Frc.u7 (Frc.u7 (Frc.tr (Frc.u7 (Frc.u0 Frc.rf) (by omega)) (Frd.fc (Fcu.rd f88))) (by omega)) (by omega)) (Frc.u7 (Frd.fc f149) (by omega))) (Frd.fc f174)) (outT_o o174 (CB.w (CB.u hcb (q := 4 * i) (v := I 287 15) (by omega)) ?_) (fun cu2 c2 _ rd g => ?_))
    · rw [f174.1 290 (by omega) (by omega), uI_row (by omega), f149.1 290 (by omega) (by omega), uI_row (by omega), uI_row (by omega), f88.1 290 (by omega), uI_row (by omega), show ((i : Int) * 4).toNat = 4 * i by omega]
    · obtain ⟨cu9, g1, g2, g3, g4⟩ := g
      have hap : Ap true false code c2 := g1.1.1.1
      have e290 : J174 290 = uI I 290 (4 * i) (I 287 15) 290 := by rw [f174.1 290 (by omega) (by omega), uI_row (by omega), f149.1 290 (by omega) (by omega), uI_row (by omega), uI_row (by omega), f88.1 290 (by omega), uI_row (by omega), show ((i : Int) * 4).toNat = 4 * i by omega]
      have e7 : J174 287 7 = ((i + 1 : Nat) : Int) := by rw [f174.2 7 (by omega), uI_o (by omega), f149.2 7 (by omega), uI_o (by omega), uI_o (by omega), f88.2 7 (by omega), uI_s]; omega
      have efr : J174 287 10 = (code.length : Int) := by rw [f174.2 10 (by omega), uI_o (by omega), f149.2 10 (by omega), uI_s, uI_o (by omega)]; exact hR88.2.2.1
      have eto : J174 287 11 = (c2.length : Int) := by rw [f174.2 11 (by omega), uI_s]; exact g4.symm
      have eo1 : J174 287 8 = I 287 8 := by rw [f174.2 8 (by omega), uI_o (by omega), f149.2 8 (by omega), uI_o (by omega), uI_o (by omega), f88.2 8 (by omega), uI_o (by omega), uI_o (by omega)]
      have eo2 : J174 287 9 = I 287 9 := by rw [f174.2 9 (by omega), uI_o (by omega), f149.2 9 (by omega), uI_o (by omega), uI_o (by omega), f88.2 9 (by omega), uI_o (by omega), uI_o (by omega)]
      refine ⟨cl ++ [(cu.2.2.1, (code.length : Int), (c2.length : Int), 0)], clc_app hC (by rw [e7, hi]) (fun k hk => by rw [e290, uI_o (by omega)]) ⟨?_, fun h => ?_, fun h => ?_⟩ ?_ ?_ ⟨?_, fun _ => ?_⟩ ?_ (by omega), hG _ ⟨?_, by show cl.length < 24; omega, Or.inl ⟨hlw, hnl, cu9, c2, by show SumG t l (decide (cu.2.2.1 = 137)) _ _ _ _ _; rw [hdc]; exact g1, g2, by rw [g3]⟩⟩⟩
      · rw [e290, hi, uI_s]; exact k1
      · exfalso; have h9 : 138 ≤ cu.2.2.1 ∨ cu.2.2.1 = 128 := h; omega
      · exfalso; have h9 : cu.2.2.1 = 138 := h; omega
      · rw [hw]; rw [eo1, eo2]; exact lw_keep hC.2.2.1 (by show (137 : Int) ≠ 136; decide)
      · rw [hw]; rw [efr, eto]; exact lw_new (by have := hnl; rw [← hw]; exact this) ⟨by omega, by have := ap_lt hap; omega⟩
      · show isCl cu.2.2.1; omega
      · show LawOK (decide (cu.2.2.1 = 137)) _ _ _; rw [hdc]; exact law_new hap
      · obtain ⟨v, hv, _⟩ := hap
        exact ⟨v, hv⟩
      · show isCl cu.2.2.1; omega)
 | (refine hp J174 (Frc.tr (Frc.tr (Frc.tr (Frc.u7 (Frc.u0 Frc.rf) (by omega)) (Frd.fc (Fcu.rd f88))) f168) (Frd.fc f174)) (outT_o o174 (Frd.cb f174 cb168) (fun cu2 c2 _ rd g => ?_))
    obtain ⟨g1, g2, g3, g4, g5⟩ := g
    subst g1
    have e290 : J174 290 = J168 290 := f174.1 290 (by omega) (by omega)
    have e88 : J88 290 = uI I 290 (4 * i) (I 287 15) 290 := by rw [f88.1 290 (by omega), uI_row (by omega), show ((i : Int) * 4).toNat = 4 * i by omega]
    have e7 : J174 287 7 = ((i + 1 : Nat) : Int) := by rw [f174.2 7 (by omega), e168 7 (by omega), f88.2 7 (by omega), uI_s]; omega
    have eq : ∀ k, (7 < k ∧ k < 12) → J174 287 k = I 287 k := fun k hk => by rw [f174.2 k (by omega), e168 k (by omega), f88.2 k (by omega), uI_o (by omega), uI_o (by omega)]
    refine ⟨cl ++ [(cu.2.2.1, v168)], clc_app hC (by rw [e7, hi]) (fun k hk => by rw [e290, a168 k (by omega), e88, uI_o (by omega)]) ⟨?_, fun h => ?_, fun h => ?_⟩ ?_ ?_ ⟨hcl, fun h => absurd h hnlw⟩ ⟨[], by rw [List.append_nil]⟩ (by omega), hG _ ⟨hcl, by show cl.length < 24; omega, Or.inr ⟨hnlw, g2, g3, by rw [g4, ← g5]⟩⟩⟩
    · rw [e290, hi, a168 (4 * i) (by omega), e88, uI_s]; exact k1
    · rw [e290, hi, p168]
    · rw [e290, hi]; exact q168 (by have h9 : cu.2.2.1 = 138 := h; omega)
    · rw [eq 8 (by omega), eq 9 (by omega)]; exact lw_keep hC.2.2.1 (by show cu.2.2.1 ≠ 136; omega)
    · rw [eq 10 (by omega), eq 11 (by omega)]; exact lw_keep hC.2.2.2.1 (by show cu.2.2.1 ≠ 137; omega)))
                · have hw : cu.2.2.1 = 137 := by omega
                  have hlw : isLw ((cl, code, cu) : TMS).2.2.2.2.1 := by show isLw cu.2.2.1; omega
                  have hnl : ¬ hasL ((cl, code, cu) : TMS).1 ((cl, code, cu) : TMS).2.2.2.2.1 := by show ¬ hasL cl cu.2.2.1; rw [hw, lh2]; omega
                  have hdc : decide (cu.2.2.1 = 137) = true := by rw [hw]; rfl
                  refine x_aload_n dX5_readClause_134 rfl ?_
                  refine x_iconst dX5_readClause_135 ?_
                  refine x_putZ dX5_readClause_136 gf_RX5_125 (k_ob_287 cs) rfl (by omega) ?_
                  refine x_aload_n dX5_readClause_139 rfl ?_
                  refine x_aload_n dX5_readClause_140 rfl ?_
                  refine x_getI dX5_readClause_141 gf_RX5_53 (k_ob_287 cs) (fun _ _ => rfl) ?_
                  refine x_putI dX5_readClause_144 gf_RX5_65 (k_ob_287 cs) rfl ?_
                  refine x_aload_n dX5_readClause_147 rfl ?_
                  refine x_iconst dX5_readClause_148 ?_
                  refine x_callV1 (mc1 := 0) (ms1 := 0) dX5_readClause_149 cv_RX5_129 (ci := 5) (k_ob_287 cs) rfl (Nat.le_of_ble_eq_true rfl) (n1 := n - 1) (by omega) (by omega) (by omega) ?_
                  refine sum_K cs _ _ _ t l true F (fun cu1 c1 => SumG t l true 0 (adv t l cu.1) code cu1 c1) (by omega) ?_ (fun J149 f149 o149 => ?_)
                  · exact ⟨⟨tpc_fr hT88 (Foc.u7 (Foc.u7 Foc.rf (by omega)) (by omega)), by first | exact Or.inr ⟨by rw [uI_o (by omega), uI_s], rfl⟩ | exact Or.inl ⟨by rw [uI_o (by omega), uI_s], rfl⟩⟩, Or.inr ⟨by rw [uI_o (by omega), uI_o (by omega)]; exact h88, adv t l cu.1, code, rdc_fr hR88 (Foc.u7 (Foc.u7 Foc.rf (by omega)) (by omega)), fun f pl x => hF f pl (Or.inr (Or.inr (Or.inr (Or.inl ⟨hlw, hnl, by show cl.length < 24; omega, Or.inl (by show SumF t l (decide (cu.2.2.1 = 137)) _ _ _ _ _; rw [hdc]; exact x)⟩)))), fun _ _ x => x⟩⟩
                  refine x_aload_n dX5_readClause_152 rfl ?_
                  refine x_aload_n dX5_readClause_153 rfl ?_
                  refine x_getI dX5_readClause_154 gf_RX5_53 (k_ob_287 cs) (fun _ _ => rfl) ?_
                  refine x_putI dX5_readClause_157 gf_RX5_68 (k_ob_287 cs) rfl ?_
                  refine x_goto 171 dX5_readClause_160 (by decide) ?_
                  refine x_aload_n dX5_readClause_171 rfl ?_
                  refine x_bipush dX5_readClause_172 (by decide) ?_
                  refine x_callV1 (mc1 := 0) (ms1 := 0) dX5_readClause_174 cv_RX5_136 (ci := 5) (k_ob_287 cs) rfl (Nat.le_of_ble_eq_true rfl) (n1 := n - 1) (by omega) (by omega) (by omega) ?_
                  have q174 : OutC _ t l true F (fun cu1 c1 => (cu1.2.2.1 ≠ 59 → F 1 cu1.2.1) ∧ (cu1.2.2.1 = 59 → ∃ cu9, SumG t l true 0 (adv t l cu.1) code cu9 c1 ∧ cu9.2.2.1 = 59 ∧ adv t l cu1.1 = adv t l cu9.1 ∧ (c1.length : Int) = J149 287 6)) := out_fr (out_imp2 o149 (fun cu1 c1 rd _ g => ⟨fun hk => hF 1 _ (Or.inr (Or.inr (Or.inr (Or.inl ⟨hlw, hnl, by show cl.length < 24; omega, Or.inr ⟨cu1, c1, by show SumG t l (decide (cu.2.2.1 = 137)) _ _ _ _ _; rw [hdc]; exact g, hk, rfl, rfl⟩⟩)))), fun hk => ⟨cu1, g, hk, rfl, rd.2.2.1.symm⟩⟩)) (Foc.u7 (q := 11) (v := J149 287 6) Foc.rf (by omega)) (by rw [uI_o (by omega)]; exact o149.1.2)
                  refine sp_X5_expect (sl := true) (F := F) (G := fun cu2 c2 => ∃ cu9, SumG t l true 0 (adv t l cu.1) code cu9 c2 ∧ cu9.2.2.1 = 59 ∧ cu2 = adv t l cu9.1 ∧ (c2.length : Int) = J149 287 6) cs (by omega) (by omega) q174 (fun J174 f174 o174 => ?_)
                  exact x_return dX5_readClause_177 rfl (by omega) (by omega) (by first
 | exact hp _ (Frd.fc f14) (outT_f o14 (Frd.cb f14 hcb))
 | exact hp _ (Frd.fc f50) (outT_f o50 (Frd.cb f50 hcb))
 | exact hp _ (Frd.fc f65) (outT_f o65 (Frd.cb f65 hcb))
 | (refine hp J174 (Frc.tr (Frc.tr (Frc.u7 (Frc.u7 (Frc.tr (Frc.u7 (Frc.u0 Frc.rf) (by omega)) (Frd.fc (Fcu.rd f88))) (by omega)) (by omega)) (Frc.u7 (Frd.fc f113) (by omega))) (Frd.fc f174)) (outT_o o174 (CB.w (CB.u hcb (q := 4 * i) (v := I 287 15) (by omega)) ?_) (fun cu2 c2 _ rd g => ?_))
    · rw [f174.1 290 (by omega) (by omega), uI_row (by omega), f113.1 290 (by omega) (by omega), uI_row (by omega), uI_row (by omega), f88.1 290 (by omega), uI_row (by omega), show ((i : Int) * 4).toNat = 4 * i by omega]
    · obtain ⟨cu9, g1, g2, g3, g4⟩ := g
      have hap : Ap false false code c2 := g1.1.1.1
      have e290 : J174 290 = uI I 290 (4 * i) (I 287 15) 290 := by rw [f174.1 290 (by omega) (by omega), uI_row (by omega), f113.1 290 (by omega) (by omega), uI_row (by omega), uI_row (by omega), f88.1 290 (by omega), uI_row (by omega), show ((i : Int) * 4).toNat = 4 * i by omega]
      have e7 : J174 287 7 = ((i + 1 : Nat) : Int) := by rw [f174.2 7 (by omega), uI_o (by omega), f113.2 7 (by omega), uI_o (by omega), uI_o (by omega), f88.2 7 (by omega), uI_s]; omega
      have efr : J174 287 8 = (code.length : Int) := by rw [f174.2 8 (by omega), uI_o (by omega), f113.2 8 (by omega), uI_s, uI_o (by omega)]; exact hR88.2.2.1
      have eto : J174 287 9 = (c2.length : Int) := by rw [f174.2 9 (by omega), uI_s]; exact g4.symm
      have eo1 : J174 287 10 = I 287 10 := by rw [f174.2 10 (by omega), uI_o (by omega), f113.2 10 (by omega), uI_o (by omega), uI_o (by omega), f88.2 10 (by omega), uI_o (by omega), uI_o (by omega)]
      have eo2 : J174 287 11 = I 287 11 := by rw [f174.2 11 (by omega), uI_o (by omega), f113.2 11 (by omega), uI_o (by omega), uI_o (by omega), f88.2 11 (by omega), uI_o (by omega), uI_o (by omega)]
      refine ⟨cl ++ [(cu.2.2.1, (code.length : Int), (c2.length : Int), 0)], clc_app hC (by rw [e7, hi]) (fun k hk => by rw [e290, uI_o (by omega)]) ⟨?_, fun h => ?_, fun h => ?_⟩ ?_ ?_ ⟨?_, fun _ => ?_⟩ ?_ (by omega), hG _ ⟨?_, by show cl.length < 24; omega, Or.inl ⟨hlw, hnl, cu9, c2, by show SumG t l (decide (cu.2.2.1 = 137)) _ _ _ _ _; rw [hdc]; exact g1, g2, by rw [g3]⟩⟩⟩
      · rw [e290, hi, uI_s]; exact k1
      · exfalso; have h9 : 138 ≤ cu.2.2.1 ∨ cu.2.2.1 = 128 := h; omega
      · exfalso; have h9 : cu.2.2.1 = 138 := h; omega
      · rw [hw]; rw [efr, eto]; exact lw_new (by have := hnl; rw [← hw]; exact this) ⟨by omega, by have := ap_lt hap; omega⟩
      · rw [hw]; rw [eo1, eo2]; exact lw_keep hC.2.2.2.1 (by show (136 : Int) ≠ 137; decide)
      · show isCl cu.2.2.1; omega
      · show LawOK (decide (cu.2.2.1 = 137)) _ _ _; rw [hdc]; exact law_new hap
      · obtain ⟨v, hv, _⟩ := hap
        exact ⟨v, hv⟩
      · show isCl cu.2.2.1; omega)
 | (refine hp J174 (Frc.tr (Frc.tr (Frc.u7 (Frc.u7 (Frc.tr (Frc.u7 (Frc.u0 Frc.rf) (by omega)) (Frd.fc (Fcu.rd f88))) (by omega)) (by omega)) (Frc.u7 (Frd.fc f149) (by omega))) (Frd.fc f174)) (outT_o o174 (CB.w (CB.u hcb (q := 4 * i) (v := I 287 15) (by omega)) ?_) (fun cu2 c2 _ rd g => ?_))
    · rw [f174.1 290 (by omega) (by omega), uI_row (by omega), f149.1 290 (by omega) (by omega), uI_row (by omega), uI_row (by omega), f88.1 290 (by omega), uI_row (by omega), show ((i : Int) * 4).toNat = 4 * i by omega]
    · obtain ⟨cu9, g1, g2, g3, g4⟩ := g
      have hap : Ap true false code c2 := g1.1.1.1
      have e290 : J174 290 = uI I 290 (4 * i) (I 287 15) 290 := by rw [f174.1 290 (by omega) (by omega), uI_row (by omega), f149.1 290 (by omega) (by omega), uI_row (by omega), uI_row (by omega), f88.1 290 (by omega), uI_row (by omega), show ((i : Int) * 4).toNat = 4 * i by omega]
      have e7 : J174 287 7 = ((i + 1 : Nat) : Int) := by rw [f174.2 7 (by omega), uI_o (by omega), f149.2 7 (by omega), uI_o (by omega), uI_o (by omega), f88.2 7 (by omega), uI_s]; omega
      have efr : J174 287 10 = (code.length : Int) := by rw [f174.2 10 (by omega), uI_o (by omega), f149.2 10 (by omega), uI_s, uI_o (by omega)]; exact hR88.2.2.1
      have eto : J174 287 11 = (c2.length : Int) := by rw [f174.2 11 (by omega), uI_s]; exact g4.symm
      have eo1 : J174 287 8 = I 287 8 := by rw [f174.2 8 (by omega), uI_o (by omega), f149.2 8 (by omega), uI_o (by omega), uI_o (by omega), f88.2 8 (by omega), uI_o (by omega), uI_o (by omega)]
      have eo2 : J174 287 9 = I 287 9 := by rw [f174.2 9 (by omega), uI_o (by omega), f149.2 9 (by omega), uI_o (by omega), uI_o (by omega), f88.2 9 (by omega), uI_o (by omega), uI_o (by omega)]
      refine ⟨cl ++ [(cu.2.2.1, (code.length : Int), (c2.length : Int), 0)], clc_app hC (by rw [e7, hi]) (fun k hk => by rw [e290, uI_o (by omega)]) ⟨?_, fun h => ?_, fun h => ?_⟩ ?_ ?_ ⟨?_, fun _ => ?_⟩ ?_ (by omega), hG _ ⟨?_, by show cl.length < 24; omega, Or.inl ⟨hlw, hnl, cu9, c2, by show SumG t l (decide (cu.2.2.1 = 137)) _ _ _ _ _; rw [hdc]; exact g1, g2, by rw [g3]⟩⟩⟩
      · rw [e290, hi, uI_s]; exact k1
      · exfalso; have h9 : 138 ≤ cu.2.2.1 ∨ cu.2.2.1 = 128 := h; omega
      · exfalso; have h9 : cu.2.2.1 = 138 := h; omega
      · rw [hw]; rw [eo1, eo2]; exact lw_keep hC.2.2.1 (by show (137 : Int) ≠ 136; decide)
      · rw [hw]; rw [efr, eto]; exact lw_new (by have := hnl; rw [← hw]; exact this) ⟨by omega, by have := ap_lt hap; omega⟩
      · show isCl cu.2.2.1; omega
      · show LawOK (decide (cu.2.2.1 = 137)) _ _ _; rw [hdc]; exact law_new hap
      · obtain ⟨v, hv, _⟩ := hap
        exact ⟨v, hv⟩
      · show isCl cu.2.2.1; omega)
 | (refine hp J174 (Frc.tr (Frc.tr (Frc.tr (Frc.u7 (Frc.u0 Frc.rf) (by omega)) (Frd.fc (Fcu.rd f88))) f168) (Frd.fc f174)) (outT_o o174 (Frd.cb f174 cb168) (fun cu2 c2 _ rd g => ?_))
    obtain ⟨g1, g2, g3, g4, g5⟩ := g
    subst g1
    have e290 : J174 290 = J168 290 := f174.1 290 (by omega) (by omega)
    have e88 : J88 290 = uI I 290 (4 * i) (I 287 15) 290 := by rw [f88.1 290 (by omega), uI_row (by omega), show ((i : Int) * 4).toNat = 4 * i by omega]
    have e7 : J174 287 7 = ((i + 1 : Nat) : Int) := by rw [f174.2 7 (by omega), e168 7 (by omega), f88.2 7 (by omega), uI_s]; omega
    have eq : ∀ k, (7 < k ∧ k < 12) → J174 287 k = I 287 k := fun k hk => by rw [f174.2 k (by omega), e168 k (by omega), f88.2 k (by omega), uI_o (by omega), uI_o (by omega)]
    refine ⟨cl ++ [(cu.2.2.1, v168)], clc_app hC (by rw [e7, hi]) (fun k hk => by rw [e290, a168 k (by omega), e88, uI_o (by omega)]) ⟨?_, fun h => ?_, fun h => ?_⟩ ?_ ?_ ⟨hcl, fun h => absurd h hnlw⟩ ⟨[], by rw [List.append_nil]⟩ (by omega), hG _ ⟨hcl, by show cl.length < 24; omega, Or.inr ⟨hnlw, g2, g3, by rw [g4, ← g5]⟩⟩⟩
    · rw [e290, hi, a168 (4 * i) (by omega), e88, uI_s]; exact k1
    · rw [e290, hi, p168]
    · rw [e290, hi]; exact q168 (by have h9 : cu.2.2.1 = 138 := h; omega)
    · rw [eq 8 (by omega), eq 9 (by omega)]; exact lw_keep hC.2.2.1 (by show cu.2.2.1 ≠ 136; omega)
    · rw [eq 10 (by omega), eq 11 (by omega)]; exact lw_keep hC.2.2.2.1 (by show cu.2.2.1 ≠ 137; omega)))
              · have hw : cu.2.2.1 = 136 := by omega
                have hlw : isLw ((cl, code, cu) : TMS).2.2.2.2.1 := by show isLw cu.2.2.1; omega
                have hnl : ¬ hasL ((cl, code, cu) : TMS).1 ((cl, code, cu) : TMS).2.2.2.2.1 := by show ¬ hasL cl cu.2.2.1; rw [hw, lh1]; omega
                have hdc : decide (cu.2.2.1 = 137) = false := by rw [hw]; rfl
                refine x_aload_n dX5_readClause_98 rfl ?_
                refine x_iconst dX5_readClause_99 ?_
                refine x_putZ dX5_readClause_100 gf_RX5_125 (k_ob_287 cs) rfl (by omega) ?_
                refine x_aload_n dX5_readClause_103 rfl ?_
                refine x_aload_n dX5_readClause_104 rfl ?_
                refine x_getI dX5_readClause_105 gf_RX5_53 (k_ob_287 cs) (fun _ _ => rfl) ?_
                refine x_putI dX5_readClause_108 gf_RX5_59 (k_ob_287 cs) rfl ?_
                refine x_aload_n dX5_readClause_111 rfl ?_
                refine x_iconst dX5_readClause_112 ?_
                refine x_callV1 (mc1 := 0) (ms1 := 0) dX5_readClause_113 cv_RX5_129 (ci := 5) (k_ob_287 cs) rfl (Nat.le_of_ble_eq_true rfl) (n1 := n - 1) (by omega) (by omega) (by omega) ?_
                refine sum_K cs _ _ _ t l false F (fun cu1 c1 => SumG t l false 0 (adv t l cu.1) code cu1 c1) (by omega) ?_ (fun J113 f113 o113 => ?_)
                · exact ⟨⟨tpc_fr hT88 (Foc.u7 (Foc.u7 Foc.rf (by omega)) (by omega)), by first | exact Or.inr ⟨by rw [uI_o (by omega), uI_s], rfl⟩ | exact Or.inl ⟨by rw [uI_o (by omega), uI_s], rfl⟩⟩, Or.inr ⟨by rw [uI_o (by omega), uI_o (by omega)]; exact h88, adv t l cu.1, code, rdc_fr hR88 (Foc.u7 (Foc.u7 Foc.rf (by omega)) (by omega)), fun f pl x => hF f pl (Or.inr (Or.inr (Or.inr (Or.inl ⟨hlw, hnl, by show cl.length < 24; omega, Or.inl (by show SumF t l (decide (cu.2.2.1 = 137)) _ _ _ _ _; rw [hdc]; exact x)⟩)))), fun _ _ x => x⟩⟩
                refine x_aload_n dX5_readClause_116 rfl ?_
                refine x_aload_n dX5_readClause_117 rfl ?_
                refine x_getI dX5_readClause_118 gf_RX5_53 (k_ob_287 cs) (fun _ _ => rfl) ?_
                refine x_putI dX5_readClause_121 gf_RX5_62 (k_ob_287 cs) rfl ?_
                refine x_goto 171 dX5_readClause_124 (by decide) ?_
                refine x_aload_n dX5_readClause_171 rfl ?_
                refine x_bipush dX5_readClause_172 (by decide) ?_
                refine x_callV1 (mc1 := 0) (ms1 := 0) dX5_readClause_174 cv_RX5_136 (ci := 5) (k_ob_287 cs) rfl (Nat.le_of_ble_eq_true rfl) (n1 := n - 1) (by omega) (by omega) (by omega) ?_
                have q174 : OutC _ t l false F (fun cu1 c1 => (cu1.2.2.1 ≠ 59 → F 1 cu1.2.1) ∧ (cu1.2.2.1 = 59 → ∃ cu9, SumG t l false 0 (adv t l cu.1) code cu9 c1 ∧ cu9.2.2.1 = 59 ∧ adv t l cu1.1 = adv t l cu9.1 ∧ (c1.length : Int) = J113 287 6)) := out_fr (out_imp2 o113 (fun cu1 c1 rd _ g => ⟨fun hk => hF 1 _ (Or.inr (Or.inr (Or.inr (Or.inl ⟨hlw, hnl, by show cl.length < 24; omega, Or.inr ⟨cu1, c1, by show SumG t l (decide (cu.2.2.1 = 137)) _ _ _ _ _; rw [hdc]; exact g, hk, rfl, rfl⟩⟩)))), fun hk => ⟨cu1, g, hk, rfl, rd.2.2.1.symm⟩⟩)) (Foc.u7 (q := 9) (v := J113 287 6) Foc.rf (by omega)) (by rw [uI_o (by omega)]; exact o113.1.2)
                refine sp_X5_expect (sl := false) (F := F) (G := fun cu2 c2 => ∃ cu9, SumG t l false 0 (adv t l cu.1) code cu9 c2 ∧ cu9.2.2.1 = 59 ∧ cu2 = adv t l cu9.1 ∧ (c2.length : Int) = J113 287 6) cs (by omega) (by omega) q174 (fun J174 f174 o174 => ?_)
                exact x_return dX5_readClause_177 rfl (by omega) (by omega) (by first
 | exact hp _ (Frd.fc f14) (outT_f o14 (Frd.cb f14 hcb))
 | exact hp _ (Frd.fc f50) (outT_f o50 (Frd.cb f50 hcb))
 | exact hp _ (Frd.fc f65) (outT_f o65 (Frd.cb f65 hcb))
 | (refine hp J174 (Frc.tr (Frc.tr (Frc.u7 (Frc.u7 (Frc.tr (Frc.u7 (Frc.u0 Frc.rf) (by omega)) (Frd.fc (Fcu.rd f88))) (by omega)) (by omega)) (Frc.u7 (Frd.fc f113) (by omega))) (Frd.fc f174)) (outT_o o174 (CB.w (CB.u hcb (q := 4 * i) (v := I 287 15) (by omega)) ?_) (fun cu2 c2 _ rd g => ?_))
    · rw [f174.1 290 (by omega) (by omega), uI_row (by omega), f113.1 290 (by omega) (by omega), uI_row (by omega), uI_row (by omega), f88.1 290 (by omega), uI_row (by omega), show ((i : Int) * 4).toNat = 4 * i by omega]
    · obtain ⟨cu9, g1, g2, g3, g4⟩ := g
      have hap : Ap false false code c2 := g1.1.1.1
      have e290 : J174 290 = uI I 290 (4 * i) (I 287 15) 290 := by rw [f174.1 290 (by omega) (by omega), uI_row (by omega), f113.1 290 (by omega) (by omega), uI_row (by omega), uI_row (by omega), f88.1 290 (by omega), uI_row (by omega), show ((i : Int) * 4).toNat = 4 * i by omega]
      have e7 : J174 287 7 = ((i + 1 : Nat) : Int) := by rw [f174.2 7 (by omega), uI_o (by omega), f113.2 7 (by omega), uI_o (by omega), uI_o (by omega), f88.2 7 (by omega), uI_s]; omega
      have efr : J174 287 8 = (code.length : Int) := by rw [f174.2 8 (by omega), uI_o (by omega), f113.2 8 (by omega), uI_s, uI_o (by omega)]; exact hR88.2.2.1
      have eto : J174 287 9 = (c2.length : Int) := by rw [f174.2 9 (by omega), uI_s]; exact g4.symm
      have eo1 : J174 287 10 = I 287 10 := by rw [f174.2 10 (by omega), uI_o (by omega), f113.2 10 (by omega), uI_o (by omega), uI_o (by omega), f88.2 10 (by omega), uI_o (by omega), uI_o (by omega)]
      have eo2 : J174 287 11 = I 287 11 := by rw [f174.2 11 (by omega), uI_o (by omega), f113.2 11 (by omega), uI_o (by omega), uI_o (by omega), f88.2 11 (by omega), uI_o (by omega), uI_o (by omega)]
      refine ⟨cl ++ [(cu.2.2.1, (code.length : Int), (c2.length : Int), 0)], clc_app hC (by rw [e7, hi]) (fun k hk => by rw [e290, uI_o (by omega)]) ⟨?_, fun h => ?_, fun h => ?_⟩ ?_ ?_ ⟨?_, fun _ => ?_⟩ ?_ (by omega), hG _ ⟨?_, by show cl.length < 24; omega, Or.inl ⟨hlw, hnl, cu9, c2, by show SumG t l (decide (cu.2.2.1 = 137)) _ _ _ _ _; rw [hdc]; exact g1, g2, by rw [g3]⟩⟩⟩
      · rw [e290, hi, uI_s]; exact k1
      · exfalso; have h9 : 138 ≤ cu.2.2.1 ∨ cu.2.2.1 = 128 := h; omega
      · exfalso; have h9 : cu.2.2.1 = 138 := h; omega
      · rw [hw]; rw [efr, eto]; exact lw_new (by have := hnl; rw [← hw]; exact this) ⟨by omega, by have := ap_lt hap; omega⟩
      · rw [hw]; rw [eo1, eo2]; exact lw_keep hC.2.2.2.1 (by show (136 : Int) ≠ 137; decide)
      · show isCl cu.2.2.1; omega
      · show LawOK (decide (cu.2.2.1 = 137)) _ _ _; rw [hdc]; exact law_new hap
      · obtain ⟨v, hv, _⟩ := hap
        exact ⟨v, hv⟩
      · show isCl cu.2.2.1; omega)
 | (refine hp J174 (Frc.tr (Frc.tr (Frc.u7 (Frc.u7 (Frc.tr (Frc.u7 (Frc.u0 Frc.rf) (by omega)) (Frd.fc (Fcu.rd f88))) (by omega)) (by omega)) (Frc.u7 (Frd.fc f149) (by omega))) (Frd.fc f174)) (outT_o o174 (CB.w (CB.u hcb (q := 4 * i) (v := I 287 15) (by omega)) ?_) (fun cu2 c2 _ rd g => ?_))
    · rw [f174.1 290 (by omega) (by omega), uI_row (by omega), f149.1 290 (by omega) (by omega), uI_row (by omega), uI_row (by omega), f88.1 290 (by omega), uI_row (by omega), show ((i : Int) * 4).toNat = 4 * i by omega]
    · obtain ⟨cu9, g1, g2, g3, g4⟩ := g
      have hap : Ap true false code c2 := g1.1.1.1
      have e290 : J174 290 = uI I 290 (4 * i) (I 287 15) 290 := by rw [f174.1 290 (by omega) (by omega), uI_row (by omega), f149.1 290 (by omega) (by omega), uI_row (by omega), uI_row (by omega), f88.1 290 (by omega), uI_row (by omega), show ((i : Int) * 4).toNat = 4 * i by omega]
      have e7 : J174 287 7 = ((i + 1 : Nat) : Int) := by rw [f174.2 7 (by omega), uI_o (by omega), f149.2 7 (by omega), uI_o (by omega), uI_o (by omega), f88.2 7 (by omega), uI_s]; omega
      have efr : J174 287 10 = (code.length : Int) := by rw [f174.2 10 (by omega), uI_o (by omega), f149.2 10 (by omega), uI_s, uI_o (by omega)]; exact hR88.2.2.1
      have eto : J174 287 11 = (c2.length : Int) := by rw [f174.2 11 (by omega), uI_s]; exact g4.symm
      have eo1 : J174 287 8 = I 287 8 := by rw [f174.2 8 (by omega), uI_o (by omega), f149.2 8 (by omega), uI_o (by omega), uI_o (by omega), f88.2 8 (by omega), uI_o (by omega), uI_o (by omega)]
      have eo2 : J174 287 9 = I 287 9 := by rw [f174.2 9 (by omega), uI_o (by omega), f149.2 9 (by omega), uI_o (by omega), uI_o (by omega), f88.2 9 (by omega), uI_o (by omega), uI_o (by omega)]
      refine ⟨cl ++ [(cu.2.2.1, (code.length : Int), (c2.length : Int), 0)], clc_app hC (by rw [e7, hi]) (fun k hk => by rw [e290, uI_o (by omega)]) ⟨?_, fun h => ?_, fun h => ?_⟩ ?_ ?_ ⟨?_, fun _ => ?_⟩ ?_ (by omega), hG _ ⟨?_, by show cl.length < 24; omega, Or.inl ⟨hlw, hnl, cu9, c2, by show SumG t l (decide (cu.2.2.1 = 137)) _ _ _ _ _; rw [hdc]; exact g1, g2, by rw [g3]⟩⟩⟩
      · rw [e290, hi, uI_s]; exact k1
      · exfalso; have h9 : 138 ≤ cu.2.2.1 ∨ cu.2.2.1 = 128 := h; omega
      · exfalso; have h9 : cu.2.2.1 = 138 := h; omega
      · rw [hw]; rw [eo1, eo2]; exact lw_keep hC.2.2.1 (by show (137 : Int) ≠ 136; decide)
      · rw [hw]; rw [efr, eto]; exact lw_new (by have := hnl; rw [← hw]; exact this) ⟨by omega, by have := ap_lt hap; omega⟩
      · show isCl cu.2.2.1; omega
      · show LawOK (decide (cu.2.2.1 = 137)) _ _ _; rw [hdc]; exact law_new hap
      · obtain ⟨v, hv, _⟩ := hap
        exact ⟨v, hv⟩
      · show isCl cu.2.2.1; omega)
 | (refine hp J174 (Frc.tr (Frc.tr (Frc.tr (Frc.u7 (Frc.u0 Frc.rf) (by omega)) (Frd.fc (Fcu.rd f88))) f168) (Frd.fc f174)) (outT_o o174 (Frd.cb f174 cb168) (fun cu2 c2 _ rd g => ?_))
    obtain ⟨g1, g2, g3, g4, g5⟩ := g
    subst g1
    have e290 : J174 290 = J168 290 := f174.1 290 (by omega) (by omega)
    have e88 : J88 290 = uI I 290 (4 * i) (I 287 15) 290 := by rw [f88.1 290 (by omega), uI_row (by omega), show ((i : Int) * 4).toNat = 4 * i by omega]
    have e7 : J174 287 7 = ((i + 1 : Nat) : Int) := by rw [f174.2 7 (by omega), e168 7 (by omega), f88.2 7 (by omega), uI_s]; omega
    have eq : ∀ k, (7 < k ∧ k < 12) → J174 287 k = I 287 k := fun k hk => by rw [f174.2 k (by omega), e168 k (by omega), f88.2 k (by omega), uI_o (by omega), uI_o (by omega)]
    refine ⟨cl ++ [(cu.2.2.1, v168)], clc_app hC (by rw [e7, hi]) (fun k hk => by rw [e290, a168 k (by omega), e88, uI_o (by omega)]) ⟨?_, fun h => ?_, fun h => ?_⟩ ?_ ?_ ⟨hcl, fun h => absurd h hnlw⟩ ⟨[], by rw [List.append_nil]⟩ (by omega), hG _ ⟨hcl, by show cl.length < 24; omega, Or.inr ⟨hnlw, g2, g3, by rw [g4, ← g5]⟩⟩⟩
    · rw [e290, hi, a168 (4 * i) (by omega), e88, uI_s]; exact k1
    · rw [e290, hi, p168]
    · rw [e290, hi]; exact q168 (by have h9 : cu.2.2.1 = 138 := h; omega)
    · rw [eq 8 (by omega), eq 9 (by omega)]; exact lw_keep hC.2.2.1 (by show cu.2.2.1 ≠ 136; omega)
    · rw [eq 10 (by omega), eq 11 (by omega)]; exact lw_keep hC.2.2.2.1 (by show cu.2.2.1 ≠ 137; omega)))
            · refine x_aload_n dX5_readClause_62 rfl ?_
              refine x_bipush dX5_readClause_63 (by decide) ?_
              refine x_callV1 (mc1 := 0) (ms1 := 0) dX5_readClause_65 cv_RX5_122 (ci := 5) (k_ob_287 cs) rfl (Nat.le_of_ble_eq_true rfl) (n1 := n - 1) (by omega) (by omega) (by omega) ?_
              refine sp_X5_refuse (G := fun _ _ => False) cs (by omega) (by omega) (hRf 6 (hF _ _ (Or.inr (Or.inr (Or.inl ⟨by show isCl cu.2.2.1; omega, by show ¬ (isLw cu.2.2.1 ∧ hasL cl cu.2.2.1); rintro ⟨h1, h2⟩; rcases h1 with h1 | h1 <;> rw [h1] at h2 <;> first | (rw [lh1] at h2; omega) | (rw [lh2] at h2; omega), by show cl.length = 24; omega, rfl, rfl⟩))))) (fun J65 f65 o65 => ?_)
              refine x_goto 177 dX5_readClause_68 (by decide) ?_
              exact x_return dX5_readClause_177 rfl (by omega) (by omega) (by first
 | exact hp _ (Frd.fc f14) (outT_f o14 (Frd.cb f14 hcb))
 | exact hp _ (Frd.fc f50) (outT_f o50 (Frd.cb f50 hcb))
 | exact hp _ (Frd.fc f65) (outT_f o65 (Frd.cb f65 hcb))
 | (refine hp J174 (Frc.tr (Frc.tr (Frc.u7 (Frc.u7 (Frc.tr (Frc.u7 (Frc.u0 Frc.rf) (by omega)) (Frd.fc (Fcu.rd f88))) (by omega)) (by omega)) (Frc.u7 (Frd.fc f113) (by omega))) (Frd.fc f174)) (outT_o o174 (CB.w (CB.u hcb (q := 4 * i) (v := I 287 15) (by omega)) ?_) (fun cu2 c2 _ rd g => ?_))
    · rw [f174.1 290 (by omega) (by omega), uI_row (by omega), f113.1 290 (by omega) (by omega), uI_row (by omega), uI_row (by omega), f88.1 290 (by omega), uI_row (by omega), show ((i : Int) * 4).toNat = 4 * i by omega]
    · obtain ⟨cu9, g1, g2, g3, g4⟩ := g
      have hap : Ap false false code c2 := g1.1.1.1
      have e290 : J174 290 = uI I 290 (4 * i) (I 287 15) 290 := by rw [f174.1 290 (by omega) (by omega), uI_row (by omega), f113.1 290 (by omega) (by omega), uI_row (by omega), uI_row (by omega), f88.1 290 (by omega), uI_row (by omega), show ((i : Int) * 4).toNat = 4 * i by omega]
      have e7 : J174 287 7 = ((i + 1 : Nat) : Int) := by rw [f174.2 7 (by omega), uI_o (by omega), f113.2 7 (by omega), uI_o (by omega), uI_o (by omega), f88.2 7 (by omega), uI_s]; omega
      have efr : J174 287 8 = (code.length : Int) := by rw [f174.2 8 (by omega), uI_o (by omega), f113.2 8 (by omega), uI_s, uI_o (by omega)]; exact hR88.2.2.1
      have eto : J174 287 9 = (c2.length : Int) := by rw [f174.2 9 (by omega), uI_s]; exact g4.symm
      have eo1 : J174 287 10 = I 287 10 := by rw [f174.2 10 (by omega), uI_o (by omega), f113.2 10 (by omega), uI_o (by omega), uI_o (by omega), f88.2 10 (by omega), uI_o (by omega), uI_o (by omega)]
      have eo2 : J174 287 11 = I 287 11 := by rw [f174.2 11 (by omega), uI_o (by omega), f113.2 11 (by omega), uI_o (by omega), uI_o (by omega), f88.2 11 (by omega), uI_o (by omega), uI_o (by omega)]
      refine ⟨cl ++ [(cu.2.2.1, (code.length : Int), (c2.length : Int), 0)], clc_app hC (by rw [e7, hi]) (fun k hk => by rw [e290, uI_o (by omega)]) ⟨?_, fun h => ?_, fun h => ?_⟩ ?_ ?_ ⟨?_, fun _ => ?_⟩ ?_ (by omega), hG _ ⟨?_, by show cl.length < 24; omega, Or.inl ⟨hlw, hnl, cu9, c2, by show SumG t l (decide (cu.2.2.1 = 137)) _ _ _ _ _; rw [hdc]; exact g1, g2, by rw [g3]⟩⟩⟩
      · rw [e290, hi, uI_s]; exact k1
      · exfalso; have h9 : 138 ≤ cu.2.2.1 ∨ cu.2.2.1 = 128 := h; omega
      · exfalso; have h9 : cu.2.2.1 = 138 := h; omega
      · rw [hw]; rw [efr, eto]; exact lw_new (by have := hnl; rw [← hw]; exact this) ⟨by omega, by have := ap_lt hap; omega⟩
      · rw [hw]; rw [eo1, eo2]; exact lw_keep hC.2.2.2.1 (by show (136 : Int) ≠ 137; decide)
      · show isCl cu.2.2.1; omega
      · show LawOK (decide (cu.2.2.1 = 137)) _ _ _; rw [hdc]; exact law_new hap
      · obtain ⟨v, hv, _⟩ := hap
        exact ⟨v, hv⟩
      · show isCl cu.2.2.1; omega)
 | (refine hp J174 (Frc.tr (Frc.tr (Frc.u7 (Frc.u7 (Frc.tr (Frc.u7 (Frc.u0 Frc.rf) (by omega)) (Frd.fc (Fcu.rd f88))) (by omega)) (by omega)) (Frc.u7 (Frd.fc f149) (by omega))) (Frd.fc f174)) (outT_o o174 (CB.w (CB.u hcb (q := 4 * i) (v := I 287 15) (by omega)) ?_) (fun cu2 c2 _ rd g => ?_))
    · rw [f174.1 290 (by omega) (by omega), uI_row (by omega), f149.1 290 (by omega) (by omega), uI_row (by omega), uI_row (by omega), f88.1 290 (by omega), uI_row (by omega), show ((i : Int) * 4).toNat = 4 * i by omega]
    · obtain ⟨cu9, g1, g2, g3, g4⟩ := g
      have hap : Ap true false code c2 := g1.1.1.1
      have e290 : J174 290 = uI I 290 (4 * i) (I 287 15) 290 := by rw [f174.1 290 (by omega) (by omega), uI_row (by omega), f149.1 290 (by omega) (by omega), uI_row (by omega), uI_row (by omega), f88.1 290 (by omega), uI_row (by omega), show ((i : Int) * 4).toNat = 4 * i by omega]
      have e7 : J174 287 7 = ((i + 1 : Nat) : Int) := by rw [f174.2 7 (by omega), uI_o (by omega), f149.2 7 (by omega), uI_o (by omega), uI_o (by omega), f88.2 7 (by omega), uI_s]; omega
      have efr : J174 287 10 = (code.length : Int) := by rw [f174.2 10 (by omega), uI_o (by omega), f149.2 10 (by omega), uI_s, uI_o (by omega)]; exact hR88.2.2.1
      have eto : J174 287 11 = (c2.length : Int) := by rw [f174.2 11 (by omega), uI_s]; exact g4.symm
      have eo1 : J174 287 8 = I 287 8 := by rw [f174.2 8 (by omega), uI_o (by omega), f149.2 8 (by omega), uI_o (by omega), uI_o (by omega), f88.2 8 (by omega), uI_o (by omega), uI_o (by omega)]
      have eo2 : J174 287 9 = I 287 9 := by rw [f174.2 9 (by omega), uI_o (by omega), f149.2 9 (by omega), uI_o (by omega), uI_o (by omega), f88.2 9 (by omega), uI_o (by omega), uI_o (by omega)]
      refine ⟨cl ++ [(cu.2.2.1, (code.length : Int), (c2.length : Int), 0)], clc_app hC (by rw [e7, hi]) (fun k hk => by rw [e290, uI_o (by omega)]) ⟨?_, fun h => ?_, fun h => ?_⟩ ?_ ?_ ⟨?_, fun _ => ?_⟩ ?_ (by omega), hG _ ⟨?_, by show cl.length < 24; omega, Or.inl ⟨hlw, hnl, cu9, c2, by show SumG t l (decide (cu.2.2.1 = 137)) _ _ _ _ _; rw [hdc]; exact g1, g2, by rw [g3]⟩⟩⟩
      · rw [e290, hi, uI_s]; exact k1
      · exfalso; have h9 : 138 ≤ cu.2.2.1 ∨ cu.2.2.1 = 128 := h; omega
      · exfalso; have h9 : cu.2.2.1 = 138 := h; omega
      · rw [hw]; rw [eo1, eo2]; exact lw_keep hC.2.2.1 (by show (137 : Int) ≠ 136; decide)
      · rw [hw]; rw [efr, eto]; exact lw_new (by have := hnl; rw [← hw]; exact this) ⟨by omega, by have := ap_lt hap; omega⟩
      · show isCl cu.2.2.1; omega
      · show LawOK (decide (cu.2.2.1 = 137)) _ _ _; rw [hdc]; exact law_new hap
      · obtain ⟨v, hv, _⟩ := hap
        exact ⟨v, hv⟩
      · show isCl cu.2.2.1; omega)
 | (refine hp J174 (Frc.tr (Frc.tr (Frc.tr (Frc.u7 (Frc.u0 Frc.rf) (by omega)) (Frd.fc (Fcu.rd f88))) f168) (Frd.fc f174)) (outT_o o174 (Frd.cb f174 cb168) (fun cu2 c2 _ rd g => ?_))
    obtain ⟨g1, g2, g3, g4, g5⟩ := g
    subst g1
    have e290 : J174 290 = J168 290 := f174.1 290 (by omega) (by omega)
    have e88 : J88 290 = uI I 290 (4 * i) (I 287 15) 290 := by rw [f88.1 290 (by omega), uI_row (by omega), show ((i : Int) * 4).toNat = 4 * i by omega]
    have e7 : J174 287 7 = ((i + 1 : Nat) : Int) := by rw [f174.2 7 (by omega), e168 7 (by omega), f88.2 7 (by omega), uI_s]; omega
    have eq : ∀ k, (7 < k ∧ k < 12) → J174 287 k = I 287 k := fun k hk => by rw [f174.2 k (by omega), e168 k (by omega), f88.2 k (by omega), uI_o (by omega), uI_o (by omega)]
    refine ⟨cl ++ [(cu.2.2.1, v168)], clc_app hC (by rw [e7, hi]) (fun k hk => by rw [e290, a168 k (by omega), e88, uI_o (by omega)]) ⟨?_, fun h => ?_, fun h => ?_⟩ ?_ ?_ ⟨hcl, fun h => absurd h hnlw⟩ ⟨[], by rw [List.append_nil]⟩ (by omega), hG _ ⟨hcl, by show cl.length < 24; omega, Or.inr ⟨hnlw, g2, g3, by rw [g4, ← g5]⟩⟩⟩
    · rw [e290, hi, a168 (4 * i) (by omega), e88, uI_s]; exact k1
    · rw [e290, hi, p168]
    · rw [e290, hi]; exact q168 (by have h9 : cu.2.2.1 = 138 := h; omega)
    · rw [eq 8 (by omega), eq 9 (by omega)]; exact lw_keep hC.2.2.1 (by show cu.2.2.1 ≠ 136; omega)
    · rw [eq 10 (by omega), eq 11 (by omega)]; exact lw_keep hC.2.2.2.1 (by show cu.2.2.1 ≠ 137; omega)))
          · refine x_aload_n dX5_readClause_48 rfl ?_
            refine x_iconst dX5_readClause_49 ?_
            refine x_callV1 (mc1 := 0) (ms1 := 0) dX5_readClause_50 cv_RX5_122 (ci := 5) (k_ob_287 cs) rfl (Nat.le_of_ble_eq_true rfl) (n1 := n - 1) (by omega) (by omega) (by omega) ?_
            refine sp_X5_refuse (G := fun _ _ => False) cs (by omega) (by omega) (hRf 4 (hF _ _ (Or.inr (Or.inl ⟨by show isLw cu.2.2.1; omega, by show hasL cl cu.2.2.1; first | (rw [show cu.2.2.1 = 136 by omega, lh1]; omega) | (rw [show cu.2.2.1 = 137 by omega, lh2]; omega), rfl, rfl⟩)))) (fun J50 f50 o50 => ?_)
            refine x_goto 177 dX5_readClause_53 (by decide) ?_
            exact x_return dX5_readClause_177 rfl (by omega) (by omega) (by first
 | exact hp _ (Frd.fc f14) (outT_f o14 (Frd.cb f14 hcb))
 | exact hp _ (Frd.fc f50) (outT_f o50 (Frd.cb f50 hcb))
 | exact hp _ (Frd.fc f65) (outT_f o65 (Frd.cb f65 hcb))
 | (refine hp J174 (Frc.tr (Frc.tr (Frc.u7 (Frc.u7 (Frc.tr (Frc.u7 (Frc.u0 Frc.rf) (by omega)) (Frd.fc (Fcu.rd f88))) (by omega)) (by omega)) (Frc.u7 (Frd.fc f113) (by omega))) (Frd.fc f174)) (outT_o o174 (CB.w (CB.u hcb (q := 4 * i) (v := I 287 15) (by omega)) ?_) (fun cu2 c2 _ rd g => ?_))
    · rw [f174.1 290 (by omega) (by omega), uI_row (by omega), f113.1 290 (by omega) (by omega), uI_row (by omega), uI_row (by omega), f88.1 290 (by omega), uI_row (by omega), show ((i : Int) * 4).toNat = 4 * i by omega]
    · obtain ⟨cu9, g1, g2, g3, g4⟩ := g
      have hap : Ap false false code c2 := g1.1.1.1
      have e290 : J174 290 = uI I 290 (4 * i) (I 287 15) 290 := by rw [f174.1 290 (by omega) (by omega), uI_row (by omega), f113.1 290 (by omega) (by omega), uI_row (by omega), uI_row (by omega), f88.1 290 (by omega), uI_row (by omega), show ((i : Int) * 4).toNat = 4 * i by omega]
      have e7 : J174 287 7 = ((i + 1 : Nat) : Int) := by rw [f174.2 7 (by omega), uI_o (by omega), f113.2 7 (by omega), uI_o (by omega), uI_o (by omega), f88.2 7 (by omega), uI_s]; omega
      have efr : J174 287 8 = (code.length : Int) := by rw [f174.2 8 (by omega), uI_o (by omega), f113.2 8 (by omega), uI_s, uI_o (by omega)]; exact hR88.2.2.1
      have eto : J174 287 9 = (c2.length : Int) := by rw [f174.2 9 (by omega), uI_s]; exact g4.symm
      have eo1 : J174 287 10 = I 287 10 := by rw [f174.2 10 (by omega), uI_o (by omega), f113.2 10 (by omega), uI_o (by omega), uI_o (by omega), f88.2 10 (by omega), uI_o (by omega), uI_o (by omega)]
      have eo2 : J174 287 11 = I 287 11 := by rw [f174.2 11 (by omega), uI_o (by omega), f113.2 11 (by omega), uI_o (by omega), uI_o (by omega), f88.2 11 (by omega), uI_o (by omega), uI_o (by omega)]
      refine ⟨cl ++ [(cu.2.2.1, (code.length : Int), (c2.length : Int), 0)], clc_app hC (by rw [e7, hi]) (fun k hk => by rw [e290, uI_o (by omega)]) ⟨?_, fun h => ?_, fun h => ?_⟩ ?_ ?_ ⟨?_, fun _ => ?_⟩ ?_ (by omega), hG _ ⟨?_, by show cl.length < 24; omega, Or.inl ⟨hlw, hnl, cu9, c2, by show SumG t l (decide (cu.2.2.1 = 137)) _ _ _ _ _; rw [hdc]; exact g1, g2, by rw [g3]⟩⟩⟩
      · rw [e290, hi, uI_s]; exact k1
      · exfalso; have h9 : 138 ≤ cu.2.2.1 ∨ cu.2.2.1 = 128 := h; omega
      · exfalso; have h9 : cu.2.2.1 = 138 := h; omega
      · rw [hw]; rw [efr, eto]; exact lw_new (by have := hnl; rw [← hw]; exact this) ⟨by omega, by have := ap_lt hap; omega⟩
      · rw [hw]; rw [eo1, eo2]; exact lw_keep hC.2.2.2.1 (by show (136 : Int) ≠ 137; decide)
      · show isCl cu.2.2.1; omega
      · show LawOK (decide (cu.2.2.1 = 137)) _ _ _; rw [hdc]; exact law_new hap
      · obtain ⟨v, hv, _⟩ := hap
        exact ⟨v, hv⟩
      · show isCl cu.2.2.1; omega)
 | (refine hp J174 (Frc.tr (Frc.tr (Frc.u7 (Frc.u7 (Frc.tr (Frc.u7 (Frc.u0 Frc.rf) (by omega)) (Frd.fc (Fcu.rd f88))) (by omega)) (by omega)) (Frc.u7 (Frd.fc f149) (by omega))) (Frd.fc f174)) (outT_o o174 (CB.w (CB.u hcb (q := 4 * i) (v := I 287 15) (by omega)) ?_) (fun cu2 c2 _ rd g => ?_))
    · rw [f174.1 290 (by omega) (by omega), uI_row (by omega), f149.1 290 (by omega) (by omega), uI_row (by omega), uI_row (by omega), f88.1 290 (by omega), uI_row (by omega), show ((i : Int) * 4).toNat = 4 * i by omega]
    · obtain ⟨cu9, g1, g2, g3, g4⟩ := g
      have hap : Ap true false code c2 := g1.1.1.1
      have e290 : J174 290 = uI I 290 (4 * i) (I 287 15) 290 := by rw [f174.1 290 (by omega) (by omega), uI_row (by omega), f149.1 290 (by omega) (by omega), uI_row (by omega), uI_row (by omega), f88.1 290 (by omega), uI_row (by omega), show ((i : Int) * 4).toNat = 4 * i by omega]
      have e7 : J174 287 7 = ((i + 1 : Nat) : Int) := by rw [f174.2 7 (by omega), uI_o (by omega), f149.2 7 (by omega), uI_o (by omega), uI_o (by omega), f88.2 7 (by omega), uI_s]; omega
      have efr : J174 287 10 = (code.length : Int) := by rw [f174.2 10 (by omega), uI_o (by omega), f149.2 10 (by omega), uI_s, uI_o (by omega)]; exact hR88.2.2.1
      have eto : J174 287 11 = (c2.length : Int) := by rw [f174.2 11 (by omega), uI_s]; exact g4.symm
      have eo1 : J174 287 8 = I 287 8 := by rw [f174.2 8 (by omega), uI_o (by omega), f149.2 8 (by omega), uI_o (by omega), uI_o (by omega), f88.2 8 (by omega), uI_o (by omega), uI_o (by omega)]
      have eo2 : J174 287 9 = I 287 9 := by rw [f174.2 9 (by omega), uI_o (by omega), f149.2 9 (by omega), uI_o (by omega), uI_o (by omega), f88.2 9 (by omega), uI_o (by omega), uI_o (by omega)]
      refine ⟨cl ++ [(cu.2.2.1, (code.length : Int), (c2.length : Int), 0)], clc_app hC (by rw [e7, hi]) (fun k hk => by rw [e290, uI_o (by omega)]) ⟨?_, fun h => ?_, fun h => ?_⟩ ?_ ?_ ⟨?_, fun _ => ?_⟩ ?_ (by omega), hG _ ⟨?_, by show cl.length < 24; omega, Or.inl ⟨hlw, hnl, cu9, c2, by show SumG t l (decide (cu.2.2.1 = 137)) _ _ _ _ _; rw [hdc]; exact g1, g2, by rw [g3]⟩⟩⟩
      · rw [e290, hi, uI_s]; exact k1
      · exfalso; have h9 : 138 ≤ cu.2.2.1 ∨ cu.2.2.1 = 128 := h; omega
      · exfalso; have h9 : cu.2.2.1 = 138 := h; omega
      · rw [hw]; rw [eo1, eo2]; exact lw_keep hC.2.2.1 (by show (137 : Int) ≠ 136; decide)
      · rw [hw]; rw [efr, eto]; exact lw_new (by have := hnl; rw [← hw]; exact this) ⟨by omega, by have := ap_lt hap; omega⟩
      · show isCl cu.2.2.1; omega
      · show LawOK (decide (cu.2.2.1 = 137)) _ _ _; rw [hdc]; exact law_new hap
      · obtain ⟨v, hv, _⟩ := hap
        exact ⟨v, hv⟩
      · show isCl cu.2.2.1; omega)
 | (refine hp J174 (Frc.tr (Frc.tr (Frc.tr (Frc.u7 (Frc.u0 Frc.rf) (by omega)) (Frd.fc (Fcu.rd f88))) f168) (Frd.fc f174)) (outT_o o174 (Frd.cb f174 cb168) (fun cu2 c2 _ rd g => ?_))
    obtain ⟨g1, g2, g3, g4, g5⟩ := g
    subst g1
    have e290 : J174 290 = J168 290 := f174.1 290 (by omega) (by omega)
    have e88 : J88 290 = uI I 290 (4 * i) (I 287 15) 290 := by rw [f88.1 290 (by omega), uI_row (by omega), show ((i : Int) * 4).toNat = 4 * i by omega]
    have e7 : J174 287 7 = ((i + 1 : Nat) : Int) := by rw [f174.2 7 (by omega), e168 7 (by omega), f88.2 7 (by omega), uI_s]; omega
    have eq : ∀ k, (7 < k ∧ k < 12) → J174 287 k = I 287 k := fun k hk => by rw [f174.2 k (by omega), e168 k (by omega), f88.2 k (by omega), uI_o (by omega), uI_o (by omega)]
    refine ⟨cl ++ [(cu.2.2.1, v168)], clc_app hC (by rw [e7, hi]) (fun k hk => by rw [e290, a168 k (by omega), e88, uI_o (by omega)]) ⟨?_, fun h => ?_, fun h => ?_⟩ ?_ ?_ ⟨hcl, fun h => absurd h hnlw⟩ ⟨[], by rw [List.append_nil]⟩ (by omega), hG _ ⟨hcl, by show cl.length < 24; omega, Or.inr ⟨hnlw, g2, g3, by rw [g4, ← g5]⟩⟩⟩
    · rw [e290, hi, a168 (4 * i) (by omega), e88, uI_s]; exact k1
    · rw [e290, hi, p168]
    · rw [e290, hi]; exact q168 (by have h9 : cu.2.2.1 = 138 := h; omega)
    · rw [eq 8 (by omega), eq 9 (by omega)]; exact lw_keep hC.2.2.1 (by show cu.2.2.1 ≠ 136; omega)
    · rw [eq 10 (by omega), eq 11 (by omega)]; exact lw_keep hC.2.2.2.1 (by show cu.2.2.1 ≠ 137; omega)))
  · refine x_aload_n dX5_readClause_12 rfl ?_
    refine x_iconst dX5_readClause_13 ?_
    refine x_callV1 (mc1 := 0) (ms1 := 0) dX5_readClause_14 cv_RX5_122 (ci := 5) (k_ob_287 cs) rfl (Nat.le_of_ble_eq_true rfl) (n1 := n - 1) (by omega) (by omega) (by omega) ?_
    refine sp_X5_refuse (G := fun _ _ => False) cs (by omega) (by omega) (hRf 1 (hF _ _ (Or.inl ⟨by show ¬ isCl cu.2.2.1; omega, rfl, rfl⟩))) (fun J14 f14 o14 => ?_)
    refine x_goto 177 dX5_readClause_17 (by decide) ?_
    exact x_return dX5_readClause_177 rfl (by omega) (by omega) (by first
 | exact hp _ (Frd.fc f14) (outT_f o14 (Frd.cb f14 hcb))
 | exact hp _ (Frd.fc f50) (outT_f o50 (Frd.cb f50 hcb))
 | exact hp _ (Frd.fc f65) (outT_f o65 (Frd.cb f65 hcb))
 | (refine hp J174 (Frc.tr (Frc.tr (Frc.u7 (Frc.u7 (Frc.tr (Frc.u7 (Frc.u0 Frc.rf) (by omega)) (Frd.fc (Fcu.rd f88))) (by omega)) (by omega)) (Frc.u7 (Frd.fc f113) (by omega))) (Frd.fc f174)) (outT_o o174 (CB.w (CB.u hcb (q := 4 * i) (v := I 287 15) (by omega)) ?_) (fun cu2 c2 _ rd g => ?_))
    · rw [f174.1 290 (by omega) (by omega), uI_row (by omega), f113.1 290 (by omega) (by omega), uI_row (by omega), uI_row (by omega), f88.1 290 (by omega), uI_row (by omega), show ((i : Int) * 4).toNat = 4 * i by omega]
    · obtain ⟨cu9, g1, g2, g3, g4⟩ := g
      have hap : Ap false false code c2 := g1.1.1.1
      have e290 : J174 290 = uI I 290 (4 * i) (I 287 15) 290 := by rw [f174.1 290 (by omega) (by omega), uI_row (by omega), f113.1 290 (by omega) (by omega), uI_row (by omega), uI_row (by omega), f88.1 290 (by omega), uI_row (by omega), show ((i : Int) * 4).toNat = 4 * i by omega]
      have e7 : J174 287 7 = ((i + 1 : Nat) : Int) := by rw [f174.2 7 (by omega), uI_o (by omega), f113.2 7 (by omega), uI_o (by omega), uI_o (by omega), f88.2 7 (by omega), uI_s]; omega
      have efr : J174 287 8 = (code.length : Int) := by rw [f174.2 8 (by omega), uI_o (by omega), f113.2 8 (by omega), uI_s, uI_o (by omega)]; exact hR88.2.2.1
      have eto : J174 287 9 = (c2.length : Int) := by rw [f174.2 9 (by omega), uI_s]; exact g4.symm
      have eo1 : J174 287 10 = I 287 10 := by rw [f174.2 10 (by omega), uI_o (by omega), f113.2 10 (by omega), uI_o (by omega), uI_o (by omega), f88.2 10 (by omega), uI_o (by omega), uI_o (by omega)]
      have eo2 : J174 287 11 = I 287 11 := by rw [f174.2 11 (by omega), uI_o (by omega), f113.2 11 (by omega), uI_o (by omega), uI_o (by omega), f88.2 11 (by omega), uI_o (by omega), uI_o (by omega)]
      refine ⟨cl ++ [(cu.2.2.1, (code.length : Int), (c2.length : Int), 0)], clc_app hC (by rw [e7, hi]) (fun k hk => by rw [e290, uI_o (by omega)]) ⟨?_, fun h => ?_, fun h => ?_⟩ ?_ ?_ ⟨?_, fun _ => ?_⟩ ?_ (by omega), hG _ ⟨?_, by show cl.length < 24; omega, Or.inl ⟨hlw, hnl, cu9, c2, by show SumG t l (decide (cu.2.2.1 = 137)) _ _ _ _ _; rw [hdc]; exact g1, g2, by rw [g3]⟩⟩⟩
      · rw [e290, hi, uI_s]; exact k1
      · exfalso; have h9 : 138 ≤ cu.2.2.1 ∨ cu.2.2.1 = 128 := h; omega
      · exfalso; have h9 : cu.2.2.1 = 138 := h; omega
      · rw [hw]; rw [efr, eto]; exact lw_new (by have := hnl; rw [← hw]; exact this) ⟨by omega, by have := ap_lt hap; omega⟩
      · rw [hw]; rw [eo1, eo2]; exact lw_keep hC.2.2.2.1 (by show (136 : Int) ≠ 137; decide)
      · show isCl cu.2.2.1; omega
      · show LawOK (decide (cu.2.2.1 = 137)) _ _ _; rw [hdc]; exact law_new hap
      · obtain ⟨v, hv, _⟩ := hap
        exact ⟨v, hv⟩
      · show isCl cu.2.2.1; omega)
 | (refine hp J174 (Frc.tr (Frc.tr (Frc.u7 (Frc.u7 (Frc.tr (Frc.u7 (Frc.u0 Frc.rf) (by omega)) (Frd.fc (Fcu.rd f88))) (by omega)) (by omega)) (Frc.u7 (Frd.fc f149) (by omega))) (Frd.fc f174)) (outT_o o174 (CB.w (CB.u hcb (q := 4 * i) (v := I 287 15) (by omega)) ?_) (fun cu2 c2 _ rd g => ?_))
    · rw [f174.1 290 (by omega) (by omega), uI_row (by omega), f149.1 290 (by omega) (by omega), uI_row (by omega), uI_row (by omega), f88.1 290 (by omega), uI_row (by omega), show ((i : Int) * 4).toNat = 4 * i by omega]
    · obtain ⟨cu9, g1, g2, g3, g4⟩ := g
      have hap : Ap true false code c2 := g1.1.1.1
      have e290 : J174 290 = uI I 290 (4 * i) (I 287 15) 290 := by rw [f174.1 290 (by omega) (by omega), uI_row (by omega), f149.1 290 (by omega) (by omega), uI_row (by omega), uI_row (by omega), f88.1 290 (by omega), uI_row (by omega), show ((i : Int) * 4).toNat = 4 * i by omega]
      have e7 : J174 287 7 = ((i + 1 : Nat) : Int) := by rw [f174.2 7 (by omega), uI_o (by omega), f149.2 7 (by omega), uI_o (by omega), uI_o (by omega), f88.2 7 (by omega), uI_s]; omega
      have efr : J174 287 10 = (code.length : Int) := by rw [f174.2 10 (by omega), uI_o (by omega), f149.2 10 (by omega), uI_s, uI_o (by omega)]; exact hR88.2.2.1
      have eto : J174 287 11 = (c2.length : Int) := by rw [f174.2 11 (by omega), uI_s]; exact g4.symm
      have eo1 : J174 287 8 = I 287 8 := by rw [f174.2 8 (by omega), uI_o (by omega), f149.2 8 (by omega), uI_o (by omega), uI_o (by omega), f88.2 8 (by omega), uI_o (by omega), uI_o (by omega)]
      have eo2 : J174 287 9 = I 287 9 := by rw [f174.2 9 (by omega), uI_o (by omega), f149.2 9 (by omega), uI_o (by omega), uI_o (by omega), f88.2 9 (by omega), uI_o (by omega), uI_o (by omega)]
      refine ⟨cl ++ [(cu.2.2.1, (code.length : Int), (c2.length : Int), 0)], clc_app hC (by rw [e7, hi]) (fun k hk => by rw [e290, uI_o (by omega)]) ⟨?_, fun h => ?_, fun h => ?_⟩ ?_ ?_ ⟨?_, fun _ => ?_⟩ ?_ (by omega), hG _ ⟨?_, by show cl.length < 24; omega, Or.inl ⟨hlw, hnl, cu9, c2, by show SumG t l (decide (cu.2.2.1 = 137)) _ _ _ _ _; rw [hdc]; exact g1, g2, by rw [g3]⟩⟩⟩
      · rw [e290, hi, uI_s]; exact k1
      · exfalso; have h9 : 138 ≤ cu.2.2.1 ∨ cu.2.2.1 = 128 := h; omega
      · exfalso; have h9 : cu.2.2.1 = 138 := h; omega
      · rw [hw]; rw [eo1, eo2]; exact lw_keep hC.2.2.1 (by show (137 : Int) ≠ 136; decide)
      · rw [hw]; rw [efr, eto]; exact lw_new (by have := hnl; rw [← hw]; exact this) ⟨by omega, by have := ap_lt hap; omega⟩
      · show isCl cu.2.2.1; omega
      · show LawOK (decide (cu.2.2.1 = 137)) _ _ _; rw [hdc]; exact law_new hap
      · obtain ⟨v, hv, _⟩ := hap
        exact ⟨v, hv⟩
      · show isCl cu.2.2.1; omega)
 | (refine hp J174 (Frc.tr (Frc.tr (Frc.tr (Frc.u7 (Frc.u0 Frc.rf) (by omega)) (Frd.fc (Fcu.rd f88))) f168) (Frd.fc f174)) (outT_o o174 (Frd.cb f174 cb168) (fun cu2 c2 _ rd g => ?_))
    obtain ⟨g1, g2, g3, g4, g5⟩ := g
    subst g1
    have e290 : J174 290 = J168 290 := f174.1 290 (by omega) (by omega)
    have e88 : J88 290 = uI I 290 (4 * i) (I 287 15) 290 := by rw [f88.1 290 (by omega), uI_row (by omega), show ((i : Int) * 4).toNat = 4 * i by omega]
    have e7 : J174 287 7 = ((i + 1 : Nat) : Int) := by rw [f174.2 7 (by omega), e168 7 (by omega), f88.2 7 (by omega), uI_s]; omega
    have eq : ∀ k, (7 < k ∧ k < 12) → J174 287 k = I 287 k := fun k hk => by rw [f174.2 k (by omega), e168 k (by omega), f88.2 k (by omega), uI_o (by omega), uI_o (by omega)]
    refine ⟨cl ++ [(cu.2.2.1, v168)], clc_app hC (by rw [e7, hi]) (fun k hk => by rw [e290, a168 k (by omega), e88, uI_o (by omega)]) ⟨?_, fun h => ?_, fun h => ?_⟩ ?_ ?_ ⟨hcl, fun h => absurd h hnlw⟩ ⟨[], by rw [List.append_nil]⟩ (by omega), hG _ ⟨hcl, by show cl.length < 24; omega, Or.inr ⟨hnlw, g2, g3, by rw [g4, ← g5]⟩⟩⟩
    · rw [e290, hi, a168 (4 * i) (by omega), e88, uI_s]; exact k1
    · rw [e290, hi, p168]
    · rw [e290, hi]; exact q168 (by have h9 : cu.2.2.1 = 138 := h; omega)
    · rw [eq 8 (by omega), eq 9 (by omega)]; exact lw_keep hC.2.2.1 (by show cu.2.2.1 ≠ 136; omega)
    · rw [eq 10 (by omega), eq 11 (by omega)]; exact lw_keep hC.2.2.2.1 (by show cu.2.2.1 ≠ 137; omega)))
end Rd5
