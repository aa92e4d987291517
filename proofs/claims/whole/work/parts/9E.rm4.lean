section Rm4s
variable {n mc ms : Nat} {M : Md} {pc : Nat} {lv : List (Nat × Value)} {st : List Value} {k j : Nat} {Post : PT} {S : Sh} {I : CI} {R : CR} {A : Nat → Int} {tx : Nat → Nat → Int}
variable {t : Nat → Int} {l o : Nat} {sl : Bool} {cu : Cu} {p b : List Int}
theorem beg_op {x : Int} (hk : opk cu.2.2.1) (hx : oo cu.2.2.1 = x) : begO t l sl p cu b = opO t l x p cu b := by
  have h := one_stp (t := t) (l := l) (sl := sl) (c := b) (p := p) (cu := cu) hk
  rw [hx] at h
  exact h
theorem beg_n2 (hk : cu.2.2.1 = 2) (hn : 9999 < cu.2.2.2) : begO t l sl p cu b = (2, (p, false, cu, b)) := if_pos ⟨hk, hn⟩
theorem beg_n0 (hk : cu.2.2.1 = 2) (hn : cu.2.2.2 ≤ 9999) : begO t l sl p cu b = endO t l p (adv t l cu.1) (b ++ [cu.2.2.2]) := by
  unfold begO
  rw [if_neg (by omega), if_neg (by omega), if_pos hk]
theorem beg_w5 (hn : (cu.2.2.1 = 134 ∧ sl = true) ∨ (cu.2.2.1 = 135 ∧ sl = false)) : begO t l sl p cu b = (5, (p, false, cu, b)) := by
  unfold begO
  rw [if_neg (by omega), if_pos hn]
theorem beg_w0 (hk : 128 ≤ cu.2.2.1 ∧ cu.2.2.1 < 136) (hn : ¬ ((cu.2.2.1 = 134 ∧ sl = true) ∨ (cu.2.2.1 = 135 ∧ sl = false))) : begO t l sl p cu b = endO t l p (adv t l cu.1) (b ++ [16384 + (cu.2.2.1 - 128)]) := by
  unfold begO
  rw [if_neg (by omega), if_neg hn, if_neg (by omega), if_pos hk]
theorem beg_1 (hk : cu.2.2.1 ≠ 2 ∧ ¬ (128 ≤ cu.2.2.1 ∧ cu.2.2.1 < 136) ∧ ¬ opk cu.2.2.1) (ha : ¬ (cu.2.2.1 = 149 ∧ askA p = true)) : begO t l sl p cu b = (1, (p, false, cu, b)) := by
  unfold begO
  rw [if_neg (by omega), if_neg (by omega), if_neg (by omega), if_neg (by omega), if_neg (by omega), if_neg (by omega), if_neg (by omega), if_neg (by omega), if_neg (by omega), if_neg ha]
/-- behind a number or a name -/
theorem rf_em {J K : CI} {x : Int} (h : RfB I t l o sl p cu b) (hk : cu.2.2.1 ≠ 0) (c1 : CdS J o (b ++ [x])) (e1 : ∀ a, a ≠ 13 → J 306 a = I 306 a) (f1 : Fst o I J) (k2 : TpR K t l ∧ TkR K (adv t l cu.1) ∧ CuOK l (adv t l cu.1)) (s2 : cu.2.1 < (adv t l cu.1).2.1) (f2 : FcR J K) : RfB K t l o sl p (adv t l cu.1) (b ++ [x]) := by
  obtain ⟨h1, h2, h3, h4, h5, h6, h7, h8⟩ := h
  refine ⟨k2, pls_fc ⟨PlA.w h2.1 (fun i _ => by rw [f1.1 311 (by omega) (by omega)]), (e1 16 (by omega)).trans h2.2.1, (e1 17 (by omega)).trans h2.2.2⟩ f2, cds_fc c1 f2, by rw [f2.2 14 (by omega), e1 14 (by omega)]; exact h4, h5, h6, ?_, h8⟩
  rw [List.length_append, List.length_singleton]
  omega
theorem dX12_beginOne_0 : decode prog_14_method_45_code 0 = .ok (.aload_n 0, 1) := by decide +kernel
theorem dX12_beginOne_1 : decode prog_14_method_45_code 1 = .ok (.getfield 115, 3) := by decide +kernel
theorem dX12_beginOne_4 : decode prog_14_method_45_code 4 = .ok (.iconst 1, 1) := by decide +kernel
theorem dX12_beginOne_5 : decode prog_14_method_45_code 5 = .ok (.if_icmp .ne 15, 3) := by decide +kernel
theorem dX12_beginOne_8 : decode prog_14_method_45_code 8 = .ok (.aload_n 0, 1) := by decide +kernel
theorem dX12_beginOne_9 : decode prog_14_method_45_code 9 = .ok (.getfield 121, 3) := by decide +kernel
theorem dX12_beginOne_12 : decode prog_14_method_45_code 12 = .ok (.sipush 9999, 3) := by decide +kernel
theorem dX12_beginOne_15 : decode prog_14_method_45_code 15 = .ok (.if_icmp .le 5, 3) := by decide +kernel
theorem dX12_beginOne_18 : decode prog_14_method_45_code 18 = .ok (.iconst 2, 1) := by decide +kernel
theorem dX12_beginOne_19 : decode prog_14_method_45_code 19 = .ok (.ireturn, 1) := by decide +kernel
theorem dX12_beginOne_20 : decode prog_14_method_45_code 20 = .ok (.aload_n 0, 1) := by decide +kernel
theorem dX12_beginOne_21 : decode prog_14_method_45_code 21 = .ok (.invokevirtual 189, 3) := by decide +kernel
theorem dX12_beginOne_24 : decode prog_14_method_45_code 24 = .ok (.istore_n 1, 1) := by decide +kernel
theorem dX12_beginOne_25 : decode prog_14_method_45_code 25 = .ok (.iload_n 1, 1) := by decide +kernel
theorem dX12_beginOne_26 : decode prog_14_method_45_code 26 = .ok (.ifCond .lt 13, 3) := by decide +kernel
theorem dX12_beginOne_29 : decode prog_14_method_45_code 29 = .ok (.aload_n 0, 1) := by decide +kernel
theorem dX12_beginOne_30 : decode prog_14_method_45_code 30 = .ok (.iload_n 1, 1) := by decide +kernel
theorem dX12_beginOne_31 : decode prog_14_method_45_code 31 = .ok (.invokevirtual 192, 3) := by decide +kernel
theorem dX12_beginOne_34 : decode prog_14_method_45_code 34 = .ok (.ifCond .ne 5, 3) := by decide +kernel
theorem dX12_beginOne_37 : decode prog_14_method_45_code 37 = .ok (.iconst 5, 1) := by decide +kernel
theorem dX12_beginOne_38 : decode prog_14_method_45_code 38 = .ok (.ireturn, 1) := by decide +kernel
theorem dX12_beginOne_39 : decode prog_14_method_45_code 39 = .ok (.aload_n 0, 1) := by decide +kernel
theorem dX12_beginOne_40 : decode prog_14_method_45_code 40 = .ok (.getfield 115, 3) := by decide +kernel
theorem dX12_beginOne_43 : decode prog_14_method_45_code 43 = .ok (.iconst 1, 1) := by decide +kernel
theorem dX12_beginOne_44 : decode prog_14_method_45_code 44 = .ok (.if_icmp .eq 7, 3) := by decide +kernel
theorem dX12_beginOne_47 : decode prog_14_method_45_code 47 = .ok (.iload_n 1, 1) := by decide +kernel
theorem dX12_beginOne_48 : decode prog_14_method_45_code 48 = .ok (.ifCond .lt 45, 3) := by decide +kernel
theorem dX12_beginOne_51 : decode prog_14_method_45_code 51 = .ok (.aload_n 0, 1) := by decide +kernel
theorem dX12_beginOne_52 : decode prog_14_method_45_code 52 = .ok (.aload_n 0, 1) := by decide +kernel
theorem dX12_beginOne_53 : decode prog_14_method_45_code 53 = .ok (.getfield 115, 3) := by decide +kernel
theorem dX12_beginOne_56 : decode prog_14_method_45_code 56 = .ok (.iconst 1, 1) := by decide +kernel
theorem dX12_beginOne_57 : decode prog_14_method_45_code 57 = .ok (.if_icmp .ne 7, 3) := by decide +kernel
theorem dX12_beginOne_60 : decode prog_14_method_45_code 60 = .ok (.iconst 0, 1) := by decide +kernel
theorem dX12_beginOne_61 : decode prog_14_method_45_code 61 = .ok (.goto 4, 3) := by decide +kernel
theorem dX12_beginOne_64 : decode prog_14_method_45_code 64 = .ok (.iconst 1, 1) := by decide +kernel
theorem dX12_beginOne_65 : decode prog_14_method_45_code 65 = .ok (.aload_n 0, 1) := by decide +kernel
theorem dX12_beginOne_66 : decode prog_14_method_45_code 66 = .ok (.getfield 115, 3) := by decide +kernel
theorem dX12_beginOne_69 : decode prog_14_method_45_code 69 = .ok (.iconst 1, 1) := by decide +kernel
theorem dX12_beginOne_70 : decode prog_14_method_45_code 70 = .ok (.if_icmp .ne 10, 3) := by decide +kernel
theorem dX12_beginOne_73 : decode prog_14_method_45_code 73 = .ok (.aload_n 0, 1) := by decide +kernel
theorem dX12_beginOne_74 : decode prog_14_method_45_code 74 = .ok (.getfield 121, 3) := by decide +kernel
theorem dX12_beginOne_77 : decode prog_14_method_45_code 77 = .ok (.goto 4, 3) := by decide +kernel
theorem dX12_beginOne_80 : decode prog_14_method_45_code 80 = .ok (.iload_n 1, 1) := by decide +kernel
theorem dX12_beginOne_81 : decode prog_14_method_45_code 81 = .ok (.invokevirtual 172, 3) := by decide +kernel
theorem dX12_beginOne_84 : decode prog_14_method_45_code 84 = .ok (.aload_n 0, 1) := by decide +kernel
theorem dX12_beginOne_85 : decode prog_14_method_45_code 85 = .ok (.invokevirtual 186, 3) := by decide +kernel
theorem dX12_beginOne_88 : decode prog_14_method_45_code 88 = .ok (.aload_n 0, 1) := by decide +kernel
theorem dX12_beginOne_89 : decode prog_14_method_45_code 89 = .ok (.invokevirtual 195, 3) := by decide +kernel
theorem dX12_beginOne_92 : decode prog_14_method_45_code 92 = .ok (.ireturn, 1) := by decide +kernel
theorem dX12_beginOne_93 : decode prog_14_method_45_code 93 = .ok (.aload_n 0, 1) := by decide +kernel
theorem dX12_beginOne_94 : decode prog_14_method_45_code 94 = .ok (.getfield 115, 3) := by decide +kernel
theorem dX12_beginOne_97 : decode prog_14_method_45_code 97 = .ok (.bipush 40, 2) := by decide +kernel
theorem dX12_beginOne_99 : decode prog_14_method_45_code 99 = .ok (.if_icmp .ne 10, 3) := by decide +kernel
theorem dX12_beginOne_102 : decode prog_14_method_45_code 102 = .ok (.aload_n 0, 1) := by decide +kernel
theorem dX12_beginOne_103 : decode prog_14_method_45_code 103 = .ok (.bipush 40, 2) := by decide +kernel
theorem dX12_beginOne_105 : decode prog_14_method_45_code 105 = .ok (.invokevirtual 198, 3) := by decide +kernel
theorem dX12_beginOne_108 : decode prog_14_method_45_code 108 = .ok (.ireturn, 1) := by decide +kernel
theorem dX12_beginOne_109 : decode prog_14_method_45_code 109 = .ok (.aload_n 0, 1) := by decide +kernel
theorem dX12_beginOne_110 : decode prog_14_method_45_code 110 = .ok (.getfield 115, 3) := by decide +kernel
theorem dX12_beginOne_113 : decode prog_14_method_45_code 113 = .ok (.bipush 45, 2) := by decide +kernel
theorem dX12_beginOne_115 : decode prog_14_method_45_code 115 = .ok (.if_icmp .ne 9, 3) := by decide +kernel
theorem dX12_beginOne_118 : decode prog_14_method_45_code 118 = .ok (.aload_n 0, 1) := by decide +kernel
theorem dX12_beginOne_119 : decode prog_14_method_45_code 119 = .ok (.iconst 5, 1) := by decide +kernel
theorem dX12_beginOne_120 : decode prog_14_method_45_code 120 = .ok (.invokevirtual 198, 3) := by decide +kernel
theorem dX12_beginOne_123 : decode prog_14_method_45_code 123 = .ok (.ireturn, 1) := by decide +kernel
theorem dX12_beginOne_124 : decode prog_14_method_45_code 124 = .ok (.aload_n 0, 1) := by decide +kernel
theorem dX12_beginOne_125 : decode prog_14_method_45_code 125 = .ok (.bipush 114, 2) := by decide +kernel
theorem dX12_beginOne_127 : decode prog_14_method_45_code 127 = .ok (.bipush 101, 2) := by decide +kernel
theorem dX12_beginOne_129 : decode prog_14_method_45_code 129 = .ok (.bipush 115, 2) := by decide +kernel
theorem dX12_beginOne_131 : decode prog_14_method_45_code 131 = .ok (.bipush 116, 2) := by decide +kernel
theorem dX12_beginOne_133 : decode prog_14_method_45_code 133 = .ok (.invokestatic 145, 3) := by decide +kernel
theorem dX12_beginOne_136 : decode prog_14_method_45_code 136 = .ok (.invokevirtual 201, 3) := by decide +kernel
theorem dX12_beginOne_139 : decode prog_14_method_45_code 139 = .ok (.ifCond .eq 10, 3) := by decide +kernel
theorem dX12_beginOne_142 : decode prog_14_method_45_code 142 = .ok (.aload_n 0, 1) := by decide +kernel
theorem dX12_beginOne_143 : decode prog_14_method_45_code 143 = .ok (.bipush 41, 2) := by decide +kernel
theorem dX12_beginOne_145 : decode prog_14_method_45_code 145 = .ok (.invokevirtual 198, 3) := by decide +kernel
theorem dX12_beginOne_148 : decode prog_14_method_45_code 148 = .ok (.ireturn, 1) := by decide +kernel
theorem dX12_beginOne_149 : decode prog_14_method_45_code 149 = .ok (.aload_n 0, 1) := by decide +kernel
theorem dX12_beginOne_150 : decode prog_14_method_45_code 150 = .ok (.bipush 104, 2) := by decide +kernel
theorem dX12_beginOne_152 : decode prog_14_method_45_code 152 = .ok (.bipush 111, 2) := by decide +kernel
theorem dX12_beginOne_154 : decode prog_14_method_45_code 154 = .ok (.bipush 116, 2) := by decide +kernel
theorem dX12_beginOne_156 : decode prog_14_method_45_code 156 = .ok (.invokestatic 141, 3) := by decide +kernel
theorem dX12_beginOne_159 : decode prog_14_method_45_code 159 = .ok (.invokevirtual 201, 3) := by decide +kernel
theorem dX12_beginOne_162 : decode prog_14_method_45_code 162 = .ok (.ifCond .eq 9, 3) := by decide +kernel
theorem dX12_beginOne_165 : decode prog_14_method_45_code 165 = .ok (.aload_n 0, 1) := by decide +kernel
theorem dX12_beginOne_166 : decode prog_14_method_45_code 166 = .ok (.iconst 2, 1) := by decide +kernel
theorem dX12_beginOne_167 : decode prog_14_method_45_code 167 = .ok (.invokevirtual 198, 3) := by decide +kernel
theorem dX12_beginOne_170 : decode prog_14_method_45_code 170 = .ok (.ireturn, 1) := by decide +kernel
theorem dX12_beginOne_171 : decode prog_14_method_45_code 171 = .ok (.aload_n 0, 1) := by decide +kernel
theorem dX12_beginOne_172 : decode prog_14_method_45_code 172 = .ok (.bipush 105, 2) := by decide +kernel
theorem dX12_beginOne_174 : decode prog_14_method_45_code 174 = .ok (.bipush 102, 2) := by decide +kernel
theorem dX12_beginOne_176 : decode prog_14_method_45_code 176 = .ok (.invokestatic 137, 3) := by decide +kernel
theorem dX12_beginOne_179 : decode prog_14_method_45_code 179 = .ok (.invokevirtual 201, 3) := by decide +kernel
theorem dX12_beginOne_182 : decode prog_14_method_45_code 182 = .ok (.ifCond .eq 10, 3) := by decide +kernel
theorem dX12_beginOne_185 : decode prog_14_method_45_code 185 = .ok (.aload_n 0, 1) := by decide +kernel
theorem dX12_beginOne_186 : decode prog_14_method_45_code 186 = .ok (.bipush 42, 2) := by decide +kernel
theorem dX12_beginOne_188 : decode prog_14_method_45_code 188 = .ok (.invokevirtual 198, 3) := by decide +kernel
theorem dX12_beginOne_191 : decode prog_14_method_45_code 191 = .ok (.ireturn, 1) := by decide +kernel
theorem dX12_beginOne_192 : decode prog_14_method_45_code 192 = .ok (.aload_n 0, 1) := by decide +kernel
theorem dX12_beginOne_193 : decode prog_14_method_45_code 193 = .ok (.bipush 110, 2) := by decide +kernel
theorem dX12_beginOne_195 : decode prog_14_method_45_code 195 = .ok (.bipush 111, 2) := by decide +kernel
theorem dX12_beginOne_197 : decode prog_14_method_45_code 197 = .ok (.bipush 116, 2) := by decide +kernel
theorem dX12_beginOne_199 : decode prog_14_method_45_code 199 = .ok (.invokestatic 141, 3) := by decide +kernel
theorem dX12_beginOne_202 : decode prog_14_method_45_code 202 = .ok (.invokevirtual 201, 3) := by decide +kernel
theorem dX12_beginOne_205 : decode prog_14_method_45_code 205 = .ok (.ifCond .eq 19, 3) := by decide +kernel
theorem dX12_beginOne_208 : decode prog_14_method_45_code 208 = .ok (.aload_n 0, 1) := by decide +kernel
theorem dX12_beginOne_209 : decode prog_14_method_45_code 209 = .ok (.invokevirtual 205, 3) := by decide +kernel
theorem dX12_beginOne_212 : decode prog_14_method_45_code 212 = .ok (.ifCond .eq 12, 3) := by decide +kernel
theorem dX12_beginOne_215 : decode prog_14_method_45_code 215 = .ok (.aload_n 0, 1) := by decide +kernel
theorem dX12_beginOne_216 : decode prog_14_method_45_code 216 = .ok (.bipush 20, 2) := by decide +kernel
theorem dX12_beginOne_218 : decode prog_14_method_45_code 218 = .ok (.invokevirtual 198, 3) := by decide +kernel
theorem dX12_beginOne_221 : decode prog_14_method_45_code 221 = .ok (.goto 4, 3) := by decide +kernel
theorem dX12_beginOne_224 : decode prog_14_method_45_code 224 = .ok (.iconst 1, 1) := by decide +kernel
theorem dX12_beginOne_225 : decode prog_14_method_45_code 225 = .ok (.ireturn, 1) := by decide +kernel
theorem sp_X12_beginOne (cs : CS S R) (hn : 7 ≤ n) (h : RfB I t l o sl p cu b) (hw : I 306 18 = 0) (hp : ∀ J, RfS J t l o sl (begO t l sl p cu b).2 → Frf o I J → Post (some (.int (iI (begO t l sl p cu b).1))) S J R) : Call n 0 0 mX12_beginOne [.ref (S.2.1 306)] S I R Post := by
  obtain ⟨h1, h2, h3, h4, h5, h6, h7, h8⟩ := id h
  have hl := okP_160 h5 h6
  have l3 := h1.1.2.2.1
  obtain ⟨⟨a1, a2, a3, a4⟩, ⟨a5, a5n⟩, a6, a7, a8, a9, a10⟩ := id h1.2.1
  have b40 := a7 40 (by omega)
  have b45 := a7 45 (by omega)
  have okk := h1.2.2.2.2.2.2.1
  have ok1 := h1.2.2.1
  have ok2 := h1.2.2.2.1
  have hno : Post (some (.int (iI (begO t l sl p cu b).1))) S I R ∨ True := Or.inr trivial
  refine Call.of (by decide +kernel) (Nat.le_of_ble_eq_true rfl) ?_
  show WP _ _ _ _ _ 0 [(0, _)] [] 0 0 _ _ _
  refine x_aload_n dX12_beginOne_0 rfl ?_
  refine x_getI dX12_beginOne_1 gf_RX12_115 (k_ob_306 cs) (fun _ _ => rfl) ?_
  refine x_iconst dX12_beginOne_4 ?_
  refine x_icmp_ne 20 dX12_beginOne_5 (by decide) ⟨(by omega), (by omega)⟩ (fun w5 => ?_) (fun w5 => ?_)
  · refine x_aload_n dX12_beginOne_20 rfl ?_
    refine x_callV0 (mc1 := 0) (ms1 := 0) dX12_beginOne_21 cv_RX12_189 (ci := 12) (k_ob_306 cs) rfl (Nat.le_of_ble_eq_true rfl) (n1 := n - 1) (by omega) (by omega) (by omega) ?_
    refine sp_X12_nameOf (cu := cu) cs (by omega) h1.2.1 okk (fun r21 hr21 => ?_)
    refine x_istore_n (lv2 := [(1, _), (0, _)]) dX12_beginOne_24 (by decide) rfl ?_
    refine x_iload_n dX12_beginOne_25 rfl ?_
    refine x_if_lt 39 dX12_beginOne_26 (by decide) (by omega) (fun w26 => ?_) (fun w26 => ?_)
    · refine x_aload_n dX12_beginOne_39 rfl ?_
      refine x_getI dX12_beginOne_40 gf_RX12_115 (k_ob_306 cs) (fun _ _ => rfl) ?_
      refine x_iconst dX12_beginOne_43 ?_
      refine x_icmp_eq 51 dX12_beginOne_44 (by decide) ⟨(by omega), (by omega)⟩ (fun w44 => ?_) (fun w44 => ?_)
      · have hnum51 : cu.2.2.1 = 2 → _ := a5n
        refine x_aload_n dX12_beginOne_51 rfl ?_
        refine x_aload_n dX12_beginOne_52 rfl ?_
        refine x_getI dX12_beginOne_53 gf_RX12_115 (k_ob_306 cs) (fun _ _ => rfl) ?_
        refine x_iconst dX12_beginOne_56 ?_
        refine x_icmp_ne 64 dX12_beginOne_57 (by decide) ⟨(by omega), (by omega)⟩ (fun w57 => ?_) (fun w57 => ?_)
        · exfalso; omega
        · refine x_iconst dX12_beginOne_60 ?_
          refine x_goto 65 dX12_beginOne_61 (by decide) ?_
          refine x_aload_n dX12_beginOne_65 rfl ?_
          refine x_getI dX12_beginOne_66 gf_RX12_115 (k_ob_306 cs) (fun _ _ => rfl) ?_
          refine x_iconst dX12_beginOne_69 ?_
          refine x_icmp_ne 80 dX12_beginOne_70 (by decide) ⟨(by omega), (by omega)⟩ (fun w70 => ?_) (fun w70 => ?_)
          · exfalso; omega
          · have hnum73 := a5n (by omega)
            refine x_aload_n dX12_beginOne_73 rfl ?_
            refine x_getI dX12_beginOne_74 gf_RX12_121 (k_ob_306 cs) (fun _ _ => rfl) ?_
            refine x_goto 81 dX12_beginOne_77 (by decide) ?_
            refine x_callV2 (mc1 := 0) (ms1 := 0) dX12_beginOne_81 cv_RX12_172 (ci := 12) (k_ob_306 cs) rfl (Nat.le_of_ble_eq_true rfl) (n1 := n - 1) (by omega) (by omega) (by omega) ?_
            have hnum := a5n
            refine sp_X12_emit (o := o) (b := b) (x := cu.2.2.2) (op := 0) (v := I 306 10) cs h8 (by have := h1.2.2.2.2.1; omega) ⟨by rw [show cu.2.2.2 / 16384 = 0 by omega]; rfl, by omega⟩ h3 (fun J81 c81 e81 f81 => ?_)
            refine x_aload_n dX12_beginOne_84 rfl ?_
            refine x_callV0 (mc1 := 0) (ms1 := 0) dX12_beginOne_85 cv_RX12_186 (ci := 12) (k_ob_306 cs) rfl (Nat.le_of_ble_eq_true rfl) (n1 := n - 1) (by omega) (by omega) (by omega) ?_
            refine sp_nxt (t := t) (l := l) (cu := cu) cs (by omega) (tk_fr h1 (f81.1 310 (by omega) (by omega)) (fun a ha => e81 a (by omega))) (fun J85 k85 s85 m85 f85 => ?_)
            refine x_aload_n dX12_beginOne_88 rfl ?_
            refine x_callV0 (mc1 := 0) (ms1 := 0) dX12_beginOne_89 cv_RX12_195 (ci := 12) (k_ob_306 cs) rfl (Nat.le_of_ble_eq_true rfl) (n1 := n - 1) (by omega) (by omega) (by omega) ?_
            have r85 := rf_em h (by omega) c81 e81 f81 k85 (s85 (by omega)) f85
            refine sp_X12_endOne (t := t) (l := l) (o := o) (sl := sl) (p := p) (cu := adv t l cu.1) (b := b ++ [cu.2.2.2]) cs (by omega) r85 (fun J89 s89 f89 => ?_)
            exact x_ireturn dX12_beginOne_92 rfl (by omega) (by omega) (by first
 | (exfalso; omega)
 | (rw [beg_op (x := 40) (by omega) (by rw [show cu.2.2.1 = 40 by omega]; rfl)] at hp; exact hp _ s105 f105)
 | (rw [beg_op (x := 5) (by omega) (by rw [show cu.2.2.1 = 45 by omega]; rfl)] at hp; exact hp _ s120 f120)
 | (rw [beg_op (x := 41) (by omega) (by rw [show cu.2.2.1 = 143 by omega]; rfl)] at hp; exact hp _ s145 f145)
 | (rw [beg_op (x := 2) (by omega) (by rw [show cu.2.2.1 = 144 by omega]; rfl)] at hp; exact hp _ s167 f167)
 | (rw [beg_op (x := 42) (by omega) (by rw [show cu.2.2.1 = 145 by omega]; rfl)] at hp; exact hp _ s188 f188)
 | (have hask : askA p = true := by
      rcases hr209 with hh | hh
      · exact hh.2
      · exfalso; omega
    rw [show begO t l sl p cu b = opO t l 20 p cu b from ask_not (sl := sl) (by omega) hask] at hp; exact hp _ s218 f218)
 | (rw [beg_n2 (by omega) (by omega)] at hp; exact hp I ⟨h, Or.inr ⟨hw, rfl⟩⟩ Frf.rf)
 | (rw [beg_w5 (by rcases hr31 with hh | hh; · exfalso; omega
                   · rcases hh.2 with h9 | h9
                     · exact Or.inl ⟨by omega, h9.2⟩
                     · exact Or.inr ⟨by omega, h9.2⟩)] at hp; exact hp I ⟨h, Or.inr ⟨hw, rfl⟩⟩ Frf.rf)
 | (rw [beg_n0 (by omega) (by omega)] at hp; exact hp _ s89 (Frf.tr (Frf.tr (Fst.frf f81) (FcR.frf f85)) f89))
 | (have hq31 : ¬ ((cu.2.2.1 = 134 ∧ sl = true) ∨ (cu.2.2.1 = 135 ∧ sl = false)) := by
      intro h9
      rcases hr31 with hh | hh
      · exact hh.2 (by rcases h9 with h8 | h8
                       · exact Or.inl ⟨by omega, h8.2⟩
                       · exact Or.inr ⟨by omega, h8.2⟩)
      · omega
    rw [beg_w0 (by omega) hq31] at hp; exact hp _ s89 (Frf.tr (Frf.tr (Fst.frf f81) (FcR.frf f85)) f89))
 | (rw [beg_1 (by omega) (by omega)] at hp; exact hp I ⟨h, Or.inr ⟨hw, rfl⟩⟩ Frf.rf)
 | (have hask : askA p = false := by
      rcases hr209 with hh | hh
      · exfalso; omega
      · exact hh.2
    rw [beg_1 (by omega) (by rw [hask]; simp)] at hp; exact hp I ⟨h, Or.inr ⟨hw, rfl⟩⟩ Frf.rf))
      · refine x_iload_n dX12_beginOne_47 rfl ?_
        refine x_if_lt 93 dX12_beginOne_48 (by decide) (by omega) (fun w48 => ?_) (fun w48 => ?_)
        · refine x_aload_n dX12_beginOne_93 rfl ?_
          refine x_getI dX12_beginOne_94 gf_RX12_115 (k_ob_306 cs) (fun _ _ => rfl) ?_
          refine x_bipush dX12_beginOne_97 (by decide) ?_
          refine x_icmp_ne 109 dX12_beginOne_99 (by decide) ⟨(by omega), (by omega)⟩ (fun w99 => ?_) (fun w99 => ?_)
          · refine x_aload_n dX12_beginOne_109 rfl ?_
            refine x_getI dX12_beginOne_110 gf_RX12_115 (k_ob_306 cs) (fun _ _ => rfl) ?_
            refine x_bipush dX12_beginOne_113 (by decide) ?_
            refine x_icmp_ne 124 dX12_beginOne_115 (by decide) ⟨(by omega), (by omega)⟩ (fun w115 => ?_) (fun w115 => ?_)
            · refine x_aload_n dX12_beginOne_124 rfl ?_
              refine x_bipush dX12_beginOne_125 (by decide) ?_
              refine x_bipush dX12_beginOne_127 (by decide) ?_
              refine x_bipush dX12_beginOne_129 (by decide) ?_
              refine x_bipush dX12_beginOne_131 (by decide) ?_
              refine x_callS4 (mc1 := 0) (ms1 := 0) dX12_beginOne_133 cv_RX12_145 (Nat.le_of_ble_eq_true rfl) (n1 := n - 1) (by omega) (by omega) (by omega) ?_
              refine sp_X12_w4 (by omega) ?_ (by omega)
              refine x_callV1 (mc1 := 0) (ms1 := 0) dX12_beginOne_136 cv_RX12_201 (ci := 12) (k_ob_306 cs) rfl (Nat.le_of_ble_eq_true rfl) (n1 := n - 1) (by omega) (by omega) (by omega) ?_
              refine sp_isW (cu := cu) (K := 143) cs (by decide) h1.2.1 (fun r136 hr136 => ?_)
              refine x_if_eq 149 dX12_beginOne_139 (by decide) (by omega) (fun w139 => ?_) (fun w139 => ?_)
              · refine x_aload_n dX12_beginOne_149 rfl ?_
                refine x_bipush dX12_beginOne_150 (by decide) ?_
                refine x_bipush dX12_beginOne_152 (by decide) ?_
                refine x_bipush dX12_beginOne_154 (by decide) ?_
                refine x_callS3 (mc1 := 0) (ms1 := 0) dX12_beginOne_156 cv_RX12_141 (Nat.le_of_ble_eq_true rfl) (n1 := n - 1) (by omega) (by omega) (by omega) ?_
                refine sp_X12_w3 (by omega) ?_ (by omega)
                refine x_callV1 (mc1 := 0) (ms1 := 0) dX12_beginOne_159 cv_RX12_201 (ci := 12) (k_ob_306 cs) rfl (Nat.le_of_ble_eq_true rfl) (n1 := n - 1) (by omega) (by omega) (by omega) ?_
                refine sp_isW (cu := cu) (K := 144) cs (by decide) h1.2.1 (fun r159 hr159 => ?_)
                refine x_if_eq 171 dX12_beginOne_162 (by decide) (by omega) (fun w162 => ?_) (fun w162 => ?_)
                · refine x_aload_n dX12_beginOne_171 rfl ?_
                  refine x_bipush dX12_beginOne_172 (by decide) ?_
                  refine x_bipush dX12_beginOne_174 (by decide) ?_
                  refine x_callS2 (mc1 := 0) (ms1 := 0) dX12_beginOne_176 cv_RX12_137 (Nat.le_of_ble_eq_true rfl) (n1 := n - 1) (by omega) (by omega) (by omega) ?_
                  refine sp_X12_w2 (by omega) ?_ (by omega)
                  refine x_callV1 (mc1 := 0) (ms1 := 0) dX12_beginOne_179 cv_RX12_201 (ci := 12) (k_ob_306 cs) rfl (Nat.le_of_ble_eq_true rfl) (n1 := n - 1) (by omega) (by omega) (by omega) ?_
                  refine sp_isW (cu := cu) (K := 145) cs (by decide) h1.2.1 (fun r179 hr179 => ?_)
                  refine x_if_eq 192 dX12_beginOne_182 (by decide) (by omega) (fun w182 => ?_) (fun w182 => ?_)
                  · refine x_aload_n dX12_beginOne_192 rfl ?_
                    refine x_bipush dX12_beginOne_193 (by decide) ?_
                    refine x_bipush dX12_beginOne_195 (by decide) ?_
                    refine x_bipush dX12_beginOne_197 (by decide) ?_
                    refine x_callS3 (mc1 := 0) (ms1 := 0) dX12_beginOne_199 cv_RX12_141 (Nat.le_of_ble_eq_true rfl) (n1 := n - 1) (by omega) (by omega) (by omega) ?_
                    refine sp_X12_w3 (by omega) ?_ (by omega)
                    refine x_callV1 (mc1 := 0) (ms1 := 0) dX12_beginOne_202 cv_RX12_201 (ci := 12) (k_ob_306 cs) rfl (Nat.le_of_ble_eq_true rfl) (n1 := n - 1) (by omega) (by omega) (by omega) ?_
                    refine sp_isW (cu := cu) (K := 149) cs (by decide) h1.2.1 (fun r202 hr202 => ?_)
                    refine x_if_eq 224 dX12_beginOne_205 (by decide) (by omega) (fun w205 => ?_) (fun w205 => ?_)
                    · refine x_iconst dX12_beginOne_224 ?_
                      exact x_ireturn dX12_beginOne_225 rfl (by omega) (by omega) (by first
 | (exfalso; omega)
 | (rw [beg_op (x := 40) (by omega) (by rw [show cu.2.2.1 = 40 by omega]; rfl)] at hp; exact hp _ s105 f105)
 | (rw [beg_op (x := 5) (by omega) (by rw [show cu.2.2.1 = 45 by omega]; rfl)] at hp; exact hp _ s120 f120)
 | (rw [beg_op (x := 41) (by omega) (by rw [show cu.2.2.1 = 143 by omega]; rfl)] at hp; exact hp _ s145 f145)
 | (rw [beg_op (x := 2) (by omega) (by rw [show cu.2.2.1 = 144 by omega]; rfl)] at hp; exact hp _ s167 f167)
 | (rw [beg_op (x := 42) (by omega) (by rw [show cu.2.2.1 = 145 by omega]; rfl)] at hp; exact hp _ s188 f188)
 | (have hask : askA p = true := by
      rcases hr209 with hh | hh
      · exact hh.2
      · exfalso; omega
    rw [show begO t l sl p cu b = opO t l 20 p cu b from ask_not (sl := sl) (by omega) hask] at hp; exact hp _ s218 f218)
 | (rw [beg_n2 (by omega) (by omega)] at hp; exact hp I ⟨h, Or.inr ⟨hw, rfl⟩⟩ Frf.rf)
 | (rw [beg_w5 (by rcases hr31 with hh | hh; · exfalso; omega
                   · rcases hh.2 with h9 | h9
                     · exact Or.inl ⟨by omega, h9.2⟩
                     · exact Or.inr ⟨by omega, h9.2⟩)] at hp; exact hp I ⟨h, Or.inr ⟨hw, rfl⟩⟩ Frf.rf)
 | (rw [beg_n0 (by omega) (by omega)] at hp; exact hp _ s89 (Frf.tr (Frf.tr (Fst.frf f81) (FcR.frf f85)) f89))
 | (have hq31 : ¬ ((cu.2.2.1 = 134 ∧ sl = true) ∨ (cu.2.2.1 = 135 ∧ sl = false)) := by
      intro h9
      rcases hr31 with hh | hh
      · exact hh.2 (by rcases h9 with h8 | h8
                       · exact Or.inl ⟨by omega, h8.2⟩
                       · exact Or.inr ⟨by omega, h8.2⟩)
      · omega
    rw [beg_w0 (by omega) hq31] at hp; exact hp _ s89 (Frf.tr (Frf.tr (Fst.frf f81) (FcR.frf f85)) f89))
 | (rw [beg_1 (by omega) (by omega)] at hp; exact hp I ⟨h, Or.inr ⟨hw, rfl⟩⟩ Frf.rf)
 | (have hask : askA p = false := by
      rcases hr209 with hh | hh
      · exfalso; omega
      · exact hh.2
    rw [beg_1 (by omega) (by rw [hask]; simp)] at hp; exact hp I ⟨h, Or.inr ⟨hw, rfl⟩⟩ Frf.rf))
                    · refine x_aload_n dX12_beginOne_208 rfl ?_
                      refine x_callV0 (mc1 := 0) (ms1 := 0) dX12_beginOne_209 cv_RX12_205 (ci := 12) (k_ob_306 cs) rfl (Nat.le_of_ble_eq_true rfl) (n1 := n - 1) (by omega) (by omega) (by omega) ?_
                      refine sp_X12_isAskAhead cs (by omega) h2 h5 (by omega) (fun r209 hr209 => ?_)
                      refine x_if_eq 224 dX12_beginOne_212 (by decide) (by omega) (fun w212 => ?_) (fun w212 => ?_)
                      · refine x_iconst dX12_beginOne_224 ?_
                        exact x_ireturn dX12_beginOne_225 rfl (by omega) (by omega) (by first
 | (exfalso; omega)
 | (rw [beg_op (x := 40) (by omega) (by rw [show cu.2.2.1 = 40 by omega]; rfl)] at hp; exact hp _ s105 f105)
 | (rw [beg_op (x := 5) (by omega) (by rw [show cu.2.2.1 = 45 by omega]; rfl)] at hp; exact hp _ s120 f120)
 | (rw [beg_op (x := 41) (by omega) (by rw [show cu.2.2.1 = 143 by omega]; rfl)] at hp; exact hp _ s145 f145)
 | (rw [beg_op (x := 2) (by omega) (by rw [show cu.2.2.1 = 144 by omega]; rfl)] at hp; exact hp _ s167 f167)
 | (rw [beg_op (x := 42) (by omega) (by rw [show cu.2.2.1 = 145 by omega]; rfl)] at hp; exact hp _ s188 f188)
 | (have hask : askA p = true := by
      rcases hr209 with hh | hh
      · exact hh.2
      · exfalso; omega
    rw [show begO t l sl p cu b = opO t l 20 p cu b from ask_not (sl := sl) (by omega) hask] at hp; exact hp _ s218 f218)
 | (rw [beg_n2 (by omega) (by omega)] at hp; exact hp I ⟨h, Or.inr ⟨hw, rfl⟩⟩ Frf.rf)
 | (rw [beg_w5 (by rcases hr31 with hh | hh; · exfalso; omega
                   · rcases hh.2 with h9 | h9
                     · exact Or.inl ⟨by omega, h9.2⟩
                     · exact Or.inr ⟨by omega, h9.2⟩)] at hp; exact hp I ⟨h, Or.inr ⟨hw, rfl⟩⟩ Frf.rf)
 | (rw [beg_n0 (by omega) (by omega)] at hp; exact hp _ s89 (Frf.tr (Frf.tr (Fst.frf f81) (FcR.frf f85)) f89))
 | (have hq31 : ¬ ((cu.2.2.1 = 134 ∧ sl = true) ∨ (cu.2.2.1 = 135 ∧ sl = false)) := by
      intro h9
      rcases hr31 with hh | hh
      · exact hh.2 (by rcases h9 with h8 | h8
                       · exact Or.inl ⟨by omega, h8.2⟩
                       · exact Or.inr ⟨by omega, h8.2⟩)
      · omega
    rw [beg_w0 (by omega) hq31] at hp; exact hp _ s89 (Frf.tr (Frf.tr (Fst.frf f81) (FcR.frf f85)) f89))
 | (rw [beg_1 (by omega) (by omega)] at hp; exact hp I ⟨h, Or.inr ⟨hw, rfl⟩⟩ Frf.rf)
 | (have hask : askA p = false := by
      rcases hr209 with hh | hh
      · exfalso; omega
      · exact hh.2
    rw [beg_1 (by omega) (by rw [hask]; simp)] at hp; exact hp I ⟨h, Or.inr ⟨hw, rfl⟩⟩ Frf.rf))
                      · refine x_aload_n dX12_beginOne_215 rfl ?_
                        refine x_bipush dX12_beginOne_216 (by decide) ?_
                        refine x_callV1 (mc1 := 0) (ms1 := 0) dX12_beginOne_218 cv_RX12_198 (ci := 12) (k_ob_306 cs) rfl (Nat.le_of_ble_eq_true rfl) (n1 := n - 1) (by omega) (by omega) (by omega) ?_
                        refine sp_X12_opened (x := 20) (t := t) (l := l) (o := o) (sl := sl) (p := p) (cu := cu) (b := b) cs (by omega) (by decide) h hw (by omega) (fun J218 s218 f218 => ?_)
                        refine x_goto 225 dX12_beginOne_221 (by decide) ?_
                        exact x_ireturn dX12_beginOne_225 rfl (by omega) (by omega) (by first
 | (exfalso; omega)
 | (rw [beg_op (x := 40) (by omega) (by rw [show cu.2.2.1 = 40 by omega]; rfl)] at hp; exact hp _ s105 f105)
 | (rw [beg_op (x := 5) (by omega) (by rw [show cu.2.2.1 = 45 by omega]; rfl)] at hp; exact hp _ s120 f120)
 | (rw [beg_op (x := 41) (by omega) (by rw [show cu.2.2.1 = 143 by omega]; rfl)] at hp; exact hp _ s145 f145)
 | (rw [beg_op (x := 2) (by omega) (by rw [show cu.2.2.1 = 144 by omega]; rfl)] at hp; exact hp _ s167 f167)
 | (rw [beg_op (x := 42) (by omega) (by rw [show cu.2.2.1 = 145 by omega]; rfl)] at hp; exact hp _ s188 f188)
 | (have hask : askA p = true := by
      rcases hr209 with hh | hh
      · exact hh.2
      · exfalso; omega
    rw [show begO t l sl p cu b = opO t l 20 p cu b from ask_not (sl := sl) (by omega) hask] at hp; exact hp _ s218 f218)
 | (rw [beg_n2 (by omega) (by omega)] at hp; exact hp I ⟨h, Or.inr ⟨hw, rfl⟩⟩ Frf.rf)
 | (rw [beg_w5 (by rcases hr31 with hh | hh; · exfalso; omega
                   · rcases hh.2 with h9 | h9
                     · exact Or.inl ⟨by omega, h9.2⟩
                     · exact Or.inr ⟨by omega, h9.2⟩)] at hp; exact hp I ⟨h, Or.inr ⟨hw, rfl⟩⟩ Frf.rf)
 | (rw [beg_n0 (by omega) (by omega)] at hp; exact hp _ s89 (Frf.tr (Frf.tr (Fst.frf f81) (FcR.frf f85)) f89))
 | (have hq31 : ¬ ((cu.2.2.1 = 134 ∧ sl = true) ∨ (cu.2.2.1 = 135 ∧ sl = false)) := by
      intro h9
      rcases hr31 with hh | hh
      · exact hh.2 (by rcases h9 with h8 | h8
                       · exact Or.inl ⟨by omega, h8.2⟩
                       · exact Or.inr ⟨by omega, h8.2⟩)
      · omega
    rw [beg_w0 (by omega) hq31] at hp; exact hp _ s89 (Frf.tr (Frf.tr (Fst.frf f81) (FcR.frf f85)) f89))
 | (rw [beg_1 (by omega) (by omega)] at hp; exact hp I ⟨h, Or.inr ⟨hw, rfl⟩⟩ Frf.rf)
 | (have hask : askA p = false := by
      rcases hr209 with hh | hh
      · exfalso; omega
      · exact hh.2
    rw [beg_1 (by omega) (by rw [hask]; simp)] at hp; exact hp I ⟨h, Or.inr ⟨hw, rfl⟩⟩ Frf.rf))
                  · refine x_aload_n dX12_beginOne_185 rfl ?_
                    refine x_bipush dX12_beginOne_186 (by decide) ?_
                    refine x_callV1 (mc1 := 0) (ms1 := 0) dX12_beginOne_188 cv_RX12_198 (ci := 12) (k_ob_306 cs) rfl (Nat.le_of_ble_eq_true rfl) (n1 := n - 1) (by omega) (by omega) (by omega) ?_
                    refine sp_X12_opened (x := 42) (t := t) (l := l) (o := o) (sl := sl) (p := p) (cu := cu) (b := b) cs (by omega) (by decide) h hw (by omega) (fun J188 s188 f188 => ?_)
                    exact x_ireturn dX12_beginOne_191 rfl (by omega) (by omega) (by first
 | (exfalso; omega)
 | (rw [beg_op (x := 40) (by omega) (by rw [show cu.2.2.1 = 40 by omega]; rfl)] at hp; exact hp _ s105 f105)
 | (rw [beg_op (x := 5) (by omega) (by rw [show cu.2.2.1 = 45 by omega]; rfl)] at hp; exact hp _ s120 f120)
 | (rw [beg_op (x := 41) (by omega) (by rw [show cu.2.2.1 = 143 by omega]; rfl)] at hp; exact hp _ s145 f145)
 | (rw [beg_op (x := 2) (by omega) (by rw [show cu.2.2.1 = 144 by omega]; rfl)] at hp; exact hp _ s167 f167)
 | (rw [beg_op (x := 42) (by omega) (by rw [show cu.2.2.1 = 145 by omega]; rfl)] at hp; exact hp _ s188 f188)
 | (have hask : askA p = true := by
      rcases hr209 with hh | hh
      · exact hh.2
      · exfalso; omega
    rw [show begO t l sl p cu b = opO t l 20 p cu b from ask_not (sl := sl) (by omega) hask] at hp; exact hp _ s218 f218)
 | (rw [beg_n2 (by omega) (by omega)] at hp; exact hp I ⟨h, Or.inr ⟨hw, rfl⟩⟩ Frf.rf)
 | (rw [beg_w5 (by rcases hr31 with hh | hh; · exfalso; omega
                   · rcases hh.2 with h9 | h9
                     · exact Or.inl ⟨by omega, h9.2⟩
                     · exact Or.inr ⟨by omega, h9.2⟩)] at hp; exact hp I ⟨h, Or.inr ⟨hw, rfl⟩⟩ Frf.rf)
 | (rw [beg_n0 (by omega) (by omega)] at hp; exact hp _ s89 (Frf.tr (Frf.tr (Fst.frf f81) (FcR.frf f85)) f89))
 | (have hq31 : ¬ ((cu.2.2.1 = 134 ∧ sl = true) ∨ (cu.2.2.1 = 135 ∧ sl = false)) := by
      intro h9
      rcases hr31 with hh | hh
      · exact hh.2 (by rcases h9 with h8 | h8
                       · exact Or.inl ⟨by omega, h8.2⟩
                       · exact Or.inr ⟨by omega, h8.2⟩)
      · omega
    rw [beg_w0 (by omega) hq31] at hp; exact hp _ s89 (Frf.tr (Frf.tr (Fst.frf f81) (FcR.frf f85)) f89))
 | (rw [beg_1 (by omega) (by omega)] at hp; exact hp I ⟨h, Or.inr ⟨hw, rfl⟩⟩ Frf.rf)
 | (have hask : askA p = false := by
      rcases hr209 with hh | hh
      · exfalso; omega
      · exact hh.2
    rw [beg_1 (by omega) (by rw [hask]; simp)] at hp; exact hp I ⟨h, Or.inr ⟨hw, rfl⟩⟩ Frf.rf))
                · refine x_aload_n dX12_beginOne_165 rfl ?_
                  refine x_iconst dX12_beginOne_166 ?_
                  refine x_callV1 (mc1 := 0) (ms1 := 0) dX12_beginOne_167 cv_RX12_198 (ci := 12) (k_ob_306 cs) rfl (Nat.le_of_ble_eq_true rfl) (n1 := n - 1) (by omega) (by omega) (by omega) ?_
                  refine sp_X12_opened (x := 2) (t := t) (l := l) (o := o) (sl := sl) (p := p) (cu := cu) (b := b) cs (by omega) (by decide) h hw (by omega) (fun J167 s167 f167 => ?_)
                  exact x_ireturn dX12_beginOne_170 rfl (by omega) (by omega) (by first
 | (exfalso; omega)
 | (rw [beg_op (x := 40) (by omega) (by rw [show cu.2.2.1 = 40 by omega]; rfl)] at hp; exact hp _ s105 f105)
 | (rw [beg_op (x := 5) (by omega) (by rw [show cu.2.2.1 = 45 by omega]; rfl)] at hp; exact hp _ s120 f120)
 | (rw [beg_op (x := 41) (by omega) (by rw [show cu.2.2.1 = 143 by omega]; rfl)] at hp; exact hp _ s145 f145)
 | (rw [beg_op (x := 2) (by omega) (by rw [show cu.2.2.1 = 144 by omega]; rfl)] at hp; exact hp _ s167 f167)
 | (rw [beg_op (x := 42) (by omega) (by rw [show cu.2.2.1 = 145 by omega]; rfl)] at hp; exact hp _ s188 f188)
 | (have hask : askA p = true := by
      rcases hr209 with hh | hh
      · exact hh.2
      · exfalso; omega
    rw [show begO t l sl p cu b = opO t l 20 p cu b from ask_not (sl := sl) (by omega) hask] at hp; exact hp _ s218 f218)
 | (rw [beg_n2 (by omega) (by omega)] at hp; exact hp I ⟨h, Or.inr ⟨hw, rfl⟩⟩ Frf.rf)
 | (rw [beg_w5 (by rcases hr31 with hh | hh; · exfalso; omega
                   · rcases hh.2 with h9 | h9
                     · exact Or.inl ⟨by omega, h9.2⟩
                     · exact Or.inr ⟨by omega, h9.2⟩)] at hp; exact hp I ⟨h, Or.inr ⟨hw, rfl⟩⟩ Frf.rf)
 | (rw [beg_n0 (by omega) (by omega)] at hp; exact hp _ s89 (Frf.tr (Frf.tr (Fst.frf f81) (FcR.frf f85)) f89))
 | (have hq31 : ¬ ((cu.2.2.1 = 134 ∧ sl = true) ∨ (cu.2.2.1 = 135 ∧ sl = false)) := by
      intro h9
      rcases hr31 with hh | hh
      · exact hh.2 (by rcases h9 with h8 | h8
                       · exact Or.inl ⟨by omega, h8.2⟩
                       · exact Or.inr ⟨by omega, h8.2⟩)
      · omega
    rw [beg_w0 (by omega) hq31] at hp; exact hp _ s89 (Frf.tr (Frf.tr (Fst.frf f81) (FcR.frf f85)) f89))
 | (rw [beg_1 (by omega) (by omega)] at hp; exact hp I ⟨h, Or.inr ⟨hw, rfl⟩⟩ Frf.rf)
 | (have hask : askA p = false := by
      rcases hr209 with hh | hh
      · exfalso; omega
      · exact hh.2
    rw [beg_1 (by omega) (by rw [hask]; simp)] at hp; exact hp I ⟨h, Or.inr ⟨hw, rfl⟩⟩ Frf.rf))
              · refine x_aload_n dX12_beginOne_142 rfl ?_
                refine x_bipush dX12_beginOne_143 (by decide) ?_
                refine x_callV1 (mc1 := 0) (ms1 := 0) dX12_beginOne_145 cv_RX12_198 (ci := 12) (k_ob_306 cs) rfl (Nat.le_of_ble_eq_true rfl) (n1 := n - 1) (by omega) (by omega) (by omega) ?_
                refine sp_X12_opened (x := 41) (t := t) (l := l) (o := o) (sl := sl) (p := p) (cu := cu) (b := b) cs (by omega) (by decide) h hw (by omega) (fun J145 s145 f145 => ?_)
                exact x_ireturn dX12_beginOne_148 rfl (by omega) (by omega) (by first
 | (exfalso; omega)
 | (rw [beg_op (x := 40) (by omega) (by rw [show cu.2.2.1 = 40 by omega]; rfl)] at hp; exact hp _ s105 f105)
 | (rw [beg_op (x := 5) (by omega) (by rw [show cu.2.2.1 = 45 by omega]; rfl)] at hp; exact hp _ s120 f120)
 | (rw [beg_op (x := 41) (by omega) (by rw [show cu.2.2.1 = 143 by omega]; rfl)] at hp; exact hp _ s145 f145)
 | (rw [beg_op (x := 2) (by omega) (by rw [show cu.2.2.1 = 144 by omega]; rfl)] at hp; exact hp _ s167 f167)
 | (rw [beg_op (x := 42) (by omega) (by rw [show cu.2.2.1 = 145 by omega]; rfl)] at hp; exact hp _ s188 f188)
 | (have hask : askA p = true := by
      rcases hr209 with hh | hh
      · exact hh.2
      · exfalso; omega
    rw [show begO t l sl p cu b = opO t l 20 p cu b from ask_not (sl := sl) (by omega) hask] at hp; exact hp _ s218 f218)
 | (rw [beg_n2 (by omega) (by omega)] at hp; exact hp I ⟨h, Or.inr ⟨hw, rfl⟩⟩ Frf.rf)
 | (rw [beg_w5 (by rcases hr31 with hh | hh; · exfalso; omega
                   · rcases hh.2 with h9 | h9
                     · exact Or.inl ⟨by omega, h9.2⟩
                     · exact Or.inr ⟨by omega, h9.2⟩)] at hp; exact hp I ⟨h, Or.inr ⟨hw, rfl⟩⟩ Frf.rf)
 | (rw [beg_n0 (by omega) (by omega)] at hp; exact hp _ s89 (Frf.tr (Frf.tr (Fst.frf f81) (FcR.frf f85)) f89))
 | (have hq31 : ¬ ((cu.2.2.1 = 134 ∧ sl = true) ∨ (cu.2.2.1 = 135 ∧ sl = false)) := by
      intro h9
      rcases hr31 with hh | hh
      · exact hh.2 (by rcases h9 with h8 | h8
                       · exact Or.inl ⟨by omega, h8.2⟩
                       · exact Or.inr ⟨by omega, h8.2⟩)
      · omega
    rw [beg_w0 (by omega) hq31] at hp; exact hp _ s89 (Frf.tr (Frf.tr (Fst.frf f81) (FcR.frf f85)) f89))
 | (rw [beg_1 (by omega) (by omega)] at hp; exact hp I ⟨h, Or.inr ⟨hw, rfl⟩⟩ Frf.rf)
 | (have hask : askA p = false := by
      rcases hr209 with hh | hh
      · exfalso; omega
      · exact hh.2
    rw [beg_1 (by omega) (by rw [hask]; simp)] at hp; exact hp I ⟨h, Or.inr ⟨hw, rfl⟩⟩ Frf.rf))
            · refine x_aload_n dX12_beginOne_118 rfl ?_
              refine x_iconst dX12_beginOne_119 ?_
              refine x_callV1 (mc1 := 0) (ms1 := 0) dX12_beginOne_120 cv_RX12_198 (ci := 12) (k_ob_306 cs) rfl (Nat.le_of_ble_eq_true rfl) (n1 := n - 1) (by omega) (by omega) (by omega) ?_
              refine sp_X12_opened (x := 5) (t := t) (l := l) (o := o) (sl := sl) (p := p) (cu := cu) (b := b) cs (by omega) (by decide) h hw (by omega) (fun J120 s120 f120 => ?_)
              exact x_ireturn dX12_beginOne_123 rfl (by omega) (by omega) (by first
 | (exfalso; omega)
 | (rw [beg_op (x := 40) (by omega) (by rw [show cu.2.2.1 = 40 by omega]; rfl)] at hp; exact hp _ s105 f105)
 | (rw [beg_op (x := 5) (by omega) (by rw [show cu.2.2.1 = 45 by omega]; rfl)] at hp; exact hp _ s120 f120)
 | (rw [beg_op (x := 41) (by omega) (by rw [show cu.2.2.1 = 143 by omega]; rfl)] at hp; exact hp _ s145 f145)
 | (rw [beg_op (x := 2) (by omega) (by rw [show cu.2.2.1 = 144 by omega]; rfl)] at hp; exact hp _ s167 f167)
 | (rw [beg_op (x := 42) (by omega) (by rw [show cu.2.2.1 = 145 by omega]; rfl)] at hp; exact hp _ s188 f188)
 | (have hask : askA p = true := by
      rcases hr209 with hh | hh
      · exact hh.2
      · exfalso; omega
    rw [show begO t l sl p cu b = opO t l 20 p cu b from ask_not (sl := sl) (by omega) hask] at hp; exact hp _ s218 f218)
 | (rw [beg_n2 (by omega) (by omega)] at hp; exact hp I ⟨h, Or.inr ⟨hw, rfl⟩⟩ Frf.rf)
 | (rw [beg_w5 (by rcases hr31 with hh | hh; · exfalso; omega
                   · rcases hh.2 with h9 | h9
                     · exact Or.inl ⟨by omega, h9.2⟩
                     · exact Or.inr ⟨by omega, h9.2⟩)] at hp; exact hp I ⟨h, Or.inr ⟨hw, rfl⟩⟩ Frf.rf)
 | (rw [beg_n0 (by omega) (by omega)] at hp; exact hp _ s89 (Frf.tr (Frf.tr (Fst.frf f81) (FcR.frf f85)) f89))
 | (have hq31 : ¬ ((cu.2.2.1 = 134 ∧ sl = true) ∨ (cu.2.2.1 = 135 ∧ sl = false)) := by
      intro h9
      rcases hr31 with hh | hh
      · exact hh.2 (by rcases h9 with h8 | h8
                       · exact Or.inl ⟨by omega, h8.2⟩
                       · exact Or.inr ⟨by omega, h8.2⟩)
      · omega
    rw [beg_w0 (by omega) hq31] at hp; exact hp _ s89 (Frf.tr (Frf.tr (Fst.frf f81) (FcR.frf f85)) f89))
 | (rw [beg_1 (by omega) (by omega)] at hp; exact hp I ⟨h, Or.inr ⟨hw, rfl⟩⟩ Frf.rf)
 | (have hask : askA p = false := by
      rcases hr209 with hh | hh
      · exfalso; omega
      · exact hh.2
    rw [beg_1 (by omega) (by rw [hask]; simp)] at hp; exact hp I ⟨h, Or.inr ⟨hw, rfl⟩⟩ Frf.rf))
          · refine x_aload_n dX12_beginOne_102 rfl ?_
            refine x_bipush dX12_beginOne_103 (by decide) ?_
            refine x_callV1 (mc1 := 0) (ms1 := 0) dX12_beginOne_105 cv_RX12_198 (ci := 12) (k_ob_306 cs) rfl (Nat.le_of_ble_eq_true rfl) (n1 := n - 1) (by omega) (by omega) (by omega) ?_
            refine sp_X12_opened (x := 40) (t := t) (l := l) (o := o) (sl := sl) (p := p) (cu := cu) (b := b) cs (by omega) (by decide) h hw (by omega) (fun J105 s105 f105 => ?_)
            exact x_ireturn dX12_beginOne_108 rfl (by omega) (by omega) (by first
 | (exfalso; omega)
 | (rw [beg_op (x := 40) (by omega) (by rw [show cu.2.2.1 = 40 by omega]; rfl)] at hp; exact hp _ s105 f105)
 | (rw [beg_op (x := 5) (by omega) (by rw [show cu.2.2.1 = 45 by omega]; rfl)] at hp; exact hp _ s120 f120)
 | (rw [beg_op (x := 41) (by omega) (by rw [show cu.2.2.1 = 143 by omega]; rfl)] at hp; exact hp _ s145 f145)
 | (rw [beg_op (x := 2) (by omega) (by rw [show cu.2.2.1 = 144 by omega]; rfl)] at hp; exact hp _ s167 f167)
 | (rw [beg_op (x := 42) (by omega) (by rw [show cu.2.2.1 = 145 by omega]; rfl)] at hp; exact hp _ s188 f188)
 | (have hask : askA p = true := by
      rcases hr209 with hh | hh
      · exact hh.2
      · exfalso; omega
    rw [show begO t l sl p cu b = opO t l 20 p cu b from ask_not (sl := sl) (by omega) hask] at hp; exact hp _ s218 f218)
 | (rw [beg_n2 (by omega) (by omega)] at hp; exact hp I ⟨h, Or.inr ⟨hw, rfl⟩⟩ Frf.rf)
 | (rw [beg_w5 (by rcases hr31 with hh | hh; · exfalso; omega
                   · rcases hh.2 with h9 | h9
                     · exact Or.inl ⟨by omega, h9.2⟩
                     · exact Or.inr ⟨by omega, h9.2⟩)] at hp; exact hp I ⟨h, Or.inr ⟨hw, rfl⟩⟩ Frf.rf)
 | (rw [beg_n0 (by omega) (by omega)] at hp; exact hp _ s89 (Frf.tr (Frf.tr (Fst.frf f81) (FcR.frf f85)) f89))
 | (have hq31 : ¬ ((cu.2.2.1 = 134 ∧ sl = true) ∨ (cu.2.2.1 = 135 ∧ sl = false)) := by
      intro h9
      rcases hr31 with hh | hh
      · exact hh.2 (by rcases h9 with h8 | h8
                       · exact Or.inl ⟨by omega, h8.2⟩
                       · exact Or.inr ⟨by omega, h8.2⟩)
      · omega
    rw [beg_w0 (by omega) hq31] at hp; exact hp _ s89 (Frf.tr (Frf.tr (Fst.frf f81) (FcR.frf f85)) f89))
 | (rw [beg_1 (by omega) (by omega)] at hp; exact hp I ⟨h, Or.inr ⟨hw, rfl⟩⟩ Frf.rf)
 | (have hask : askA p = false := by
      rcases hr209 with hh | hh
      · exfalso; omega
      · exact hh.2
    rw [beg_1 (by omega) (by rw [hask]; simp)] at hp; exact hp I ⟨h, Or.inr ⟨hw, rfl⟩⟩ Frf.rf))
        · have hnum51 : cu.2.2.1 = 2 → _ := a5n
          refine x_aload_n dX12_beginOne_51 rfl ?_
          refine x_aload_n dX12_beginOne_52 rfl ?_
          refine x_getI dX12_beginOne_53 gf_RX12_115 (k_ob_306 cs) (fun _ _ => rfl) ?_
          refine x_iconst dX12_beginOne_56 ?_
          refine x_icmp_ne 64 dX12_beginOne_57 (by decide) ⟨(by omega), (by omega)⟩ (fun w57 => ?_) (fun w57 => ?_)
          · refine x_iconst dX12_beginOne_64 ?_
            refine x_aload_n dX12_beginOne_65 rfl ?_
            refine x_getI dX12_beginOne_66 gf_RX12_115 (k_ob_306 cs) (fun _ _ => rfl) ?_
            refine x_iconst dX12_beginOne_69 ?_
            refine x_icmp_ne 80 dX12_beginOne_70 (by decide) ⟨(by omega), (by omega)⟩ (fun w70 => ?_) (fun w70 => ?_)
            · refine x_iload_n dX12_beginOne_80 rfl ?_
              refine x_callV2 (mc1 := 0) (ms1 := 0) dX12_beginOne_81 cv_RX12_172 (ci := 12) (k_ob_306 cs) rfl (Nat.le_of_ble_eq_true rfl) (n1 := n - 1) (by omega) (by omega) (by omega) ?_
              have hnum := a5n
              refine sp_X12_emit (o := o) (b := b) (x := 16384 + (cu.2.2.1 - 128)) (op := 1) (v := r21) cs h8 (by have := h1.2.2.2.2.1; omega) ⟨by rw [show (16384 + (cu.2.2.1 - 128)) / 16384 = 1 by omega]; rfl, by omega⟩ h3 (fun J81 c81 e81 f81 => ?_)
              refine x_aload_n dX12_beginOne_84 rfl ?_
              refine x_callV0 (mc1 := 0) (ms1 := 0) dX12_beginOne_85 cv_RX12_186 (ci := 12) (k_ob_306 cs) rfl (Nat.le_of_ble_eq_true rfl) (n1 := n - 1) (by omega) (by omega) (by omega) ?_
              refine sp_nxt (t := t) (l := l) (cu := cu) cs (by omega) (tk_fr h1 (f81.1 310 (by omega) (by omega)) (fun a ha => e81 a (by omega))) (fun J85 k85 s85 m85 f85 => ?_)
              refine x_aload_n dX12_beginOne_88 rfl ?_
              refine x_callV0 (mc1 := 0) (ms1 := 0) dX12_beginOne_89 cv_RX12_195 (ci := 12) (k_ob_306 cs) rfl (Nat.le_of_ble_eq_true rfl) (n1 := n - 1) (by omega) (by omega) (by omega) ?_
              have r85 := rf_em h (by omega) c81 e81 f81 k85 (s85 (by omega)) f85
              refine sp_X12_endOne (t := t) (l := l) (o := o) (sl := sl) (p := p) (cu := adv t l cu.1) (b := b ++ [16384 + (cu.2.2.1 - 128)]) cs (by omega) r85 (fun J89 s89 f89 => ?_)
              exact x_ireturn dX12_beginOne_92 rfl (by omega) (by omega) (by first
 | (exfalso; omega)
 | (rw [beg_op (x := 40) (by omega) (by rw [show cu.2.2.1 = 40 by omega]; rfl)] at hp; exact hp _ s105 f105)
 | (rw [beg_op (x := 5) (by omega) (by rw [show cu.2.2.1 = 45 by omega]; rfl)] at hp; exact hp _ s120 f120)
 | (rw [beg_op (x := 41) (by omega) (by rw [show cu.2.2.1 = 143 by omega]; rfl)] at hp; exact hp _ s145 f145)
 | (rw [beg_op (x := 2) (by omega) (by rw [show cu.2.2.1 = 144 by omega]; rfl)] at hp; exact hp _ s167 f167)
 | (rw [beg_op (x := 42) (by omega) (by rw [show cu.2.2.1 = 145 by omega]; rfl)] at hp; exact hp _ s188 f188)
 | (have hask : askA p = true := by
      rcases hr209 with hh | hh
      · exact hh.2
      · exfalso; omega
    rw [show begO t l sl p cu b = opO t l 20 p cu b from ask_not (sl := sl) (by omega) hask] at hp; exact hp _ s218 f218)
 | (rw [beg_n2 (by omega) (by omega)] at hp; exact hp I ⟨h, Or.inr ⟨hw, rfl⟩⟩ Frf.rf)
 | (rw [beg_w5 (by rcases hr31 with hh | hh; · exfalso; omega
                   · rcases hh.2 with h9 | h9
                     · exact Or.inl ⟨by omega, h9.2⟩
                     · exact Or.inr ⟨by omega, h9.2⟩)] at hp; exact hp I ⟨h, Or.inr ⟨hw, rfl⟩⟩ Frf.rf)
 | (rw [beg_n0 (by omega) (by omega)] at hp; exact hp _ s89 (Frf.tr (Frf.tr (Fst.frf f81) (FcR.frf f85)) f89))
 | (have hq31 : ¬ ((cu.2.2.1 = 134 ∧ sl = true) ∨ (cu.2.2.1 = 135 ∧ sl = false)) := by
      intro h9
      rcases hr31 with hh | hh
      · exact hh.2 (by rcases h9 with h8 | h8
                       · exact Or.inl ⟨by omega, h8.2⟩
                       · exact Or.inr ⟨by omega, h8.2⟩)
      · omega
    rw [beg_w0 (by omega) hq31] at hp; exact hp _ s89 (Frf.tr (Frf.tr (Fst.frf f81) (FcR.frf f85)) f89))
 | (rw [beg_1 (by omega) (by omega)] at hp; exact hp I ⟨h, Or.inr ⟨hw, rfl⟩⟩ Frf.rf)
 | (have hask : askA p = false := by
      rcases hr209 with hh | hh
      · exfalso; omega
      · exact hh.2
    rw [beg_1 (by omega) (by rw [hask]; simp)] at hp; exact hp I ⟨h, Or.inr ⟨hw, rfl⟩⟩ Frf.rf))
            · exfalso; omega
          · exfalso; omega
    · refine x_aload_n dX12_beginOne_29 rfl ?_
      refine x_iload_n dX12_beginOne_30 rfl ?_
      refine x_callV1 (mc1 := 0) (ms1 := 0) dX12_beginOne_31 cv_RX12_192 (ci := 12) (k_ob_306 cs) rfl (Nat.le_of_ble_eq_true rfl) (n1 := n - 1) (by omega) (by omega) (by omega) ?_
      refine sp_X12_isOf (sl := sl) cs (by omega) h4 (fun r31 hr31 => ?_)
      refine x_if_ne 39 dX12_beginOne_34 (by decide) (by omega) (fun w34 => ?_) (fun w34 => ?_)
      · refine x_aload_n dX12_beginOne_39 rfl ?_
        refine x_getI dX12_beginOne_40 gf_RX12_115 (k_ob_306 cs) (fun _ _ => rfl) ?_
        refine x_iconst dX12_beginOne_43 ?_
        refine x_icmp_eq 51 dX12_beginOne_44 (by decide) ⟨(by omega), (by omega)⟩ (fun w44 => ?_) (fun w44 => ?_)
        · have hnum51 : cu.2.2.1 = 2 → _ := a5n
          refine x_aload_n dX12_beginOne_51 rfl ?_
          refine x_aload_n dX12_beginOne_52 rfl ?_
          refine x_getI dX12_beginOne_53 gf_RX12_115 (k_ob_306 cs) (fun _ _ => rfl) ?_
          refine x_iconst dX12_beginOne_56 ?_
          refine x_icmp_ne 64 dX12_beginOne_57 (by decide) ⟨(by omega), (by omega)⟩ (fun w57 => ?_) (fun w57 => ?_)
          · exfalso; omega
          · refine x_iconst dX12_beginOne_60 ?_
            refine x_goto 65 dX12_beginOne_61 (by decide) ?_
            refine x_aload_n dX12_beginOne_65 rfl ?_
            refine x_getI dX12_beginOne_66 gf_RX12_115 (k_ob_306 cs) (fun _ _ => rfl) ?_
            refine x_iconst dX12_beginOne_69 ?_
            refine x_icmp_ne 80 dX12_beginOne_70 (by decide) ⟨(by omega), (by omega)⟩ (fun w70 => ?_) (fun w70 => ?_)
            · exfalso; omega
            · have hnum73 := a5n (by omega)
              refine x_aload_n dX12_beginOne_73 rfl ?_
              refine x_getI dX12_beginOne_74 gf_RX12_121 (k_ob_306 cs) (fun _ _ => rfl) ?_
              refine x_goto 81 dX12_beginOne_77 (by decide) ?_
              refine x_callV2 (mc1 := 0) (ms1 := 0) dX12_beginOne_81 cv_RX12_172 (ci := 12) (k_ob_306 cs) rfl (Nat.le_of_ble_eq_true rfl) (n1 := n - 1) (by omega) (by omega) (by omega) ?_
              have hnum := a5n
              refine sp_X12_emit (o := o) (b := b) (x := cu.2.2.2) (op := 0) (v := I 306 10) cs h8 (by have := h1.2.2.2.2.1; omega) ⟨by rw [show cu.2.2.2 / 16384 = 0 by omega]; rfl, by omega⟩ h3 (fun J81 c81 e81 f81 => ?_)
              refine x_aload_n dX12_beginOne_84 rfl ?_
              refine x_callV0 (mc1 := 0) (ms1 := 0) dX12_beginOne_85 cv_RX12_186 (ci := 12) (k_ob_306 cs) rfl (Nat.le_of_ble_eq_true rfl) (n1 := n - 1) (by omega) (by omega) (by omega) ?_
              refine sp_nxt (t := t) (l := l) (cu := cu) cs (by omega) (tk_fr h1 (f81.1 310 (by omega) (by omega)) (fun a ha => e81 a (by omega))) (fun J85 k85 s85 m85 f85 => ?_)
              refine x_aload_n dX12_beginOne_88 rfl ?_
              refine x_callV0 (mc1 := 0) (ms1 := 0) dX12_beginOne_89 cv_RX12_195 (ci := 12) (k_ob_306 cs) rfl (Nat.le_of_ble_eq_true rfl) (n1 := n - 1) (by omega) (by omega) (by omega) ?_
              have r85 := rf_em h (by omega) c81 e81 f81 k85 (s85 (by omega)) f85
              refine sp_X12_endOne (t := t) (l := l) (o := o) (sl := sl) (p := p) (cu := adv t l cu.1) (b := b ++ [cu.2.2.2]) cs (by omega) r85 (fun J89 s89 f89 => ?_)
              exact x_ireturn dX12_beginOne_92 rfl (by omega) (by omega) (by first
 | (exfalso; omega)
 | (rw [beg_op (x := 40) (by omega) (by rw [show cu.2.2.1 = 40 by omega]; rfl)] at hp; exact hp _ s105 f105)
 | (rw [beg_op (x := 5) (by omega) (by rw [show cu.2.2.1 = 45 by omega]; rfl)] at hp; exact hp _ s120 f120)
 | (rw [beg_op (x := 41) (by omega) (by rw [show cu.2.2.1 = 143 by omega]; rfl)] at hp; exact hp _ s145 f145)
 | (rw [beg_op (x := 2) (by omega) (by rw [show cu.2.2.1 = 144 by omega]; rfl)] at hp; exact hp _ s167 f167)
 | (rw [beg_op (x := 42) (by omega) (by rw [show cu.2.2.1 = 145 by omega]; rfl)] at hp; exact hp _ s188 f188)
 | (have hask : askA p = true := by
      rcases hr209 with hh | hh
      · exact hh.2
      · exfalso; omega
    rw [show begO t l sl p cu b = opO t l 20 p cu b from ask_not (sl := sl) (by omega) hask] at hp; exact hp _ s218 f218)
 | (rw [beg_n2 (by omega) (by omega)] at hp; exact hp I ⟨h, Or.inr ⟨hw, rfl⟩⟩ Frf.rf)
 | (rw [beg_w5 (by rcases hr31 with hh | hh; · exfalso; omega
                   · rcases hh.2 with h9 | h9
                     · exact Or.inl ⟨by omega, h9.2⟩
                     · exact Or.inr ⟨by omega, h9.2⟩)] at hp; exact hp I ⟨h, Or.inr ⟨hw, rfl⟩⟩ Frf.rf)
 | (rw [beg_n0 (by omega) (by omega)] at hp; exact hp _ s89 (Frf.tr (Frf.tr (Fst.frf f81) (FcR.frf f85)) f89))
 | (have hq31 : ¬ ((cu.2.2.1 = 134 ∧ sl = true) ∨ (cu.2.2.1 = 135 ∧ sl = false)) := by
      intro h9
      rcases hr31 with hh | hh
      · exact hh.2 (by rcases h9 with h8 | h8
                       · exact Or.inl ⟨by omega, h8.2⟩
                       · exact Or.inr ⟨by omega, h8.2⟩)
      · omega
    rw [beg_w0 (by omega) hq31] at hp; exact hp _ s89 (Frf.tr (Frf.tr (Fst.frf f81) (FcR.frf f85)) f89))
 | (rw [beg_1 (by omega) (by omega)] at hp; exact hp I ⟨h, Or.inr ⟨hw, rfl⟩⟩ Frf.rf)
 | (have hask : askA p = false := by
      rcases hr209 with hh | hh
      · exfalso; omega
      · exact hh.2
    rw [beg_1 (by omega) (by rw [hask]; simp)] at hp; exact hp I ⟨h, Or.inr ⟨hw, rfl⟩⟩ Frf.rf))
        · refine x_iload_n dX12_beginOne_47 rfl ?_
          refine x_if_lt 93 dX12_beginOne_48 (by decide) (by omega) (fun w48 => ?_) (fun w48 => ?_)
          · refine x_aload_n dX12_beginOne_93 rfl ?_
            refine x_getI dX12_beginOne_94 gf_RX12_115 (k_ob_306 cs) (fun _ _ => rfl) ?_
            refine x_bipush dX12_beginOne_97 (by decide) ?_
            refine x_icmp_ne 109 dX12_beginOne_99 (by decide) ⟨(by omega), (by omega)⟩ (fun w99 => ?_) (fun w99 => ?_)
            · refine x_aload_n dX12_beginOne_109 rfl ?_
              refine x_getI dX12_beginOne_110 gf_RX12_115 (k_ob_306 cs) (fun _ _ => rfl) ?_
              refine x_bipush dX12_beginOne_113 (by decide) ?_
              refine x_icmp_ne 124 dX12_beginOne_115 (by decide) ⟨(by omega), (by omega)⟩ (fun w115 => ?_) (fun w115 => ?_)
              · refine x_aload_n dX12_beginOne_124 rfl ?_
                refine x_bipush dX12_beginOne_125 (by decide) ?_
                refine x_bipush dX12_beginOne_127 (by decide) ?_
                refine x_bipush dX12_beginOne_129 (by decide) ?_
                refine x_bipush dX12_beginOne_131 (by decide) ?_
                refine x_callS4 (mc1 := 0) (ms1 := 0) dX12_beginOne_133 cv_RX12_145 (Nat.le_of_ble_eq_true rfl) (n1 := n - 1) (by omega) (by omega) (by omega) ?_
                refine sp_X12_w4 (by omega) ?_ (by omega)
                refine x_callV1 (mc1 := 0) (ms1 := 0) dX12_beginOne_136 cv_RX12_201 (ci := 12) (k_ob_306 cs) rfl (Nat.le_of_ble_eq_true rfl) (n1 := n - 1) (by omega) (by omega) (by omega) ?_
                refine sp_isW (cu := cu) (K := 143) cs (by decide) h1.2.1 (fun r136 hr136 => ?_)
                refine x_if_eq 149 dX12_beginOne_139 (by decide) (by omega) (fun w139 => ?_) (fun w139 => ?_)
                · refine x_aload_n dX12_beginOne_149 rfl ?_
                  refine x_bipush dX12_beginOne_150 (by decide) ?_
                  refine x_bipush dX12_beginOne_152 (by decide) ?_
                  refine x_bipush dX12_beginOne_154 (by decide) ?_
                  refine x_callS3 (mc1 := 0) (ms1 := 0) dX12_beginOne_156 cv_RX12_141 (Nat.le_of_ble_eq_true rfl) (n1 := n - 1) (by omega) (by omega) (by omega) ?_
                  refine sp_X12_w3 (by omega) ?_ (by omega)
                  refine x_callV1 (mc1 := 0) (ms1 := 0) dX12_beginOne_159 cv_RX12_201 (ci := 12) (k_ob_306 cs) rfl (Nat.le_of_ble_eq_true rfl) (n1 := n - 1) (by omega) (by omega) (by omega) ?_
                  refine sp_isW (cu := cu) (K := 144) cs (by decide) h1.2.1 (fun r159 hr159 => ?_)
                  refine x_if_eq 171 dX12_beginOne_162 (by decide) (by omega) (fun w162 => ?_) (fun w162 => ?_)
                  · refine x_aload_n dX12_beginOne_171 rfl ?_
                    refine x_bipush dX12_beginOne_172 (by decide) ?_
                    refine x_bipush dX12_beginOne_174 (by decide) ?_
                    refine x_callS2 (mc1 := 0) (ms1 := 0) dX12_beginOne_176 cv_RX12_137 (Nat.le_of_ble_eq_true rfl) (n1 := n - 1) (by omega) (by omega) (by omega) ?_
                    refine sp_X12_w2 (by omega) ?_ (by omega)
                    refine x_callV1 (mc1 := 0) (ms1 := 0) dX12_beginOne_179 cv_RX12_201 (ci := 12) (k_ob_306 cs) rfl (Nat.le_of_ble_eq_true rfl) (n1 := n - 1) (by omega) (by omega) (by omega) ?_
                    refine sp_isW (cu := cu) (K := 145) cs (by decide) h1.2.1 (fun r179 hr179 => ?_)
                    refine x_if_eq 192 dX12_beginOne_182 (by decide) (by omega) (fun w182 => ?_) (fun w182 => ?_)
                    · refine x_aload_n dX12_beginOne_192 rfl ?_
                      refine x_bipush dX12_beginOne_193 (by decide) ?_
                      refine x_bipush dX12_beginOne_195 (by decide) ?_
                      refine x_bipush dX12_beginOne_197 (by decide) ?_
                      refine x_callS3 (mc1 := 0) (ms1 := 0) dX12_beginOne_199 cv_RX12_141 (Nat.le_of_ble_eq_true rfl) (n1 := n - 1) (by omega) (by omega) (by omega) ?_
                      refine sp_X12_w3 (by omega) ?_ (by omega)
                      refine x_callV1 (mc1 := 0) (ms1 := 0) dX12_beginOne_202 cv_RX12_201 (ci := 12) (k_ob_306 cs) rfl (Nat.le_of_ble_eq_true rfl) (n1 := n - 1) (by omega) (by omega) (by omega) ?_
                      refine sp_isW (cu := cu) (K := 149) cs (by decide) h1.2.1 (fun r202 hr202 => ?_)
                      refine x_if_eq 224 dX12_beginOne_205 (by decide) (by omega) (fun w205 => ?_) (fun w205 => ?_)
                      · refine x_iconst dX12_beginOne_224 ?_
                        exact x_ireturn dX12_beginOne_225 rfl (by omega) (by omega) (by first
 | (exfalso; omega)
 | (rw [beg_op (x := 40) (by omega) (by rw [show cu.2.2.1 = 40 by omega]; rfl)] at hp; exact hp _ s105 f105)
 | (rw [beg_op (x := 5) (by omega) (by rw [show cu.2.2.1 = 45 by omega]; rfl)] at hp; exact hp _ s120 f120)
 | (rw [beg_op (x := 41) (by omega) (by rw [show cu.2.2.1 = 143 by omega]; rfl)] at hp; exact hp _ s145 f145)
 | (rw [beg_op (x := 2) (by omega) (by rw [show cu.2.2.1 = 144 by omega]; rfl)] at hp; exact hp _ s167 f167)
 | (rw [beg_op (x := 42) (by omega) (by rw [show cu.2.2.1 = 145 by omega]; rfl)] at hp; exact hp _ s188 f188)
 | (have hask : askA p = true := by
      rcases hr209 with hh | hh
      · exact hh.2
      · exfalso; omega
    rw [show begO t l sl p cu b = opO t l 20 p cu b from ask_not (sl := sl) (by omega) hask] at hp; exact hp _ s218 f218)
 | (rw [beg_n2 (by omega) (by omega)] at hp; exact hp I ⟨h, Or.inr ⟨hw, rfl⟩⟩ Frf.rf)
 | (rw [beg_w5 (by rcases hr31 with hh | hh; · exfalso; omega
                   · rcases hh.2 with h9 | h9
                     · exact Or.inl ⟨by omega, h9.2⟩
                     · exact Or.inr ⟨by omega, h9.2⟩)] at hp; exact hp I ⟨h, Or.inr ⟨hw, rfl⟩⟩ Frf.rf)
 | (rw [beg_n0 (by omega) (by omega)] at hp; exact hp _ s89 (Frf.tr (Frf.tr (Fst.frf f81) (FcR.frf f85)) f89))
 | (have hq31 : ¬ ((cu.2.2.1 = 134 ∧ sl = true) ∨ (cu.2.2.1 = 135 ∧ sl = false)) := by
      intro h9
      rcases hr31 with hh | hh
      · exact hh.2 (by rcases h9 with h8 | h8
                       · exact Or.inl ⟨by omega, h8.2⟩
                       · exact Or.inr ⟨by omega, h8.2⟩)
      · omega
    rw [beg_w0 (by omega) hq31] at hp; exact hp _ s89 (Frf.tr (Frf.tr (Fst.frf f81) (FcR.frf f85)) f89))
 | (rw [beg_1 (by omega) (by omega)] at hp; exact hp I ⟨h, Or.inr ⟨hw, rfl⟩⟩ Frf.rf)
 | (have hask : askA p = false := by
      rcases hr209 with hh | hh
      · exfalso; omega
      · exact hh.2
    rw [beg_1 (by omega) (by rw [hask]; simp)] at hp; exact hp I ⟨h, Or.inr ⟨hw, rfl⟩⟩ Frf.rf))
                      · refine x_aload_n dX12_beginOne_208 rfl ?_
                        refine x_callV0 (mc1 := 0) (ms1 := 0) dX12_beginOne_209 cv_RX12_205 (ci := 12) (k_ob_306 cs) rfl (Nat.le_of_ble_eq_true rfl) (n1 := n - 1) (by omega) (by omega) (by omega) ?_
                        refine sp_X12_isAskAhead cs (by omega) h2 h5 (by omega) (fun r209 hr209 => ?_)
                        refine x_if_eq 224 dX12_beginOne_212 (by decide) (by omega) (fun w212 => ?_) (fun w212 => ?_)
                        · refine x_iconst dX12_beginOne_224 ?_
                          exact x_ireturn dX12_beginOne_225 rfl (by omega) (by omega) (by first
 | (exfalso; omega)
 | (rw [beg_op (x := 40) (by omega) (by rw [show cu.2.2.1 = 40 by omega]; rfl)] at hp; exact hp _ s105 f105)
 | (rw [beg_op (x := 5) (by omega) (by rw [show cu.2.2.1 = 45 by omega]; rfl)] at hp; exact hp _ s120 f120)
 | (rw [beg_op (x := 41) (by omega) (by rw [show cu.2.2.1 = 143 by omega]; rfl)] at hp; exact hp _ s145 f145)
 | (rw [beg_op (x := 2) (by omega) (by rw [show cu.2.2.1 = 144 by omega]; rfl)] at hp; exact hp _ s167 f167)
 | (rw [beg_op (x := 42) (by omega) (by rw [show cu.2.2.1 = 145 by omega]; rfl)] at hp; exact hp _ s188 f188)
 | (have hask : askA p = true := by
      rcases hr209 with hh | hh
      · exact hh.2
      · exfalso; omega
    rw [show begO t l sl p cu b = opO t l 20 p cu b from ask_not (sl := sl) (by omega) hask] at hp; exact hp _ s218 f218)
 | (rw [beg_n2 (by omega) (by omega)] at hp; exact hp I ⟨h, Or.inr ⟨hw, rfl⟩⟩ Frf.rf)
 | (rw [beg_w5 (by rcases hr31 with hh | hh; · exfalso; omega
                   · rcases hh.2 with h9 | h9
                     · exact Or.inl ⟨by omega, h9.2⟩
                     · exact Or.inr ⟨by omega, h9.2⟩)] at hp; exact hp I ⟨h, Or.inr ⟨hw, rfl⟩⟩ Frf.rf)
 | (rw [beg_n0 (by omega) (by omega)] at hp; exact hp _ s89 (Frf.tr (Frf.tr (Fst.frf f81) (FcR.frf f85)) f89))
 | (have hq31 : ¬ ((cu.2.2.1 = 134 ∧ sl = true) ∨ (cu.2.2.1 = 135 ∧ sl = false)) := by
      intro h9
      rcases hr31 with hh | hh
      · exact hh.2 (by rcases h9 with h8 | h8
                       · exact Or.inl ⟨by omega, h8.2⟩
                       · exact Or.inr ⟨by omega, h8.2⟩)
      · omega
    rw [beg_w0 (by omega) hq31] at hp; exact hp _ s89 (Frf.tr (Frf.tr (Fst.frf f81) (FcR.frf f85)) f89))
 | (rw [beg_1 (by omega) (by omega)] at hp; exact hp I ⟨h, Or.inr ⟨hw, rfl⟩⟩ Frf.rf)
 | (have hask : askA p = false := by
      rcases hr209 with hh | hh
      · exfalso; omega
      · exact hh.2
    rw [beg_1 (by omega) (by rw [hask]; simp)] at hp; exact hp I ⟨h, Or.inr ⟨hw, rfl⟩⟩ Frf.rf))
                        · refine x_aload_n dX12_beginOne_215 rfl ?_
                          refine x_bipush dX12_beginOne_216 (by decide) ?_
                          refine x_callV1 (mc1 := 0) (ms1 := 0) dX12_beginOne_218 cv_RX12_198 (ci := 12) (k_ob_306 cs) rfl (Nat.le_of_ble_eq_true rfl) (n1 := n - 1) (by omega) (by omega) (by omega) ?_
                          refine sp_X12_opened (x := 20) (t := t) (l := l) (o := o) (sl := sl) (p := p) (cu := cu) (b := b) cs (by omega) (by decide) h hw (by omega) (fun J218 s218 f218 => ?_)
                          refine x_goto 225 dX12_beginOne_221 (by decide) ?_
                          exact x_ireturn dX12_beginOne_225 rfl (by omega) (by omega) (by first
 | (exfalso; omega)
 | (rw [beg_op (x := 40) (by omega) (by rw [show cu.2.2.1 = 40 by omega]; rfl)] at hp; exact hp _ s105 f105)
 | (rw [beg_op (x := 5) (by omega) (by rw [show cu.2.2.1 = 45 by omega]; rfl)] at hp; exact hp _ s120 f120)
 | (rw [beg_op (x := 41) (by omega) (by rw [show cu.2.2.1 = 143 by omega]; rfl)] at hp; exact hp _ s145 f145)
 | (rw [beg_op (x := 2) (by omega) (by rw [show cu.2.2.1 = 144 by omega]; rfl)] at hp; exact hp _ s167 f167)
 | (rw [beg_op (x := 42) (by omega) (by rw [show cu.2.2.1 = 145 by omega]; rfl)] at hp; exact hp _ s188 f188)
 | (have hask : askA p = true := by
      rcases hr209 with hh | hh
      · exact hh.2
      · exfalso; omega
    rw [show begO t l sl p cu b = opO t l 20 p cu b from ask_not (sl := sl) (by omega) hask] at hp; exact hp _ s218 f218)
 | (rw [beg_n2 (by omega) (by omega)] at hp; exact hp I ⟨h, Or.inr ⟨hw, rfl⟩⟩ Frf.rf)
 | (rw [beg_w5 (by rcases hr31 with hh | hh; · exfalso; omega
                   · rcases hh.2 with h9 | h9
                     · exact Or.inl ⟨by omega, h9.2⟩
                     · exact Or.inr ⟨by omega, h9.2⟩)] at hp; exact hp I ⟨h, Or.inr ⟨hw, rfl⟩⟩ Frf.rf)
 | (rw [beg_n0 (by omega) (by omega)] at hp; exact hp _ s89 (Frf.tr (Frf.tr (Fst.frf f81) (FcR.frf f85)) f89))
 | (have hq31 : ¬ ((cu.2.2.1 = 134 ∧ sl = true) ∨ (cu.2.2.1 = 135 ∧ sl = false)) := by
      intro h9
      rcases hr31 with hh | hh
      · exact hh.2 (by rcases h9 with h8 | h8
                       · exact Or.inl ⟨by omega, h8.2⟩
                       · exact Or.inr ⟨by omega, h8.2⟩)
      · omega
    rw [beg_w0 (by omega) hq31] at hp; exact hp _ s89 (Frf.tr (Frf.tr (Fst.frf f81) (FcR.frf f85)) f89))
 | (rw [beg_1 (by omega) (by omega)] at hp; exact hp I ⟨h, Or.inr ⟨hw, rfl⟩⟩ Frf.rf)
 | (have hask : askA p = false := by
      rcases hr209 with hh | hh
      · exfalso; omega
      · exact hh.2
    rw [beg_1 (by omega) (by rw [hask]; simp)] at hp; exact hp I ⟨h, Or.inr ⟨hw, rfl⟩⟩ Frf.rf))
                    · refine x_aload_n dX12_beginOne_185 rfl ?_
                      refine x_bipush dX12_beginOne_186 (by decide) ?_
                      refine x_callV1 (mc1 := 0) (ms1 := 0) dX12_beginOne_188 cv_RX12_198 (ci := 12) (k_ob_306 cs) rfl (Nat.le_of_ble_eq_true rfl) (n1 := n - 1) (by omega) (by omega) (by omega) ?_
                      refine sp_X12_opened (x := 42) (t := t) (l := l) (o := o) (sl := sl) (p := p) (cu := cu) (b := b) cs (by omega) (by decide) h hw (by omega) (fun J188 s188 f188 => ?_)
                      exact x_ireturn dX12_beginOne_191 rfl (by omega) (by omega) (by first
 | (exfalso; omega)
 | (rw [beg_op (x := 40) (by omega) (by rw [show cu.2.2.1 = 40 by omega]; rfl)] at hp; exact hp _ s105 f105)
 | (rw [beg_op (x := 5) (by omega) (by rw [show cu.2.2.1 = 45 by omega]; rfl)] at hp; exact hp _ s120 f120)
 | (rw [beg_op (x := 41) (by omega) (by rw [show cu.2.2.1 = 143 by omega]; rfl)] at hp; exact hp _ s145 f145)
 | (rw [beg_op (x := 2) (by omega) (by rw [show cu.2.2.1 = 144 by omega]; rfl)] at hp; exact hp _ s167 f167)
 | (rw [beg_op (x := 42) (by omega) (by rw [show cu.2.2.1 = 145 by omega]; rfl)] at hp; exact hp _ s188 f188)
 | (have hask : askA p = true := by
      rcases hr209 with hh | hh
      · exact hh.2
      · exfalso; omega
    rw [show begO t l sl p cu b = opO t l 20 p cu b from ask_not (sl := sl) (by omega) hask] at hp; exact hp _ s218 f218)
 | (rw [beg_n2 (by omega) (by omega)] at hp; exact hp I ⟨h, Or.inr ⟨hw, rfl⟩⟩ Frf.rf)
 | (rw [beg_w5 (by rcases hr31 with hh | hh; · exfalso; omega
                   · rcases hh.2 with h9 | h9
                     · exact Or.inl ⟨by omega, h9.2⟩
                     · exact Or.inr ⟨by omega, h9.2⟩)] at hp; exact hp I ⟨h, Or.inr ⟨hw, rfl⟩⟩ Frf.rf)
 | (rw [beg_n0 (by omega) (by omega)] at hp; exact hp _ s89 (Frf.tr (Frf.tr (Fst.frf f81) (FcR.frf f85)) f89))
 | (have hq31 : ¬ ((cu.2.2.1 = 134 ∧ sl = true) ∨ (cu.2.2.1 = 135 ∧ sl = false)) := by
      intro h9
      rcases hr31 with hh | hh
      · exact hh.2 (by rcases h9 with h8 | h8
                       · exact Or.inl ⟨by omega, h8.2⟩
                       · exact Or.inr ⟨by omega, h8.2⟩)
      · omega
    rw [beg_w0 (by omega) hq31] at hp; exact hp _ s89 (Frf.tr (Frf.tr (Fst.frf f81) (FcR.frf f85)) f89))
 | (rw [beg_1 (by omega) (by omega)] at hp; exact hp I ⟨h, Or.inr ⟨hw, rfl⟩⟩ Frf.rf)
 | (have hask : askA p = false := by
      rcases hr209 with hh | hh
      · exfalso; omega
      · exact hh.2
    rw [beg_1 (by omega) (by rw [hask]; simp)] at hp; exact hp I ⟨h, Or.inr ⟨hw, rfl⟩⟩ Frf.rf))
                  · refine x_aload_n dX12_beginOne_165 rfl ?_
                    refine x_iconst dX12_beginOne_166 ?_
                    refine x_callV1 (mc1 := 0) (ms1 := 0) dX12_beginOne_167 cv_RX12_198 (ci := 12) (k_ob_306 cs) rfl (Nat.le_of_ble_eq_true rfl) (n1 := n - 1) (by omega) (by omega) (by omega) ?_
                    refine sp_X12_opened (x := 2) (t := t) (l := l) (o := o) (sl := sl) (p := p) (cu := cu) (b := b) cs (by omega) (by decide) h hw (by omega) (fun J167 s167 f167 => ?_)
                    exact x_ireturn dX12_beginOne_170 rfl (by omega) (by omega) (by first
 | (exfalso; omega)
 | (rw [beg_op (x := 40) (by omega) (by rw [show cu.2.2.1 = 40 by omega]; rfl)] at hp; exact hp _ s105 f105)
 | (rw [beg_op (x := 5) (by omega) (by rw [show cu.2.2.1 = 45 by omega]; rfl)] at hp; exact hp _ s120 f120)
 | (rw [beg_op (x := 41) (by omega) (by rw [show cu.2.2.1 = 143 by omega]; rfl)] at hp; exact hp _ s145 f145)
 | (rw [beg_op (x := 2) (by omega) (by rw [show cu.2.2.1 = 144 by omega]; rfl)] at hp; exact hp _ s167 f167)
 | (rw [beg_op (x := 42) (by omega) (by rw [show cu.2.2.1 = 145 by omega]; rfl)] at hp; exact hp _ s188 f188)
 | (have hask : askA p = true := by
      rcases hr209 with hh | hh
      · exact hh.2
      · exfalso; omega
    rw [show begO t l sl p cu b = opO t l 20 p cu b from ask_not (sl := sl) (by omega) hask] at hp; exact hp _ s218 f218)
 | (rw [beg_n2 (by omega) (by omega)] at hp; exact hp I ⟨h, Or.inr ⟨hw, rfl⟩⟩ Frf.rf)
 | (rw [beg_w5 (by rcases hr31 with hh | hh; · exfalso; omega
                   · rcases hh.2 with h9 | h9
                     · exact Or.inl ⟨by omega, h9.2⟩
                     · exact Or.inr ⟨by omega, h9.2⟩)] at hp; exact hp I ⟨h, Or.inr ⟨hw, rfl⟩⟩ Frf.rf)
 | (rw [beg_n0 (by omega) (by omega)] at hp; exact hp _ s89 (Frf.tr (Frf.tr (Fst.frf f81) (FcR.frf f85)) f89))
 | (have hq31 : ¬ ((cu.2.2.1 = 134 ∧ sl = true) ∨ (cu.2.2.1 = 135 ∧ sl = false)) := by
      intro h9
      rcases hr31 with hh | hh
      · exact hh.2 (by rcases h9 with h8 | h8
                       · exact Or.inl ⟨by omega, h8.2⟩
                       · exact Or.inr ⟨by omega, h8.2⟩)
      · omega
    rw [beg_w0 (by omega) hq31] at hp; exact hp _ s89 (Frf.tr (Frf.tr (Fst.frf f81) (FcR.frf f85)) f89))
 | (rw [beg_1 (by omega) (by omega)] at hp; exact hp I ⟨h, Or.inr ⟨hw, rfl⟩⟩ Frf.rf)
 | (have hask : askA p = false := by
      rcases hr209 with hh | hh
      · exfalso; omega
      · exact hh.2
    rw [beg_1 (by omega) (by rw [hask]; simp)] at hp; exact hp I ⟨h, Or.inr ⟨hw, rfl⟩⟩ Frf.rf))
                · refine x_aload_n dX12_beginOne_142 rfl ?_
                  refine x_bipush dX12_beginOne_143 (by decide) ?_
                  refine x_callV1 (mc1 := 0) (ms1 := 0) dX12_beginOne_145 cv_RX12_198 (ci := 12) (k_ob_306 cs) rfl (Nat.le_of_ble_eq_true rfl) (n1 := n - 1) (by omega) (by omega) (by omega) ?_
                  refine sp_X12_opened (x := 41) (t := t) (l := l) (o := o) (sl := sl) (p := p) (cu := cu) (b := b) cs (by omega) (by decide) h hw (by omega) (fun J145 s145 f145 => ?_)
                  exact x_ireturn dX12_beginOne_148 rfl (by omega) (by omega) (by first
 | (exfalso; omega)
 | (rw [beg_op (x := 40) (by omega) (by rw [show cu.2.2.1 = 40 by omega]; rfl)] at hp; exact hp _ s105 f105)
 | (rw [beg_op (x := 5) (by omega) (by rw [show cu.2.2.1 = 45 by omega]; rfl)] at hp; exact hp _ s120 f120)
 | (rw [beg_op (x := 41) (by omega) (by rw [show cu.2.2.1 = 143 by omega]; rfl)] at hp; exact hp _ s145 f145)
 | (rw [beg_op (x := 2) (by omega) (by rw [show cu.2.2.1 = 144 by omega]; rfl)] at hp; exact hp _ s167 f167)
 | (rw [beg_op (x := 42) (by omega) (by rw [show cu.2.2.1 = 145 by omega]; rfl)] at hp; exact hp _ s188 f188)
 | (have hask : askA p = true := by
      rcases hr209 with hh | hh
      · exact hh.2
      · exfalso; omega
    rw [show begO t l sl p cu b = opO t l 20 p cu b from ask_not (sl := sl) (by omega) hask] at hp; exact hp _ s218 f218)
 | (rw [beg_n2 (by omega) (by omega)] at hp; exact hp I ⟨h, Or.inr ⟨hw, rfl⟩⟩ Frf.rf)
 | (rw [beg_w5 (by rcases hr31 with hh | hh; · exfalso; omega
                   · rcases hh.2 with h9 | h9
                     · exact Or.inl ⟨by omega, h9.2⟩
                     · exact Or.inr ⟨by omega, h9.2⟩)] at hp; exact hp I ⟨h, Or.inr ⟨hw, rfl⟩⟩ Frf.rf)
 | (rw [beg_n0 (by omega) (by omega)] at hp; exact hp _ s89 (Frf.tr (Frf.tr (Fst.frf f81) (FcR.frf f85)) f89))
 | (have hq31 : ¬ ((cu.2.2.1 = 134 ∧ sl = true) ∨ (cu.2.2.1 = 135 ∧ sl = false)) := by
      intro h9
      rcases hr31 with hh | hh
      · exact hh.2 (by rcases h9 with h8 | h8
                       · exact Or.inl ⟨by omega, h8.2⟩
                       · exact Or.inr ⟨by omega, h8.2⟩)
      · omega
    rw [beg_w0 (by omega) hq31] at hp; exact hp _ s89 (Frf.tr (Frf.tr (Fst.frf f81) (FcR.frf f85)) f89))
 | (rw [beg_1 (by omega) (by omega)] at hp; exact hp I ⟨h, Or.inr ⟨hw, rfl⟩⟩ Frf.rf)
 | (have hask : askA p = false := by
      rcases hr209 with hh | hh
      · exfalso; omega
      · exact hh.2
    rw [beg_1 (by omega) (by rw [hask]; simp)] at hp; exact hp I ⟨h, Or.inr ⟨hw, rfl⟩⟩ Frf.rf))
              · refine x_aload_n dX12_beginOne_118 rfl ?_
                refine x_iconst dX12_beginOne_119 ?_
                refine x_callV1 (mc1 := 0) (ms1 := 0) dX12_beginOne_120 cv_RX12_198 (ci := 12) (k_ob_306 cs) rfl (Nat.le_of_ble_eq_true rfl) (n1 := n - 1) (by omega) (by omega) (by omega) ?_
                refine sp_X12_opened (x := 5) (t := t) (l := l) (o := o) (sl := sl) (p := p) (cu := cu) (b := b) cs (by omega) (by decide) h hw (by omega) (fun J120 s120 f120 => ?_)
                exact x_ireturn dX12_beginOne_123 rfl (by omega) (by omega) (by first
 | (exfalso; omega)
 | (rw [beg_op (x := 40) (by omega) (by rw [show cu.2.2.1 = 40 by omega]; rfl)] at hp; exact hp _ s105 f105)
 | (rw [beg_op (x := 5) (by omega) (by rw [show cu.2.2.1 = 45 by omega]; rfl)] at hp; exact hp _ s120 f120)
 | (rw [beg_op (x := 41) (by omega) (by rw [show cu.2.2.1 = 143 by omega]; rfl)] at hp; exact hp _ s145 f145)
 | (rw [beg_op (x := 2) (by omega) (by rw [show cu.2.2.1 = 144 by omega]; rfl)] at hp; exact hp _ s167 f167)
 | (rw [beg_op (x := 42) (by omega) (by rw [show cu.2.2.1 = 145 by omega]; rfl)] at hp; exact hp _ s188 f188)
 | (have hask : askA p = true := by
      rcases hr209 with hh | hh
      · exact hh.2
      · exfalso; omega
    rw [show begO t l sl p cu b = opO t l 20 p cu b from ask_not (sl := sl) (by omega) hask] at hp; exact hp _ s218 f218)
 | (rw [beg_n2 (by omega) (by omega)] at hp; exact hp I ⟨h, Or.inr ⟨hw, rfl⟩⟩ Frf.rf)
 | (rw [beg_w5 (by rcases hr31 with hh | hh; · exfalso; omega
                   · rcases hh.2 with h9 | h9
                     · exact Or.inl ⟨by omega, h9.2⟩
                     · exact Or.inr ⟨by omega, h9.2⟩)] at hp; exact hp I ⟨h, Or.inr ⟨hw, rfl⟩⟩ Frf.rf)
 | (rw [beg_n0 (by omega) (by omega)] at hp; exact hp _ s89 (Frf.tr (Frf.tr (Fst.frf f81) (FcR.frf f85)) f89))
 | (have hq31 : ¬ ((cu.2.2.1 = 134 ∧ sl = true) ∨ (cu.2.2.1 = 135 ∧ sl = false)) := by
      intro h9
      rcases hr31 with hh | hh
      · exact hh.2 (by rcases h9 with h8 | h8
                       · exact Or.inl ⟨by omega, h8.2⟩
                       · exact Or.inr ⟨by omega, h8.2⟩)
      · omega
    rw [beg_w0 (by omega) hq31] at hp; exact hp _ s89 (Frf.tr (Frf.tr (Fst.frf f81) (FcR.frf f85)) f89))
 | (rw [beg_1 (by omega) (by omega)] at hp; exact hp I ⟨h, Or.inr ⟨hw, rfl⟩⟩ Frf.rf)
 | (have hask : askA p = false := by
      rcases hr209 with hh | hh
      · exfalso; omega
      · exact hh.2
    rw [beg_1 (by omega) (by rw [hask]; simp)] at hp; exact hp I ⟨h, Or.inr ⟨hw, rfl⟩⟩ Frf.rf))
            · refine x_aload_n dX12_beginOne_102 rfl ?_
              refine x_bipush dX12_beginOne_103 (by decide) ?_
              refine x_callV1 (mc1 := 0) (ms1 := 0) dX12_beginOne_105 cv_RX12_198 (ci := 12) (k_ob_306 cs) rfl (Nat.le_of_ble_eq_true rfl) (n1 := n - 1) (by omega) (by omega) (by omega) ?_
              refine sp_X12_opened (x := 40) (t := t) (l := l) (o := o) (sl := sl) (p := p) (cu := cu) (b := b) cs (by omega) (by decide) h hw (by omega) (fun J105 s105 f105 => ?_)
              exact x_ireturn dX12_beginOne_108 rfl (by omega) (by omega) (by first
 | (exfalso; omega)
 | (rw [beg_op (x := 40) (by omega) (by rw [show cu.2.2.1 = 40 by omega]; rfl)] at hp; exact hp _ s105 f105)
 | (rw [beg_op (x := 5) (by omega) (by rw [show cu.2.2.1 = 45 by omega]; rfl)] at hp; exact hp _ s120 f120)
 | (rw [beg_op (x := 41) (by omega) (by rw [show cu.2.2.1 = 143 by omega]; rfl)] at hp; exact hp _ s145 f145)
 | (rw [beg_op (x := 2) (by omega) (by rw [show cu.2.2.1 = 144 by omega]; rfl)] at hp; exact hp _ s167 f167)
 | (rw [beg_op (x := 42) (by omega) (by rw [show cu.2.2.1 = 145 by omega]; rfl)] at hp; exact hp _ s188 f188)
 | (have hask : askA p = true := by
      rcases hr209 with hh | hh
      · exact hh.2
      · exfalso; omega
    rw [show begO t l sl p cu b = opO t l 20 p cu b from ask_not (sl := sl) (by omega) hask] at hp; exact hp _ s218 f218)
 | (rw [beg_n2 (by omega) (by omega)] at hp; exact hp I ⟨h, Or.inr ⟨hw, rfl⟩⟩ Frf.rf)
 | (rw [beg_w5 (by rcases hr31 with hh | hh; · exfalso; omega
                   · rcases hh.2 with h9 | h9
                     · exact Or.inl ⟨by omega, h9.2⟩
                     · exact Or.inr ⟨by omega, h9.2⟩)] at hp; exact hp I ⟨h, Or.inr ⟨hw, rfl⟩⟩ Frf.rf)
 | (rw [beg_n0 (by omega) (by omega)] at hp; exact hp _ s89 (Frf.tr (Frf.tr (Fst.frf f81) (FcR.frf f85)) f89))
 | (have hq31 : ¬ ((cu.2.2.1 = 134 ∧ sl = true) ∨ (cu.2.2.1 = 135 ∧ sl = false)) := by
      intro h9
      rcases hr31 with hh | hh
      · exact hh.2 (by rcases h9 with h8 | h8
                       · exact Or.inl ⟨by omega, h8.2⟩
                       · exact Or.inr ⟨by omega, h8.2⟩)
      · omega
    rw [beg_w0 (by omega) hq31] at hp; exact hp _ s89 (Frf.tr (Frf.tr (Fst.frf f81) (FcR.frf f85)) f89))
 | (rw [beg_1 (by omega) (by omega)] at hp; exact hp I ⟨h, Or.inr ⟨hw, rfl⟩⟩ Frf.rf)
 | (have hask : askA p = false := by
      rcases hr209 with hh | hh
      · exfalso; omega
      · exact hh.2
    rw [beg_1 (by omega) (by rw [hask]; simp)] at hp; exact hp I ⟨h, Or.inr ⟨hw, rfl⟩⟩ Frf.rf))
          · have hnum51 : cu.2.2.1 = 2 → _ := a5n
            refine x_aload_n dX12_beginOne_51 rfl ?_
            refine x_aload_n dX12_beginOne_52 rfl ?_
            refine x_getI dX12_beginOne_53 gf_RX12_115 (k_ob_306 cs) (fun _ _ => rfl) ?_
            refine x_iconst dX12_beginOne_56 ?_
            refine x_icmp_ne 64 dX12_beginOne_57 (by decide) ⟨(by omega), (by omega)⟩ (fun w57 => ?_) (fun w57 => ?_)
            · refine x_iconst dX12_beginOne_64 ?_
              refine x_aload_n dX12_beginOne_65 rfl ?_
              refine x_getI dX12_beginOne_66 gf_RX12_115 (k_ob_306 cs) (fun _ _ => rfl) ?_
              refine x_iconst dX12_beginOne_69 ?_
              refine x_icmp_ne 80 dX12_beginOne_70 (by decide) ⟨(by omega), (by omega)⟩ (fun w70 => ?_) (fun w70 => ?_)
              · refine x_iload_n dX12_beginOne_80 rfl ?_
                refine x_callV2 (mc1 := 0) (ms1 := 0) dX12_beginOne_81 cv_RX12_172 (ci := 12) (k_ob_306 cs) rfl (Nat.le_of_ble_eq_true rfl) (n1 := n - 1) (by omega) (by omega) (by omega) ?_
                have hnum := a5n
                refine sp_X12_emit (o := o) (b := b) (x := 16384 + (cu.2.2.1 - 128)) (op := 1) (v := r21) cs h8 (by have := h1.2.2.2.2.1; omega) ⟨by rw [show (16384 + (cu.2.2.1 - 128)) / 16384 = 1 by omega]; rfl, by omega⟩ h3 (fun J81 c81 e81 f81 => ?_)
                refine x_aload_n dX12_beginOne_84 rfl ?_
                refine x_callV0 (mc1 := 0) (ms1 := 0) dX12_beginOne_85 cv_RX12_186 (ci := 12) (k_ob_306 cs) rfl (Nat.le_of_ble_eq_true rfl) (n1 := n - 1) (by omega) (by omega) (by omega) ?_
                refine sp_nxt (t := t) (l := l) (cu := cu) cs (by omega) (tk_fr h1 (f81.1 310 (by omega) (by omega)) (fun a ha => e81 a (by omega))) (fun J85 k85 s85 m85 f85 => ?_)
                refine x_aload_n dX12_beginOne_88 rfl ?_
                refine x_callV0 (mc1 := 0) (ms1 := 0) dX12_beginOne_89 cv_RX12_195 (ci := 12) (k_ob_306 cs) rfl (Nat.le_of_ble_eq_true rfl) (n1 := n - 1) (by omega) (by omega) (by omega) ?_
                have r85 := rf_em h (by omega) c81 e81 f81 k85 (s85 (by omega)) f85
                refine sp_X12_endOne (t := t) (l := l) (o := o) (sl := sl) (p := p) (cu := adv t l cu.1) (b := b ++ [16384 + (cu.2.2.1 - 128)]) cs (by omega) r85 (fun J89 s89 f89 => ?_)
                exact x_ireturn dX12_beginOne_92 rfl (by omega) (by omega) (by first
 | (exfalso; omega)
 | (rw [beg_op (x := 40) (by omega) (by rw [show cu.2.2.1 = 40 by omega]; rfl)] at hp; exact hp _ s105 f105)
 | (rw [beg_op (x := 5) (by omega) (by rw [show cu.2.2.1 = 45 by omega]; rfl)] at hp; exact hp _ s120 f120)
 | (rw [beg_op (x := 41) (by omega) (by rw [show cu.2.2.1 = 143 by omega]; rfl)] at hp; exact hp _ s145 f145)
 | (rw [beg_op (x := 2) (by omega) (by rw [show cu.2.2.1 = 144 by omega]; rfl)] at hp; exact hp _ s167 f167)
 | (rw [beg_op (x := 42) (by omega) (by rw [show cu.2.2.1 = 145 by omega]; rfl)] at hp; exact hp _ s188 f188)
 | (have hask : askA p = true := by
      rcases hr209 with hh | hh
      · exact hh.2
      · exfalso; omega
    rw [show begO t l sl p cu b = opO t l 20 p cu b from ask_not (sl := sl) (by omega) hask] at hp; exact hp _ s218 f218)
 | (rw [beg_n2 (by omega) (by omega)] at hp; exact hp I ⟨h, Or.inr ⟨hw, rfl⟩⟩ Frf.rf)
 | (rw [beg_w5 (by rcases hr31 with hh | hh; · exfalso; omega
                   · rcases hh.2 with h9 | h9
                     · exact Or.inl ⟨by omega, h9.2⟩
                     · exact Or.inr ⟨by omega, h9.2⟩)] at hp; exact hp I ⟨h, Or.inr ⟨hw, rfl⟩⟩ Frf.rf)
 | (rw [beg_n0 (by omega) (by omega)] at hp; exact hp _ s89 (Frf.tr (Frf.tr (Fst.frf f81) (FcR.frf f85)) f89))
 | (have hq31 : ¬ ((cu.2.2.1 = 134 ∧ sl = true) ∨ (cu.2.2.1 = 135 ∧ sl = false)) := by
      intro h9
      rcases hr31 with hh | hh
      · exact hh.2 (by rcases h9 with h8 | h8
                       · exact Or.inl ⟨by omega, h8.2⟩
                       · exact Or.inr ⟨by omega, h8.2⟩)
      · omega
    rw [beg_w0 (by omega) hq31] at hp; exact hp _ s89 (Frf.tr (Frf.tr (Fst.frf f81) (FcR.frf f85)) f89))
 | (rw [beg_1 (by omega) (by omega)] at hp; exact hp I ⟨h, Or.inr ⟨hw, rfl⟩⟩ Frf.rf)
 | (have hask : askA p = false := by
      rcases hr209 with hh | hh
      · exfalso; omega
      · exact hh.2
    rw [beg_1 (by omega) (by rw [hask]; simp)] at hp; exact hp I ⟨h, Or.inr ⟨hw, rfl⟩⟩ Frf.rf))
              · exfalso; omega
            · exfalso; omega
      · refine x_iconst dX12_beginOne_37 ?_
        exact x_ireturn dX12_beginOne_38 rfl (by omega) (by omega) (by first
 | (exfalso; omega)
 | (rw [beg_op (x := 40) (by omega) (by rw [show cu.2.2.1 = 40 by omega]; rfl)] at hp; exact hp _ s105 f105)
 | (rw [beg_op (x := 5) (by omega) (by rw [show cu.2.2.1 = 45 by omega]; rfl)] at hp; exact hp _ s120 f120)
 | (rw [beg_op (x := 41) (by omega) (by rw [show cu.2.2.1 = 143 by omega]; rfl)] at hp; exact hp _ s145 f145)
 | (rw [beg_op (x := 2) (by omega) (by rw [show cu.2.2.1 = 144 by omega]; rfl)] at hp; exact hp _ s167 f167)
 | (rw [beg_op (x := 42) (by omega) (by rw [show cu.2.2.1 = 145 by omega]; rfl)] at hp; exact hp _ s188 f188)
 | (have hask : askA p = true := by
      rcases hr209 with hh | hh
      · exact hh.2
      · exfalso; omega
    rw [show begO t l sl p cu b = opO t l 20 p cu b from ask_not (sl := sl) (by omega) hask] at hp; exact hp _ s218 f218)
 | (rw [beg_n2 (by omega) (by omega)] at hp; exact hp I ⟨h, Or.inr ⟨hw, rfl⟩⟩ Frf.rf)
 | (rw [beg_w5 (by rcases hr31 with hh | hh; · exfalso; omega
                   · rcases hh.2 with h9 | h9
                     · exact Or.inl ⟨by omega, h9.2⟩
                     · exact Or.inr ⟨by omega, h9.2⟩)] at hp; exact hp I ⟨h, Or.inr ⟨hw, rfl⟩⟩ Frf.rf)
 | (rw [beg_n0 (by omega) (by omega)] at hp; exact hp _ s89 (Frf.tr (Frf.tr (Fst.frf f81) (FcR.frf f85)) f89))
 | (have hq31 : ¬ ((cu.2.2.1 = 134 ∧ sl = true) ∨ (cu.2.2.1 = 135 ∧ sl = false)) := by
      intro h9
      rcases hr31 with hh | hh
      · exact hh.2 (by rcases h9 with h8 | h8
                       · exact Or.inl ⟨by omega, h8.2⟩
                       · exact Or.inr ⟨by omega, h8.2⟩)
      · omega
    rw [beg_w0 (by omega) hq31] at hp; exact hp _ s89 (Frf.tr (Frf.tr (Fst.frf f81) (FcR.frf f85)) f89))
 | (rw [beg_1 (by omega) (by omega)] at hp; exact hp I ⟨h, Or.inr ⟨hw, rfl⟩⟩ Frf.rf)
 | (have hask : askA p = false := by
      rcases hr209 with hh | hh
      · exfalso; omega
      · exact hh.2
    rw [beg_1 (by omega) (by rw [hask]; simp)] at hp; exact hp I ⟨h, Or.inr ⟨hw, rfl⟩⟩ Frf.rf))
  · have hnum8 := a5n (by omega)
    refine x_aload_n dX12_beginOne_8 rfl ?_
    refine x_getI dX12_beginOne_9 gf_RX12_121 (k_ob_306 cs) (fun _ _ => rfl) ?_
    refine x_sipush dX12_beginOne_12 (by decide) ?_
    refine x_icmp_le 20 dX12_beginOne_15 (by decide) ⟨(by omega), (by omega)⟩ (fun w15 => ?_) (fun w15 => ?_)
    · refine x_aload_n dX12_beginOne_20 rfl ?_
      refine x_callV0 (mc1 := 0) (ms1 := 0) dX12_beginOne_21 cv_RX12_189 (ci := 12) (k_ob_306 cs) rfl (Nat.le_of_ble_eq_true rfl) (n1 := n - 1) (by omega) (by omega) (by omega) ?_
      refine sp_X12_nameOf (cu := cu) cs (by omega) h1.2.1 okk (fun r21 hr21 => ?_)
      refine x_istore_n (lv2 := [(1, _), (0, _)]) dX12_beginOne_24 (by decide) rfl ?_
      refine x_iload_n dX12_beginOne_25 rfl ?_
      refine x_if_lt 39 dX12_beginOne_26 (by decide) (by omega) (fun w26 => ?_) (fun w26 => ?_)
      · refine x_aload_n dX12_beginOne_39 rfl ?_
        refine x_getI dX12_beginOne_40 gf_RX12_115 (k_ob_306 cs) (fun _ _ => rfl) ?_
        refine x_iconst dX12_beginOne_43 ?_
        refine x_icmp_eq 51 dX12_beginOne_44 (by decide) ⟨(by omega), (by omega)⟩ (fun w44 => ?_) (fun w44 => ?_)
        · have hnum51 : cu.2.2.1 = 2 → _ := a5n
          refine x_aload_n dX12_beginOne_51 rfl ?_
          refine x_aload_n dX12_beginOne_52 rfl ?_
          refine x_getI dX12_beginOne_53 gf_RX12_115 (k_ob_306 cs) (fun _ _ => rfl) ?_
          refine x_iconst dX12_beginOne_56 ?_
          refine x_icmp_ne 64 dX12_beginOne_57 (by decide) ⟨(by omega), (by omega)⟩ (fun w57 => ?_) (fun w57 => ?_)
          · exfalso; omega
          · refine x_iconst dX12_beginOne_60 ?_
            refine x_goto 65 dX12_beginOne_61 (by decide) ?_
            refine x_aload_n dX12_beginOne_65 rfl ?_
            refine x_getI dX12_beginOne_66 gf_RX12_115 (k_ob_306 cs) (fun _ _ => rfl) ?_
            refine x_iconst dX12_beginOne_69 ?_
            refine x_icmp_ne 80 dX12_beginOne_70 (by decide) ⟨(by omega), (by omega)⟩ (fun w70 => ?_) (fun w70 => ?_)
            · exfalso; omega
            · have hnum73 := a5n (by omega)
              refine x_aload_n dX12_beginOne_73 rfl ?_
              refine x_getI dX12_beginOne_74 gf_RX12_121 (k_ob_306 cs) (fun _ _ => rfl) ?_
              refine x_goto 81 dX12_beginOne_77 (by decide) ?_
              refine x_callV2 (mc1 := 0) (ms1 := 0) dX12_beginOne_81 cv_RX12_172 (ci := 12) (k_ob_306 cs) rfl (Nat.le_of_ble_eq_true rfl) (n1 := n - 1) (by omega) (by omega) (by omega) ?_
              have hnum := a5n
              refine sp_X12_emit (o := o) (b := b) (x := cu.2.2.2) (op := 0) (v := I 306 10) cs h8 (by have := h1.2.2.2.2.1; omega) ⟨by rw [show cu.2.2.2 / 16384 = 0 by omega]; rfl, by omega⟩ h3 (fun J81 c81 e81 f81 => ?_)
              refine x_aload_n dX12_beginOne_84 rfl ?_
              refine x_callV0 (mc1 := 0) (ms1 := 0) dX12_beginOne_85 cv_RX12_186 (ci := 12) (k_ob_306 cs) rfl (Nat.le_of_ble_eq_true rfl) (n1 := n - 1) (by omega) (by omega) (by omega) ?_
              refine sp_nxt (t := t) (l := l) (cu := cu) cs (by omega) (tk_fr h1 (f81.1 310 (by omega) (by omega)) (fun a ha => e81 a (by omega))) (fun J85 k85 s85 m85 f85 => ?_)
              refine x_aload_n dX12_beginOne_88 rfl ?_
              refine x_callV0 (mc1 := 0) (ms1 := 0) dX12_beginOne_89 cv_RX12_195 (ci := 12) (k_ob_306 cs) rfl (Nat.le_of_ble_eq_true rfl) (n1 := n - 1) (by omega) (by omega) (by omega) ?_
              have r85 := rf_em h (by omega) c81 e81 f81 k85 (s85 (by omega)) f85
              refine sp_X12_endOne (t := t) (l := l) (o := o) (sl := sl) (p := p) (cu := adv t l cu.1) (b := b ++ [cu.2.2.2]) cs (by omega) r85 (fun J89 s89 f89 => ?_)
              exact x_ireturn dX12_beginOne_92 rfl (by omega) (by omega) (by first
 | (exfalso; omega)
 | (rw [beg_op (x := 40) (by omega) (by rw [show cu.2.2.1 = 40 by omega]; rfl)] at hp; exact hp _ s105 f105)
 | (rw [beg_op (x := 5) (by omega) (by rw [show cu.2.2.1 = 45 by omega]; rfl)] at hp; exact hp _ s120 f120)
 | (rw [beg_op (x := 41) (by omega) (by rw [show cu.2.2.1 = 143 by omega]; rfl)] at hp; exact hp _ s145 f145)
 | (rw [beg_op (x := 2) (by omega) (by rw [show cu.2.2.1 = 144 by omega]; rfl)] at hp; exact hp _ s167 f167)
 | (rw [beg_op (x := 42) (by omega) (by rw [show cu.2.2.1 = 145 by omega]; rfl)] at hp; exact hp _ s188 f188)
 | (have hask : askA p = true := by
      rcases hr209 with hh | hh
      · exact hh.2
      · exfalso; omega
    rw [show begO t l sl p cu b = opO t l 20 p cu b from ask_not (sl := sl) (by omega) hask] at hp; exact hp _ s218 f218)
 | (rw [beg_n2 (by omega) (by omega)] at hp; exact hp I ⟨h, Or.inr ⟨hw, rfl⟩⟩ Frf.rf)
 | (rw [beg_w5 (by rcases hr31 with hh | hh; · exfalso; omega
                   · rcases hh.2 with h9 | h9
                     · exact Or.inl ⟨by omega, h9.2⟩
                     · exact Or.inr ⟨by omega, h9.2⟩)] at hp; exact hp I ⟨h, Or.inr ⟨hw, rfl⟩⟩ Frf.rf)
 | (rw [beg_n0 (by omega) (by omega)] at hp; exact hp _ s89 (Frf.tr (Frf.tr (Fst.frf f81) (FcR.frf f85)) f89))
 | (have hq31 : ¬ ((cu.2.2.1 = 134 ∧ sl = true) ∨ (cu.2.2.1 = 135 ∧ sl = false)) := by
      intro h9
      rcases hr31 with hh | hh
      · exact hh.2 (by rcases h9 with h8 | h8
                       · exact Or.inl ⟨by omega, h8.2⟩
                       · exact Or.inr ⟨by omega, h8.2⟩)
      · omega
    rw [beg_w0 (by omega) hq31] at hp; exact hp _ s89 (Frf.tr (Frf.tr (Fst.frf f81) (FcR.frf f85)) f89))
 | (rw [beg_1 (by omega) (by omega)] at hp; exact hp I ⟨h, Or.inr ⟨hw, rfl⟩⟩ Frf.rf)
 | (have hask : askA p = false := by
      rcases hr209 with hh | hh
      · exfalso; omega
      · exact hh.2
    rw [beg_1 (by omega) (by rw [hask]; simp)] at hp; exact hp I ⟨h, Or.inr ⟨hw, rfl⟩⟩ Frf.rf))
        · refine x_iload_n dX12_beginOne_47 rfl ?_
          refine x_if_lt 93 dX12_beginOne_48 (by decide) (by omega) (fun w48 => ?_) (fun w48 => ?_)
          · refine x_aload_n dX12_beginOne_93 rfl ?_
            refine x_getI dX12_beginOne_94 gf_RX12_115 (k_ob_306 cs) (fun _ _ => rfl) ?_
            refine x_bipush dX12_beginOne_97 (by decide) ?_
            refine x_icmp_ne 109 dX12_beginOne_99 (by decide) ⟨(by omega), (by omega)⟩ (fun w99 => ?_) (fun w99 => ?_)
            · refine x_aload_n dX12_beginOne_109 rfl ?_
              refine x_getI dX12_beginOne_110 gf_RX12_115 (k_ob_306 cs) (fun _ _ => rfl) ?_
              refine x_bipush dX12_beginOne_113 (by decide) ?_
              refine x_icmp_ne 124 dX12_beginOne_115 (by decide) ⟨(by omega), (by omega)⟩ (fun w115 => ?_) (fun w115 => ?_)
              · refine x_aload_n dX12_beginOne_124 rfl ?_
                refine x_bipush dX12_beginOne_125 (by decide) ?_
                refine x_bipush dX12_beginOne_127 (by decide) ?_
                refine x_bipush dX12_beginOne_129 (by decide) ?_
                refine x_bipush dX12_beginOne_131 (by decide) ?_
                refine x_callS4 (mc1 := 0) (ms1 := 0) dX12_beginOne_133 cv_RX12_145 (Nat.le_of_ble_eq_true rfl) (n1 := n - 1) (by omega) (by omega) (by omega) ?_
                refine sp_X12_w4 (by omega) ?_ (by omega)
                refine x_callV1 (mc1 := 0) (ms1 := 0) dX12_beginOne_136 cv_RX12_201 (ci := 12) (k_ob_306 cs) rfl (Nat.le_of_ble_eq_true rfl) (n1 := n - 1) (by omega) (by omega) (by omega) ?_
                refine sp_isW (cu := cu) (K := 143) cs (by decide) h1.2.1 (fun r136 hr136 => ?_)
                refine x_if_eq 149 dX12_beginOne_139 (by decide) (by omega) (fun w139 => ?_) (fun w139 => ?_)
                · refine x_aload_n dX12_beginOne_149 rfl ?_
                  refine x_bipush dX12_beginOne_150 (by decide) ?_
                  refine x_bipush dX12_beginOne_152 (by decide) ?_
                  refine x_bipush dX12_beginOne_154 (by decide) ?_
                  refine x_callS3 (mc1 := 0) (ms1 := 0) dX12_beginOne_156 cv_RX12_141 (Nat.le_of_ble_eq_true rfl) (n1 := n - 1) (by omega) (by omega) (by omega) ?_
                  refine sp_X12_w3 (by omega) ?_ (by omega)
                  refine x_callV1 (mc1 := 0) (ms1 := 0) dX12_beginOne_159 cv_RX12_201 (ci := 12) (k_ob_306 cs) rfl (Nat.le_of_ble_eq_true rfl) (n1 := n - 1) (by omega) (by omega) (by omega) ?_
                  refine sp_isW (cu := cu) (K := 144) cs (by decide) h1.2.1 (fun r159 hr159 => ?_)
                  refine x_if_eq 171 dX12_beginOne_162 (by decide) (by omega) (fun w162 => ?_) (fun w162 => ?_)
                  · refine x_aload_n dX12_beginOne_171 rfl ?_
                    refine x_bipush dX12_beginOne_172 (by decide) ?_
                    refine x_bipush dX12_beginOne_174 (by decide) ?_
                    refine x_callS2 (mc1 := 0) (ms1 := 0) dX12_beginOne_176 cv_RX12_137 (Nat.le_of_ble_eq_true rfl) (n1 := n - 1) (by omega) (by omega) (by omega) ?_
                    refine sp_X12_w2 (by omega) ?_ (by omega)
                    refine x_callV1 (mc1 := 0) (ms1 := 0) dX12_beginOne_179 cv_RX12_201 (ci := 12) (k_ob_306 cs) rfl (Nat.le_of_ble_eq_true rfl) (n1 := n - 1) (by omega) (by omega) (by omega) ?_
                    refine sp_isW (cu := cu) (K := 145) cs (by decide) h1.2.1 (fun r179 hr179 => ?_)
                    refine x_if_eq 192 dX12_beginOne_182 (by decide) (by omega) (fun w182 => ?_) (fun w182 => ?_)
                    · refine x_aload_n dX12_beginOne_192 rfl ?_
                      refine x_bipush dX12_beginOne_193 (by decide) ?_
                      refine x_bipush dX12_beginOne_195 (by decide) ?_
                      refine x_bipush dX12_beginOne_197 (by decide) ?_
                      refine x_callS3 (mc1 := 0) (ms1 := 0) dX12_beginOne_199 cv_RX12_141 (Nat.le_of_ble_eq_true rfl) (n1 := n - 1) (by omega) (by omega) (by omega) ?_
                      refine sp_X12_w3 (by omega) ?_ (by omega)
                      refine x_callV1 (mc1 := 0) (ms1 := 0) dX12_beginOne_202 cv_RX12_201 (ci := 12) (k_ob_306 cs) rfl (Nat.le_of_ble_eq_true rfl) (n1 := n - 1) (by omega) (by omega) (by omega) ?_
                      refine sp_isW (cu := cu) (K := 149) cs (by decide) h1.2.1 (fun r202 hr202 => ?_)
                      refine x_if_eq 224 dX12_beginOne_205 (by decide) (by omega) (fun w205 => ?_) (fun w205 => ?_)
                      · refine x_iconst dX12_beginOne_224 ?_
                        exact x_ireturn dX12_beginOne_225 rfl (by omega) (by omega) (by first
 | (exfalso; omega)
 | (rw [beg_op (x := 40) (by omega) (by rw [show cu.2.2.1 = 40 by omega]; rfl)] at hp; exact hp _ s105 f105)
 | (rw [beg_op (x := 5) (by omega) (by rw [show cu.2.2.1 = 45 by omega]; rfl)] at hp; exact hp _ s120 f120)
 | (rw [beg_op (x := 41) (by omega) (by rw [show cu.2.2.1 = 143 by omega]; rfl)] at hp; exact hp _ s145 f145)
 | (rw [beg_op (x := 2) (by omega) (by rw [show cu.2.2.1 = 144 by omega]; rfl)] at hp; exact hp _ s167 f167)
 | (rw [beg_op (x := 42) (by omega) (by rw [show cu.2.2.1 = 145 by omega]; rfl)] at hp; exact hp _ s188 f188)
 | (have hask : askA p = true := by
      rcases hr209 with hh | hh
      · exact hh.2
      · exfalso; omega
    rw [show begO t l sl p cu b = opO t l 20 p cu b from ask_not (sl := sl) (by omega) hask] at hp; exact hp _ s218 f218)
 | (rw [beg_n2 (by omega) (by omega)] at hp; exact hp I ⟨h, Or.inr ⟨hw, rfl⟩⟩ Frf.rf)
 | (rw [beg_w5 (by rcases hr31 with hh | hh; · exfalso; omega
                   · rcases hh.2 with h9 | h9
                     · exact Or.inl ⟨by omega, h9.2⟩
                     · exact Or.inr ⟨by omega, h9.2⟩)] at hp; exact hp I ⟨h, Or.inr ⟨hw, rfl⟩⟩ Frf.rf)
 | (rw [beg_n0 (by omega) (by omega)] at hp; exact hp _ s89 (Frf.tr (Frf.tr (Fst.frf f81) (FcR.frf f85)) f89))
 | (have hq31 : ¬ ((cu.2.2.1 = 134 ∧ sl = true) ∨ (cu.2.2.1 = 135 ∧ sl = false)) := by
      intro h9
      rcases hr31 with hh | hh
      · exact hh.2 (by rcases h9 with h8 | h8
                       · exact Or.inl ⟨by omega, h8.2⟩
                       · exact Or.inr ⟨by omega, h8.2⟩)
      · omega
    rw [beg_w0 (by omega) hq31] at hp; exact hp _ s89 (Frf.tr (Frf.tr (Fst.frf f81) (FcR.frf f85)) f89))
 | (rw [beg_1 (by omega) (by omega)] at hp; exact hp I ⟨h, Or.inr ⟨hw, rfl⟩⟩ Frf.rf)
 | (have hask : askA p = false := by
      rcases hr209 with hh | hh
      · exfalso; omega
      · exact hh.2
    rw [beg_1 (by omega) (by rw [hask]; simp)] at hp; exact hp I ⟨h, Or.inr ⟨hw, rfl⟩⟩ Frf.rf))
                      · refine x_aload_n dX12_beginOne_208 rfl ?_
                        refine x_callV0 (mc1 := 0) (ms1 := 0) dX12_beginOne_209 cv_RX12_205 (ci := 12) (k_ob_306 cs) rfl (Nat.le_of_ble_eq_true rfl) (n1 := n - 1) (by omega) (by omega) (by omega) ?_
                        refine sp_X12_isAskAhead cs (by omega) h2 h5 (by omega) (fun r209 hr209 => ?_)
                        refine x_if_eq 224 dX12_beginOne_212 (by decide) (by omega) (fun w212 => ?_) (fun w212 => ?_)
                        · refine x_iconst dX12_beginOne_224 ?_
                          exact x_ireturn dX12_beginOne_225 rfl (by omega) (by omega) (by first
 | (exfalso; omega)
 | (rw [beg_op (x := 40) (by omega) (by rw [show cu.2.2.1 = 40 by omega]; rfl)] at hp; exact hp _ s105 f105)
 | (rw [beg_op (x := 5) (by omega) (by rw [show cu.2.2.1 = 45 by omega]; rfl)] at hp; exact hp _ s120 f120)
 | (rw [beg_op (x := 41) (by omega) (by rw [show cu.2.2.1 = 143 by omega]; rfl)] at hp; exact hp _ s145 f145)
 | (rw [beg_op (x := 2) (by omega) (by rw [show cu.2.2.1 = 144 by omega]; rfl)] at hp; exact hp _ s167 f167)
 | (rw [beg_op (x := 42) (by omega) (by rw [show cu.2.2.1 = 145 by omega]; rfl)] at hp; exact hp _ s188 f188)
 | (have hask : askA p = true := by
      rcases hr209 with hh | hh
      · exact hh.2
      · exfalso; omega
    rw [show begO t l sl p cu b = opO t l 20 p cu b from ask_not (sl := sl) (by omega) hask] at hp; exact hp _ s218 f218)
 | (rw [beg_n2 (by omega) (by omega)] at hp; exact hp I ⟨h, Or.inr ⟨hw, rfl⟩⟩ Frf.rf)
 | (rw [beg_w5 (by rcases hr31 with hh | hh; · exfalso; omega
                   · rcases hh.2 with h9 | h9
                     · exact Or.inl ⟨by omega, h9.2⟩
                     · exact Or.inr ⟨by omega, h9.2⟩)] at hp; exact hp I ⟨h, Or.inr ⟨hw, rfl⟩⟩ Frf.rf)
 | (rw [beg_n0 (by omega) (by omega)] at hp; exact hp _ s89 (Frf.tr (Frf.tr (Fst.frf f81) (FcR.frf f85)) f89))
 | (have hq31 : ¬ ((cu.2.2.1 = 134 ∧ sl = true) ∨ (cu.2.2.1 = 135 ∧ sl = false)) := by
      intro h9
      rcases hr31 with hh | hh
      · exact hh.2 (by rcases h9 with h8 | h8
                       · exact Or.inl ⟨by omega, h8.2⟩
                       · exact Or.inr ⟨by omega, h8.2⟩)
      · omega
    rw [beg_w0 (by omega) hq31] at hp; exact hp _ s89 (Frf.tr (Frf.tr (Fst.frf f81) (FcR.frf f85)) f89))
 | (rw [beg_1 (by omega) (by omega)] at hp; exact hp I ⟨h, Or.inr ⟨hw, rfl⟩⟩ Frf.rf)
 | (have hask : askA p = false := by
      rcases hr209 with hh | hh
      · exfalso; omega
      · exact hh.2
    rw [beg_1 (by omega) (by rw [hask]; simp)] at hp; exact hp I ⟨h, Or.inr ⟨hw, rfl⟩⟩ Frf.rf))
                        · refine x_aload_n dX12_beginOne_215 rfl ?_
                          refine x_bipush dX12_beginOne_216 (by decide) ?_
                          refine x_callV1 (mc1 := 0) (ms1 := 0) dX12_beginOne_218 cv_RX12_198 (ci := 12) (k_ob_306 cs) rfl (Nat.le_of_ble_eq_true rfl) (n1 := n - 1) (by omega) (by omega) (by omega) ?_
                          refine sp_X12_opened (x := 20) (t := t) (l := l) (o := o) (sl := sl) (p := p) (cu := cu) (b := b) cs (by omega) (by decide) h hw (by omega) (fun J218 s218 f218 => ?_)
                          refine x_goto 225 dX12_beginOne_221 (by decide) ?_
                          exact x_ireturn dX12_beginOne_225 rfl (by omega) (by omega) (by first
 | (exfalso; omega)
 | (rw [beg_op (x := 40) (by omega) (by rw [show cu.2.2.1 = 40 by omega]; rfl)] at hp; exact hp _ s105 f105)
 | (rw [beg_op (x := 5) (by omega) (by rw [show cu.2.2.1 = 45 by omega]; rfl)] at hp; exact hp _ s120 f120)
 | (rw [beg_op (x := 41) (by omega) (by rw [show cu.2.2.1 = 143 by omega]; rfl)] at hp; exact hp _ s145 f145)
 | (rw [beg_op (x := 2) (by omega) (by rw [show cu.2.2.1 = 144 by omega]; rfl)] at hp; exact hp _ s167 f167)
 | (rw [beg_op (x := 42) (by omega) (by rw [show cu.2.2.1 = 145 by omega]; rfl)] at hp; exact hp _ s188 f188)
 | (have hask : askA p = true := by
      rcases hr209 with hh | hh
      · exact hh.2
      · exfalso; omega
    rw [show begO t l sl p cu b = opO t l 20 p cu b from ask_not (sl := sl) (by omega) hask] at hp; exact hp _ s218 f218)
 | (rw [beg_n2 (by omega) (by omega)] at hp; exact hp I ⟨h, Or.inr ⟨hw, rfl⟩⟩ Frf.rf)
 | (rw [beg_w5 (by rcases hr31 with hh | hh; · exfalso; omega
                   · rcases hh.2 with h9 | h9
                     · exact Or.inl ⟨by omega, h9.2⟩
                     · exact Or.inr ⟨by omega, h9.2⟩)] at hp; exact hp I ⟨h, Or.inr ⟨hw, rfl⟩⟩ Frf.rf)
 | (rw [beg_n0 (by omega) (by omega)] at hp; exact hp _ s89 (Frf.tr (Frf.tr (Fst.frf f81) (FcR.frf f85)) f89))
 | (have hq31 : ¬ ((cu.2.2.1 = 134 ∧ sl = true) ∨ (cu.2.2.1 = 135 ∧ sl = false)) := by
      intro h9
      rcases hr31 with hh | hh
      · exact hh.2 (by rcases h9 with h8 | h8
                       · exact Or.inl ⟨by omega, h8.2⟩
                       · exact Or.inr ⟨by omega, h8.2⟩)
      · omega
    rw [beg_w0 (by omega) hq31] at hp; exact hp _ s89 (Frf.tr (Frf.tr (Fst.frf f81) (FcR.frf f85)) f89))
 | (rw [beg_1 (by omega) (by omega)] at hp; exact hp I ⟨h, Or.inr ⟨hw, rfl⟩⟩ Frf.rf)
 | (have hask : askA p = false := by
      rcases hr209 with hh | hh
      · exfalso; omega
      · exact hh.2
    rw [beg_1 (by omega) (by rw [hask]; simp)] at hp; exact hp I ⟨h, Or.inr ⟨hw, rfl⟩⟩ Frf.rf))
                    · refine x_aload_n dX12_beginOne_185 rfl ?_
                      refine x_bipush dX12_beginOne_186 (by decide) ?_
                      refine x_callV1 (mc1 := 0) (ms1 := 0) dX12_beginOne_188 cv_RX12_198 (ci := 12) (k_ob_306 cs) rfl (Nat.le_of_ble_eq_true rfl) (n1 := n - 1) (by omega) (by omega) (by omega) ?_
                      refine sp_X12_opened (x := 42) (t := t) (l := l) (o := o) (sl := sl) (p := p) (cu := cu) (b := b) cs (by omega) (by decide) h hw (by omega) (fun J188 s188 f188 => ?_)
                      exact x_ireturn dX12_beginOne_191 rfl (by omega) (by omega) (by first
 | (exfalso; omega)
 | (rw [beg_op (x := 40) (by omega) (by rw [show cu.2.2.1 = 40 by omega]; rfl)] at hp; exact hp _ s105 f105)
 | (rw [beg_op (x := 5) (by omega) (by rw [show cu.2.2.1 = 45 by omega]; rfl)] at hp; exact hp _ s120 f120)
 | (rw [beg_op (x := 41) (by omega) (by rw [show cu.2.2.1 = 143 by omega]; rfl)] at hp; exact hp _ s145 f145)
 | (rw [beg_op (x := 2) (by omega) (by rw [show cu.2.2.1 = 144 by omega]; rfl)] at hp; exact hp _ s167 f167)
 | (rw [beg_op (x := 42) (by omega) (by rw [show cu.2.2.1 = 145 by omega]; rfl)] at hp; exact hp _ s188 f188)
 | (have hask : askA p = true := by
      rcases hr209 with hh | hh
      · exact hh.2
      · exfalso; omega
    rw [show begO t l sl p cu b = opO t l 20 p cu b from ask_not (sl := sl) (by omega) hask] at hp; exact hp _ s218 f218)
 | (rw [beg_n2 (by omega) (by omega)] at hp; exact hp I ⟨h, Or.inr ⟨hw, rfl⟩⟩ Frf.rf)
 | (rw [beg_w5 (by rcases hr31 with hh | hh; · exfalso; omega
                   · rcases hh.2 with h9 | h9
                     · exact Or.inl ⟨by omega, h9.2⟩
                     · exact Or.inr ⟨by omega, h9.2⟩)] at hp; exact hp I ⟨h, Or.inr ⟨hw, rfl⟩⟩ Frf.rf)
 | (rw [beg_n0 (by omega) (by omega)] at hp; exact hp _ s89 (Frf.tr (Frf.tr (Fst.frf f81) (FcR.frf f85)) f89))
 | (have hq31 : ¬ ((cu.2.2.1 = 134 ∧ sl = true) ∨ (cu.2.2.1 = 135 ∧ sl = false)) := by
      intro h9
      rcases hr31 with hh | hh
      · exact hh.2 (by rcases h9 with h8 | h8
                       · exact Or.inl ⟨by omega, h8.2⟩
                       · exact Or.inr ⟨by omega, h8.2⟩)
      · omega
    rw [beg_w0 (by omega) hq31] at hp; exact hp _ s89 (Frf.tr (Frf.tr (Fst.frf f81) (FcR.frf f85)) f89))
 | (rw [beg_1 (by omega) (by omega)] at hp; exact hp I ⟨h, Or.inr ⟨hw, rfl⟩⟩ Frf.rf)
 | (have hask : askA p = false := by
      rcases hr209 with hh | hh
      · exfalso; omega
      · exact hh.2
    rw [beg_1 (by omega) (by rw [hask]; simp)] at hp; exact hp I ⟨h, Or.inr ⟨hw, rfl⟩⟩ Frf.rf))
                  · refine x_aload_n dX12_beginOne_165 rfl ?_
                    refine x_iconst dX12_beginOne_166 ?_
                    refine x_callV1 (mc1 := 0) (ms1 := 0) dX12_beginOne_167 cv_RX12_198 (ci := 12) (k_ob_306 cs) rfl (Nat.le_of_ble_eq_true rfl) (n1 := n - 1) (by omega) (by omega) (by omega) ?_
                    refine sp_X12_opened (x := 2) (t := t) (l := l) (o := o) (sl := sl) (p := p) (cu := cu) (b := b) cs (by omega) (by decide) h hw (by omega) (fun J167 s167 f167 => ?_)
                    exact x_ireturn dX12_beginOne_170 rfl (by omega) (by omega) (by first
 | (exfalso; omega)
 | (rw [beg_op (x := 40) (by omega) (by rw [show cu.2.2.1 = 40 by omega]; rfl)] at hp; exact hp _ s105 f105)
 | (rw [beg_op (x := 5) (by omega) (by rw [show cu.2.2.1 = 45 by omega]; rfl)] at hp; exact hp _ s120 f120)
 | (rw [beg_op (x := 41) (by omega) (by rw [show cu.2.2.1 = 143 by omega]; rfl)] at hp; exact hp _ s145 f145)
 | (rw [beg_op (x := 2) (by omega) (by rw [show cu.2.2.1 = 144 by omega]; rfl)] at hp; exact hp _ s167 f167)
 | (rw [beg_op (x := 42) (by omega) (by rw [show cu.2.2.1 = 145 by omega]; rfl)] at hp; exact hp _ s188 f188)
 | (have hask : askA p = true := by
      rcases hr209 with hh | hh
      · exact hh.2
      · exfalso; omega
    rw [show begO t l sl p cu b = opO t l 20 p cu b from ask_not (sl := sl) (by omega) hask] at hp; exact hp _ s218 f218)
 | (rw [beg_n2 (by omega) (by omega)] at hp; exact hp I ⟨h, Or.inr ⟨hw, rfl⟩⟩ Frf.rf)
 | (rw [beg_w5 (by rcases hr31 with hh | hh; · exfalso; omega
                   · rcases hh.2 with h9 | h9
                     · exact Or.inl ⟨by omega, h9.2⟩
                     · exact Or.inr ⟨by omega, h9.2⟩)] at hp; exact hp I ⟨h, Or.inr ⟨hw, rfl⟩⟩ Frf.rf)
 | (rw [beg_n0 (by omega) (by omega)] at hp; exact hp _ s89 (Frf.tr (Frf.tr (Fst.frf f81) (FcR.frf f85)) f89))
 | (have hq31 : ¬ ((cu.2.2.1 = 134 ∧ sl = true) ∨ (cu.2.2.1 = 135 ∧ sl = false)) := by
      intro h9
      rcases hr31 with hh | hh
      · exact hh.2 (by rcases h9 with h8 | h8
                       · exact Or.inl ⟨by omega, h8.2⟩
                       · exact Or.inr ⟨by omega, h8.2⟩)
      · omega
    rw [beg_w0 (by omega) hq31] at hp; exact hp _ s89 (Frf.tr (Frf.tr (Fst.frf f81) (FcR.frf f85)) f89))
 | (rw [beg_1 (by omega) (by omega)] at hp; exact hp I ⟨h, Or.inr ⟨hw, rfl⟩⟩ Frf.rf)
 | (have hask : askA p = false := by
      rcases hr209 with hh | hh
      · exfalso; omega
      · exact hh.2
    rw [beg_1 (by omega) (by rw [hask]; simp)] at hp; exact hp I ⟨h, Or.inr ⟨hw, rfl⟩⟩ Frf.rf))
                · refine x_aload_n dX12_beginOne_142 rfl ?_
                  refine x_bipush dX12_beginOne_143 (by decide) ?_
                  refine x_callV1 (mc1 := 0) (ms1 := 0) dX12_beginOne_145 cv_RX12_198 (ci := 12) (k_ob_306 cs) rfl (Nat.le_of_ble_eq_true rfl) (n1 := n - 1) (by omega) (by omega) (by omega) ?_
                  refine sp_X12_opened (x := 41) (t := t) (l := l) (o := o) (sl := sl) (p := p) (cu := cu) (b := b) cs (by omega) (by decide) h hw (by omega) (fun J145 s145 f145 => ?_)
                  exact x_ireturn dX12_beginOne_148 rfl (by omega) (by omega) (by first
 | (exfalso; omega)
 | (rw [beg_op (x := 40) (by omega) (by rw [show cu.2.2.1 = 40 by omega]; rfl)] at hp; exact hp _ s105 f105)
 | (rw [beg_op (x := 5) (by omega) (by rw [show cu.2.2.1 = 45 by omega]; rfl)] at hp; exact hp _ s120 f120)
 | (rw [beg_op (x := 41) (by omega) (by rw [show cu.2.2.1 = 143 by omega]; rfl)] at hp; exact hp _ s145 f145)
 | (rw [beg_op (x := 2) (by omega) (by rw [show cu.2.2.1 = 144 by omega]; rfl)] at hp; exact hp _ s167 f167)
 | (rw [beg_op (x := 42) (by omega) (by rw [show cu.2.2.1 = 145 by omega]; rfl)] at hp; exact hp _ s188 f188)
 | (have hask : askA p = true := by
      rcases hr209 with hh | hh
      · exact hh.2
      · exfalso; omega
    rw [show begO t l sl p cu b = opO t l 20 p cu b from ask_not (sl := sl) (by omega) hask] at hp; exact hp _ s218 f218)
 | (rw [beg_n2 (by omega) (by omega)] at hp; exact hp I ⟨h, Or.inr ⟨hw, rfl⟩⟩ Frf.rf)
 | (rw [beg_w5 (by rcases hr31 with hh | hh; · exfalso; omega
                   · rcases hh.2 with h9 | h9
                     · exact Or.inl ⟨by omega, h9.2⟩
                     · exact Or.inr ⟨by omega, h9.2⟩)] at hp; exact hp I ⟨h, Or.inr ⟨hw, rfl⟩⟩ Frf.rf)
 | (rw [beg_n0 (by omega) (by omega)] at hp; exact hp _ s89 (Frf.tr (Frf.tr (Fst.frf f81) (FcR.frf f85)) f89))
 | (have hq31 : ¬ ((cu.2.2.1 = 134 ∧ sl = true) ∨ (cu.2.2.1 = 135 ∧ sl = false)) := by
      intro h9
      rcases hr31 with hh | hh
      · exact hh.2 (by rcases h9 with h8 | h8
                       · exact Or.inl ⟨by omega, h8.2⟩
                       · exact Or.inr ⟨by omega, h8.2⟩)
      · omega
    rw [beg_w0 (by omega) hq31] at hp; exact hp _ s89 (Frf.tr (Frf.tr (Fst.frf f81) (FcR.frf f85)) f89))
 | (rw [beg_1 (by omega) (by omega)] at hp; exact hp I ⟨h, Or.inr ⟨hw, rfl⟩⟩ Frf.rf)
 | (have hask : askA p = false := by
      rcases hr209 with hh | hh
      · exfalso; omega
      · exact hh.2
    rw [beg_1 (by omega) (by rw [hask]; simp)] at hp; exact hp I ⟨h, Or.inr ⟨hw, rfl⟩⟩ Frf.rf))
              · refine x_aload_n dX12_beginOne_118 rfl ?_
                refine x_iconst dX12_beginOne_119 ?_
                refine x_callV1 (mc1 := 0) (ms1 := 0) dX12_beginOne_120 cv_RX12_198 (ci := 12) (k_ob_306 cs) rfl (Nat.le_of_ble_eq_true rfl) (n1 := n - 1) (by omega) (by omega) (by omega) ?_
                refine sp_X12_opened (x := 5) (t := t) (l := l) (o := o) (sl := sl) (p := p) (cu := cu) (b := b) cs (by omega) (by decide) h hw (by omega) (fun J120 s120 f120 => ?_)
                exact x_ireturn dX12_beginOne_123 rfl (by omega) (by omega) (by first
 | (exfalso; omega)
 | (rw [beg_op (x := 40) (by omega) (by rw [show cu.2.2.1 = 40 by omega]; rfl)] at hp; exact hp _ s105 f105)
 | (rw [beg_op (x := 5) (by omega) (by rw [show cu.2.2.1 = 45 by omega]; rfl)] at hp; exact hp _ s120 f120)
 | (rw [beg_op (x := 41) (by omega) (by rw [show cu.2.2.1 = 143 by omega]; rfl)] at hp; exact hp _ s145 f145)
 | (rw [beg_op (x := 2) (by omega) (by rw [show cu.2.2.1 = 144 by omega]; rfl)] at hp; exact hp _ s167 f167)
 | (rw [beg_op (x := 42) (by omega) (by rw [show cu.2.2.1 = 145 by omega]; rfl)] at hp; exact hp _ s188 f188)
 | (have hask : askA p = true := by
      rcases hr209 with hh | hh
      · exact hh.2
      · exfalso; omega
    rw [show begO t l sl p cu b = opO t l 20 p cu b from ask_not (sl := sl) (by omega) hask] at hp; exact hp _ s218 f218)
 | (rw [beg_n2 (by omega) (by omega)] at hp; exact hp I ⟨h, Or.inr ⟨hw, rfl⟩⟩ Frf.rf)
 | (rw [beg_w5 (by rcases hr31 with hh | hh; · exfalso; omega
                   · rcases hh.2 with h9 | h9
                     · exact Or.inl ⟨by omega, h9.2⟩
                     · exact Or.inr ⟨by omega, h9.2⟩)] at hp; exact hp I ⟨h, Or.inr ⟨hw, rfl⟩⟩ Frf.rf)
 | (rw [beg_n0 (by omega) (by omega)] at hp; exact hp _ s89 (Frf.tr (Frf.tr (Fst.frf f81) (FcR.frf f85)) f89))
 | (have hq31 : ¬ ((cu.2.2.1 = 134 ∧ sl = true) ∨ (cu.2.2.1 = 135 ∧ sl = false)) := by
      intro h9
      rcases hr31 with hh | hh
      · exact hh.2 (by rcases h9 with h8 | h8
                       · exact Or.inl ⟨by omega, h8.2⟩
                       · exact Or.inr ⟨by omega, h8.2⟩)
      · omega
    rw [beg_w0 (by omega) hq31] at hp; exact hp _ s89 (Frf.tr (Frf.tr (Fst.frf f81) (FcR.frf f85)) f89))
 | (rw [beg_1 (by omega) (by omega)] at hp; exact hp I ⟨h, Or.inr ⟨hw, rfl⟩⟩ Frf.rf)
 | (have hask : askA p = false := by
      rcases hr209 with hh | hh
      · exfalso; omega
      · exact hh.2
    rw [beg_1 (by omega) (by rw [hask]; simp)] at hp; exact hp I ⟨h, Or.inr ⟨hw, rfl⟩⟩ Frf.rf))
            · refine x_aload_n dX12_beginOne_102 rfl ?_
              refine x_bipush dX12_beginOne_103 (by decide) ?_
              refine x_callV1 (mc1 := 0) (ms1 := 0) dX12_beginOne_105 cv_RX12_198 (ci := 12) (k_ob_306 cs) rfl (Nat.le_of_ble_eq_true rfl) (n1 := n - 1) (by omega) (by omega) (by omega) ?_
              refine sp_X12_opened (x := 40) (t := t) (l := l) (o := o) (sl := sl) (p := p) (cu := cu) (b := b) cs (by omega) (by decide) h hw (by omega) (fun J105 s105 f105 => ?_)
              exact x_ireturn dX12_beginOne_108 rfl (by omega) (by omega) (by first
 | (exfalso; omega)
 | (rw [beg_op (x := 40) (by omega) (by rw [show cu.2.2.1 = 40 by omega]; rfl)] at hp; exact hp _ s105 f105)
 | (rw [beg_op (x := 5) (by omega) (by rw [show cu.2.2.1 = 45 by omega]; rfl)] at hp; exact hp _ s120 f120)
 | (rw [beg_op (x := 41) (by omega) (by rw [show cu.2.2.1 = 143 by omega]; rfl)] at hp; exact hp _ s145 f145)
 | (rw [beg_op (x := 2) (by omega) (by rw [show cu.2.2.1 = 144 by omega]; rfl)] at hp; exact hp _ s167 f167)
 | (rw [beg_op (x := 42) (by omega) (by rw [show cu.2.2.1 = 145 by omega]; rfl)] at hp; exact hp _ s188 f188)
 | (have hask : askA p = true := by
      rcases hr209 with hh | hh
      · exact hh.2
      · exfalso; omega
    rw [show begO t l sl p cu b = opO t l 20 p cu b from ask_not (sl := sl) (by omega) hask] at hp; exact hp _ s218 f218)
 | (rw [beg_n2 (by omega) (by omega)] at hp; exact hp I ⟨h, Or.inr ⟨hw, rfl⟩⟩ Frf.rf)
 | (rw [beg_w5 (by rcases hr31 with hh | hh; · exfalso; omega
                   · rcases hh.2 with h9 | h9
                     · exact Or.inl ⟨by omega, h9.2⟩
                     · exact Or.inr ⟨by omega, h9.2⟩)] at hp; exact hp I ⟨h, Or.inr ⟨hw, rfl⟩⟩ Frf.rf)
 | (rw [beg_n0 (by omega) (by omega)] at hp; exact hp _ s89 (Frf.tr (Frf.tr (Fst.frf f81) (FcR.frf f85)) f89))
 | (have hq31 : ¬ ((cu.2.2.1 = 134 ∧ sl = true) ∨ (cu.2.2.1 = 135 ∧ sl = false)) := by
      intro h9
      rcases hr31 with hh | hh
      · exact hh.2 (by rcases h9 with h8 | h8
                       · exact Or.inl ⟨by omega, h8.2⟩
                       · exact Or.inr ⟨by omega, h8.2⟩)
      · omega
    rw [beg_w0 (by omega) hq31] at hp; exact hp _ s89 (Frf.tr (Frf.tr (Fst.frf f81) (FcR.frf f85)) f89))
 | (rw [beg_1 (by omega) (by omega)] at hp; exact hp I ⟨h, Or.inr ⟨hw, rfl⟩⟩ Frf.rf)
 | (have hask : askA p = false := by
      rcases hr209 with hh | hh
      · exfalso; omega
      · exact hh.2
    rw [beg_1 (by omega) (by rw [hask]; simp)] at hp; exact hp I ⟨h, Or.inr ⟨hw, rfl⟩⟩ Frf.rf))
          · have hnum51 : cu.2.2.1 = 2 → _ := a5n
            refine x_aload_n dX12_beginOne_51 rfl ?_
            refine x_aload_n dX12_beginOne_52 rfl ?_
            refine x_getI dX12_beginOne_53 gf_RX12_115 (k_ob_306 cs) (fun _ _ => rfl) ?_
            refine x_iconst dX12_beginOne_56 ?_
            refine x_icmp_ne 64 dX12_beginOne_57 (by decide) ⟨(by omega), (by omega)⟩ (fun w57 => ?_) (fun w57 => ?_)
            · refine x_iconst dX12_beginOne_64 ?_
              refine x_aload_n dX12_beginOne_65 rfl ?_
              refine x_getI dX12_beginOne_66 gf_RX12_115 (k_ob_306 cs) (fun _ _ => rfl) ?_
              refine x_iconst dX12_beginOne_69 ?_
              refine x_icmp_ne 80 dX12_beginOne_70 (by decide) ⟨(by omega), (by omega)⟩ (fun w70 => ?_) (fun w70 => ?_)
              · refine x_iload_n dX12_beginOne_80 rfl ?_
                refine x_callV2 (mc1 := 0) (ms1 := 0) dX12_beginOne_81 cv_RX12_172 (ci := 12) (k_ob_306 cs) rfl (Nat.le_of_ble_eq_true rfl) (n1 := n - 1) (by omega) (by omega) (by omega) ?_
                have hnum := a5n
                refine sp_X12_emit (o := o) (b := b) (x := 16384 + (cu.2.2.1 - 128)) (op := 1) (v := r21) cs h8 (by have := h1.2.2.2.2.1; omega) ⟨by rw [show (16384 + (cu.2.2.1 - 128)) / 16384 = 1 by omega]; rfl, by omega⟩ h3 (fun J81 c81 e81 f81 => ?_)
                refine x_aload_n dX12_beginOne_84 rfl ?_
                refine x_callV0 (mc1 := 0) (ms1 := 0) dX12_beginOne_85 cv_RX12_186 (ci := 12) (k_ob_306 cs) rfl (Nat.le_of_ble_eq_true rfl) (n1 := n - 1) (by omega) (by omega) (by omega) ?_
                refine sp_nxt (t := t) (l := l) (cu := cu) cs (by omega) (tk_fr h1 (f81.1 310 (by omega) (by omega)) (fun a ha => e81 a (by omega))) (fun J85 k85 s85 m85 f85 => ?_)
                refine x_aload_n dX12_beginOne_88 rfl ?_
                refine x_callV0 (mc1 := 0) (ms1 := 0) dX12_beginOne_89 cv_RX12_195 (ci := 12) (k_ob_306 cs) rfl (Nat.le_of_ble_eq_true rfl) (n1 := n - 1) (by omega) (by omega) (by omega) ?_
                have r85 := rf_em h (by omega) c81 e81 f81 k85 (s85 (by omega)) f85
                refine sp_X12_endOne (t := t) (l := l) (o := o) (sl := sl) (p := p) (cu := adv t l cu.1) (b := b ++ [16384 + (cu.2.2.1 - 128)]) cs (by omega) r85 (fun J89 s89 f89 => ?_)
                exact x_ireturn dX12_beginOne_92 rfl (by omega) (by omega) (by first
 | (exfalso; omega)
 | (rw [beg_op (x := 40) (by omega) (by rw [show cu.2.2.1 = 40 by omega]; rfl)] at hp; exact hp _ s105 f105)
 | (rw [beg_op (x := 5) (by omega) (by rw [show cu.2.2.1 = 45 by omega]; rfl)] at hp; exact hp _ s120 f120)
 | (rw [beg_op (x := 41) (by omega) (by rw [show cu.2.2.1 = 143 by omega]; rfl)] at hp; exact hp _ s145 f145)
 | (rw [beg_op (x := 2) (by omega) (by rw [show cu.2.2.1 = 144 by omega]; rfl)] at hp; exact hp _ s167 f167)
 | (rw [beg_op (x := 42) (by omega) (by rw [show cu.2.2.1 = 145 by omega]; rfl)] at hp; exact hp _ s188 f188)
 | (have hask : askA p = true := by
      rcases hr209 with hh | hh
      · exact hh.2
      · exfalso; omega
    rw [show begO t l sl p cu b = opO t l 20 p cu b from ask_not (sl := sl) (by omega) hask] at hp; exact hp _ s218 f218)
 | (rw [beg_n2 (by omega) (by omega)] at hp; exact hp I ⟨h, Or.inr ⟨hw, rfl⟩⟩ Frf.rf)
 | (rw [beg_w5 (by rcases hr31 with hh | hh; · exfalso; omega
                   · rcases hh.2 with h9 | h9
                     · exact Or.inl ⟨by omega, h9.2⟩
                     · exact Or.inr ⟨by omega, h9.2⟩)] at hp; exact hp I ⟨h, Or.inr ⟨hw, rfl⟩⟩ Frf.rf)
 | (rw [beg_n0 (by omega) (by omega)] at hp; exact hp _ s89 (Frf.tr (Frf.tr (Fst.frf f81) (FcR.frf f85)) f89))
 | (have hq31 : ¬ ((cu.2.2.1 = 134 ∧ sl = true) ∨ (cu.2.2.1 = 135 ∧ sl = false)) := by
      intro h9
      rcases hr31 with hh | hh
      · exact hh.2 (by rcases h9 with h8 | h8
                       · exact Or.inl ⟨by omega, h8.2⟩
                       · exact Or.inr ⟨by omega, h8.2⟩)
      · omega
    rw [beg_w0 (by omega) hq31] at hp; exact hp _ s89 (Frf.tr (Frf.tr (Fst.frf f81) (FcR.frf f85)) f89))
 | (rw [beg_1 (by omega) (by omega)] at hp; exact hp I ⟨h, Or.inr ⟨hw, rfl⟩⟩ Frf.rf)
 | (have hask : askA p = false := by
      rcases hr209 with hh | hh
      · exfalso; omega
      · exact hh.2
    rw [beg_1 (by omega) (by rw [hask]; simp)] at hp; exact hp I ⟨h, Or.inr ⟨hw, rfl⟩⟩ Frf.rf))
              · exfalso; omega
            · exfalso; omega
      · refine x_aload_n dX12_beginOne_29 rfl ?_
        refine x_iload_n dX12_beginOne_30 rfl ?_
        refine x_callV1 (mc1 := 0) (ms1 := 0) dX12_beginOne_31 cv_RX12_192 (ci := 12) (k_ob_306 cs) rfl (Nat.le_of_ble_eq_true rfl) (n1 := n - 1) (by omega) (by omega) (by omega) ?_
        refine sp_X12_isOf (sl := sl) cs (by omega) h4 (fun r31 hr31 => ?_)
        refine x_if_ne 39 dX12_beginOne_34 (by decide) (by omega) (fun w34 => ?_) (fun w34 => ?_)
        · refine x_aload_n dX12_beginOne_39 rfl ?_
          refine x_getI dX12_beginOne_40 gf_RX12_115 (k_ob_306 cs) (fun _ _ => rfl) ?_
          refine x_iconst dX12_beginOne_43 ?_
          refine x_icmp_eq 51 dX12_beginOne_44 (by decide) ⟨(by omega), (by omega)⟩ (fun w44 => ?_) (fun w44 => ?_)
          · have hnum51 : cu.2.2.1 = 2 → _ := a5n
            refine x_aload_n dX12_beginOne_51 rfl ?_
            refine x_aload_n dX12_beginOne_52 rfl ?_
            refine x_getI dX12_beginOne_53 gf_RX12_115 (k_ob_306 cs) (fun _ _ => rfl) ?_
            refine x_iconst dX12_beginOne_56 ?_
            refine x_icmp_ne 64 dX12_beginOne_57 (by decide) ⟨(by omega), (by omega)⟩ (fun w57 => ?_) (fun w57 => ?_)
            · exfalso; omega
            · refine x_iconst dX12_beginOne_60 ?_
              refine x_goto 65 dX12_beginOne_61 (by decide) ?_
              refine x_aload_n dX12_beginOne_65 rfl ?_
              refine x_getI dX12_beginOne_66 gf_RX12_115 (k_ob_306 cs) (fun _ _ => rfl) ?_
              refine x_iconst dX12_beginOne_69 ?_
              refine x_icmp_ne 80 dX12_beginOne_70 (by decide) ⟨(by omega), (by omega)⟩ (fun w70 => ?_) (fun w70 => ?_)
              · exfalso; omega
              · have hnum73 := a5n (by omega)
                refine x_aload_n dX12_beginOne_73 rfl ?_
                refine x_getI dX12_beginOne_74 gf_RX12_121 (k_ob_306 cs) (fun _ _ => rfl) ?_
                refine x_goto 81 dX12_beginOne_77 (by decide) ?_
                refine x_callV2 (mc1 := 0) (ms1 := 0) dX12_beginOne_81 cv_RX12_172 (ci := 12) (k_ob_306 cs) rfl (Nat.le_of_ble_eq_true rfl) (n1 := n - 1) (by omega) (by omega) (by omega) ?_
                have hnum := a5n
                refine sp_X12_emit (o := o) (b := b) (x := cu.2.2.2) (op := 0) (v := I 306 10) cs h8 (by have := h1.2.2.2.2.1; omega) ⟨by rw [show cu.2.2.2 / 16384 = 0 by omega]; rfl, by omega⟩ h3 (fun J81 c81 e81 f81 => ?_)
                refine x_aload_n dX12_beginOne_84 rfl ?_
                refine x_callV0 (mc1 := 0) (ms1 := 0) dX12_beginOne_85 cv_RX12_186 (ci := 12) (k_ob_306 cs) rfl (Nat.le_of_ble_eq_true rfl) (n1 := n - 1) (by omega) (by omega) (by omega) ?_
                refine sp_nxt (t := t) (l := l) (cu := cu) cs (by omega) (tk_fr h1 (f81.1 310 (by omega) (by omega)) (fun a ha => e81 a (by omega))) (fun J85 k85 s85 m85 f85 => ?_)
                refine x_aload_n dX12_beginOne_88 rfl ?_
                refine x_callV0 (mc1 := 0) (ms1 := 0) dX12_beginOne_89 cv_RX12_195 (ci := 12) (k_ob_306 cs) rfl (Nat.le_of_ble_eq_true rfl) (n1 := n - 1) (by omega) (by omega) (by omega) ?_
                have r85 := rf_em h (by omega) c81 e81 f81 k85 (s85 (by omega)) f85
                refine sp_X12_endOne (t := t) (l := l) (o := o) (sl := sl) (p := p) (cu := adv t l cu.1) (b := b ++ [cu.2.2.2]) cs (by omega) r85 (fun J89 s89 f89 => ?_)
                exact x_ireturn dX12_beginOne_92 rfl (by omega) (by omega) (by first
 | (exfalso; omega)
 | (rw [beg_op (x := 40) (by omega) (by rw [show cu.2.2.1 = 40 by omega]; rfl)] at hp; exact hp _ s105 f105)
 | (rw [beg_op (x := 5) (by omega) (by rw [show cu.2.2.1 = 45 by omega]; rfl)] at hp; exact hp _ s120 f120)
 | (rw [beg_op (x := 41) (by omega) (by rw [show cu.2.2.1 = 143 by omega]; rfl)] at hp; exact hp _ s145 f145)
 | (rw [beg_op (x := 2) (by omega) (by rw [show cu.2.2.1 = 144 by omega]; rfl)] at hp; exact hp _ s167 f167)
 | (rw [beg_op (x := 42) (by omega) (by rw [show cu.2.2.1 = 145 by omega]; rfl)] at hp; exact hp _ s188 f188)
 | (have hask : askA p = true := by
      rcases hr209 with hh | hh
      · exact hh.2
      · exfalso; omega
    rw [show begO t l sl p cu b = opO t l 20 p cu b from ask_not (sl := sl) (by omega) hask] at hp; exact hp _ s218 f218)
 | (rw [beg_n2 (by omega) (by omega)] at hp; exact hp I ⟨h, Or.inr ⟨hw, rfl⟩⟩ Frf.rf)
 | (rw [beg_w5 (by rcases hr31 with hh | hh; · exfalso; omega
                   · rcases hh.2 with h9 | h9
                     · exact Or.inl ⟨by omega, h9.2⟩
                     · exact Or.inr ⟨by omega, h9.2⟩)] at hp; exact hp I ⟨h, Or.inr ⟨hw, rfl⟩⟩ Frf.rf)
 | (rw [beg_n0 (by omega) (by omega)] at hp; exact hp _ s89 (Frf.tr (Frf.tr (Fst.frf f81) (FcR.frf f85)) f89))
 | (have hq31 : ¬ ((cu.2.2.1 = 134 ∧ sl = true) ∨ (cu.2.2.1 = 135 ∧ sl = false)) := by
      intro h9
      rcases hr31 with hh | hh
      · exact hh.2 (by rcases h9 with h8 | h8
                       · exact Or.inl ⟨by omega, h8.2⟩
                       · exact Or.inr ⟨by omega, h8.2⟩)
      · omega
    rw [beg_w0 (by omega) hq31] at hp; exact hp _ s89 (Frf.tr (Frf.tr (Fst.frf f81) (FcR.frf f85)) f89))
 | (rw [beg_1 (by omega) (by omega)] at hp; exact hp I ⟨h, Or.inr ⟨hw, rfl⟩⟩ Frf.rf)
 | (have hask : askA p = false := by
      rcases hr209 with hh | hh
      · exfalso; omega
      · exact hh.2
    rw [beg_1 (by omega) (by rw [hask]; simp)] at hp; exact hp I ⟨h, Or.inr ⟨hw, rfl⟩⟩ Frf.rf))
          · refine x_iload_n dX12_beginOne_47 rfl ?_
            refine x_if_lt 93 dX12_beginOne_48 (by decide) (by omega) (fun w48 => ?_) (fun w48 => ?_)
            · refine x_aload_n dX12_beginOne_93 rfl ?_
              refine x_getI dX12_beginOne_94 gf_RX12_115 (k_ob_306 cs) (fun _ _ => rfl) ?_
              refine x_bipush dX12_beginOne_97 (by decide) ?_
              refine x_icmp_ne 109 dX12_beginOne_99 (by decide) ⟨(by omega), (by omega)⟩ (fun w99 => ?_) (fun w99 => ?_)
              · refine x_aload_n dX12_beginOne_109 rfl ?_
                refine x_getI dX12_beginOne_110 gf_RX12_115 (k_ob_306 cs) (fun _ _ => rfl) ?_
                refine x_bipush dX12_beginOne_113 (by decide) ?_
                refine x_icmp_ne 124 dX12_beginOne_115 (by decide) ⟨(by omega), (by omega)⟩ (fun w115 => ?_) (fun w115 => ?_)
                · refine x_aload_n dX12_beginOne_124 rfl ?_
                  refine x_bipush dX12_beginOne_125 (by decide) ?_
                  refine x_bipush dX12_beginOne_127 (by decide) ?_
                  refine x_bipush dX12_beginOne_129 (by decide) ?_
                  refine x_bipush dX12_beginOne_131 (by decide) ?_
                  refine x_callS4 (mc1 := 0) (ms1 := 0) dX12_beginOne_133 cv_RX12_145 (Nat.le_of_ble_eq_true rfl) (n1 := n - 1) (by omega) (by omega) (by omega) ?_
                  refine sp_X12_w4 (by omega) ?_ (by omega)
                  refine x_callV1 (mc1 := 0) (ms1 := 0) dX12_beginOne_136 cv_RX12_201 (ci := 12) (k_ob_306 cs) rfl (Nat.le_of_ble_eq_true rfl) (n1 := n - 1) (by omega) (by omega) (by omega) ?_
                  refine sp_isW (cu := cu) (K := 143) cs (by decide) h1.2.1 (fun r136 hr136 => ?_)
                  refine x_if_eq 149 dX12_beginOne_139 (by decide) (by omega) (fun w139 => ?_) (fun w139 => ?_)
                  · refine x_aload_n dX12_beginOne_149 rfl ?_
                    refine x_bipush dX12_beginOne_150 (by decide) ?_
                    refine x_bipush dX12_beginOne_152 (by decide) ?_
                    refine x_bipush dX12_beginOne_154 (by decide) ?_
                    refine x_callS3 (mc1 := 0) (ms1 := 0) dX12_beginOne_156 cv_RX12_141 (Nat.le_of_ble_eq_true rfl) (n1 := n - 1) (by omega) (by omega) (by omega) ?_
                    refine sp_X12_w3 (by omega) ?_ (by omega)
                    refine x_callV1 (mc1 := 0) (ms1 := 0) dX12_beginOne_159 cv_RX12_201 (ci := 12) (k_ob_306 cs) rfl (Nat.le_of_ble_eq_true rfl) (n1 := n - 1) (by omega) (by omega) (by omega) ?_
                    refine sp_isW (cu := cu) (K := 144) cs (by decide) h1.2.1 (fun r159 hr159 => ?_)
                    refine x_if_eq 171 dX12_beginOne_162 (by decide) (by omega) (fun w162 => ?_) (fun w162 => ?_)
                    · refine x_aload_n dX12_beginOne_171 rfl ?_
                      refine x_bipush dX12_beginOne_172 (by decide) ?_
                      refine x_bipush dX12_beginOne_174 (by decide) ?_
                      refine x_callS2 (mc1 := 0) (ms1 := 0) dX12_beginOne_176 cv_RX12_137 (Nat.le_of_ble_eq_true rfl) (n1 := n - 1) (by omega) (by omega) (by omega) ?_
                      refine sp_X12_w2 (by omega) ?_ (by omega)
                      refine x_callV1 (mc1 := 0) (ms1 := 0) dX12_beginOne_179 cv_RX12_201 (ci := 12) (k_ob_306 cs) rfl (Nat.le_of_ble_eq_true rfl) (n1 := n - 1) (by omega) (by omega) (by omega) ?_
                      refine sp_isW (cu := cu) (K := 145) cs (by decide) h1.2.1 (fun r179 hr179 => ?_)
                      refine x_if_eq 192 dX12_beginOne_182 (by decide) (by omega) (fun w182 => ?_) (fun w182 => ?_)
                      · refine x_aload_n dX12_beginOne_192 rfl ?_
                        refine x_bipush dX12_beginOne_193 (by decide) ?_
                        refine x_bipush dX12_beginOne_195 (by decide) ?_
                        refine x_bipush dX12_beginOne_197 (by decide) ?_
                        refine x_callS3 (mc1 := 0) (ms1 := 0) dX12_beginOne_199 cv_RX12_141 (Nat.le_of_ble_eq_true rfl) (n1 := n - 1) (by omega) (by omega) (by omega) ?_
                        refine sp_X12_w3 (by omega) ?_ (by omega)
                        refine x_callV1 (mc1 := 0) (ms1 := 0) dX12_beginOne_202 cv_RX12_201 (ci := 12) (k_ob_306 cs) rfl (Nat.le_of_ble_eq_true rfl) (n1 := n - 1) (by omega) (by omega) (by omega) ?_
                        refine sp_isW (cu := cu) (K := 149) cs (by decide) h1.2.1 (fun r202 hr202 => ?_)
                        refine x_if_eq 224 dX12_beginOne_205 (by decide) (by omega) (fun w205 => ?_) (fun w205 => ?_)
                        · refine x_iconst dX12_beginOne_224 ?_
                          exact x_ireturn dX12_beginOne_225 rfl (by omega) (by omega) (by first
 | (exfalso; omega)
 | (rw [beg_op (x := 40) (by omega) (by rw [show cu.2.2.1 = 40 by omega]; rfl)] at hp; exact hp _ s105 f105)
 | (rw [beg_op (x := 5) (by omega) (by rw [show cu.2.2.1 = 45 by omega]; rfl)] at hp; exact hp _ s120 f120)
 | (rw [beg_op (x := 41) (by omega) (by rw [show cu.2.2.1 = 143 by omega]; rfl)] at hp; exact hp _ s145 f145)
 | (rw [beg_op (x := 2) (by omega) (by rw [show cu.2.2.1 = 144 by omega]; rfl)] at hp; exact hp _ s167 f167)
 | (rw [beg_op (x := 42) (by omega) (by rw [show cu.2.2.1 = 145 by omega]; rfl)] at hp; exact hp _ s188 f188)
 | (have hask : askA p = true := by
      rcases hr209 with hh | hh
      · exact hh.2
      · exfalso; omega
    rw [show begO t l sl p cu b = opO t l 20 p cu b from ask_not (sl := sl) (by omega) hask] at hp; exact hp _ s218 f218)
 | (rw [beg_n2 (by omega) (by omega)] at hp; exact hp I ⟨h, Or.inr ⟨hw, rfl⟩⟩ Frf.rf)
 | (rw [beg_w5 (by rcases hr31 with hh | hh; · exfalso; omega
                   · rcases hh.2 with h9 | h9
                     · exact Or.inl ⟨by omega, h9.2⟩
                     · exact Or.inr ⟨by omega, h9.2⟩)] at hp; exact hp I ⟨h, Or.inr ⟨hw, rfl⟩⟩ Frf.rf)
 | (rw [beg_n0 (by omega) (by omega)] at hp; exact hp _ s89 (Frf.tr (Frf.tr (Fst.frf f81) (FcR.frf f85)) f89))
 | (have hq31 : ¬ ((cu.2.2.1 = 134 ∧ sl = true) ∨ (cu.2.2.1 = 135 ∧ sl = false)) := by
      intro h9
      rcases hr31 with hh | hh
      · exact hh.2 (by rcases h9 with h8 | h8
                       · exact Or.inl ⟨by omega, h8.2⟩
                       · exact Or.inr ⟨by omega, h8.2⟩)
      · omega
    rw [beg_w0 (by omega) hq31] at hp; exact hp _ s89 (Frf.tr (Frf.tr (Fst.frf f81) (FcR.frf f85)) f89))
 | (rw [beg_1 (by omega) (by omega)] at hp; exact hp I ⟨h, Or.inr ⟨hw, rfl⟩⟩ Frf.rf)
 | (have hask : askA p = false := by
      rcases hr209 with hh | hh
      · exfalso; omega
      · exact hh.2
    rw [beg_1 (by omega) (by rw [hask]; simp)] at hp; exact hp I ⟨h, Or.inr ⟨hw, rfl⟩⟩ Frf.rf))
                        · refine x_aload_n dX12_beginOne_208 rfl ?_
                          refine x_callV0 (mc1 := 0) (ms1 := 0) dX12_beginOne_209 cv_RX12_205 (ci := 12) (k_ob_306 cs) rfl (Nat.le_of_ble_eq_true rfl) (n1 := n - 1) (by omega) (by omega) (by omega) ?_
                          refine sp_X12_isAskAhead cs (by omega) h2 h5 (by omega) (fun r209 hr209 => ?_)
                          refine x_if_eq 224 dX12_beginOne_212 (by decide) (by omega) (fun w212 => ?_) (fun w212 => ?_)
                          · refine x_iconst dX12_beginOne_224 ?_
                            exact x_ireturn dX12_beginOne_225 rfl (by omega) (by omega) (by first
 | (exfalso; omega)
 | (rw [beg_op (x := 40) (by omega) (by rw [show cu.2.2.1 = 40 by omega]; rfl)] at hp; exact hp _ s105 f105)
 | (rw [beg_op (x := 5) (by omega) (by rw [show cu.2.2.1 = 45 by omega]; rfl)] at hp; exact hp _ s120 f120)
 | (rw [beg_op (x := 41) (by omega) (by rw [show cu.2.2.1 = 143 by omega]; rfl)] at hp; exact hp _ s145 f145)
 | (rw [beg_op (x := 2) (by omega) (by rw [show cu.2.2.1 = 144 by omega]; rfl)] at hp; exact hp _ s167 f167)
 | (rw [beg_op (x := 42) (by omega) (by rw [show cu.2.2.1 = 145 by omega]; rfl)] at hp; exact hp _ s188 f188)
 | (have hask : askA p = true := by
      rcases hr209 with hh | hh
      · exact hh.2
      · exfalso; omega
    rw [show begO t l sl p cu b = opO t l 20 p cu b from ask_not (sl := sl) (by omega) hask] at hp; exact hp _ s218 f218)
 | (rw [beg_n2 (by omega) (by omega)] at hp; exact hp I ⟨h, Or.inr ⟨hw, rfl⟩⟩ Frf.rf)
 | (rw [beg_w5 (by rcases hr31 with hh | hh; · exfalso; omega
                   · rcases hh.2 with h9 | h9
                     · exact Or.inl ⟨by omega, h9.2⟩
                     · exact Or.inr ⟨by omega, h9.2⟩)] at hp; exact hp I ⟨h, Or.inr ⟨hw, rfl⟩⟩ Frf.rf)
 | (rw [beg_n0 (by omega) (by omega)] at hp; exact hp _ s89 (Frf.tr (Frf.tr (Fst.frf f81) (FcR.frf f85)) f89))
 | (have hq31 : ¬ ((cu.2.2.1 = 134 ∧ sl = true) ∨ (cu.2.2.1 = 135 ∧ sl = false)) := by
      intro h9
      rcases hr31 with hh | hh
      · exact hh.2 (by rcases h9 with h8 | h8
                       · exact Or.inl ⟨by omega, h8.2⟩
                       · exact Or.inr ⟨by omega, h8.2⟩)
      · omega
    rw [beg_w0 (by omega) hq31] at hp; exact hp _ s89 (Frf.tr (Frf.tr (Fst.frf f81) (FcR.frf f85)) f89))
 | (rw [beg_1 (by omega) (by omega)] at hp; exact hp I ⟨h, Or.inr ⟨hw, rfl⟩⟩ Frf.rf)
 | (have hask : askA p = false := by
      rcases hr209 with hh | hh
      · exfalso; omega
      · exact hh.2
    rw [beg_1 (by omega) (by rw [hask]; simp)] at hp; exact hp I ⟨h, Or.inr ⟨hw, rfl⟩⟩ Frf.rf))
                          · refine x_aload_n dX12_beginOne_215 rfl ?_
                            refine x_bipush dX12_beginOne_216 (by decide) ?_
                            refine x_callV1 (mc1 := 0) (ms1 := 0) dX12_beginOne_218 cv_RX12_198 (ci := 12) (k_ob_306 cs) rfl (Nat.le_of_ble_eq_true rfl) (n1 := n - 1) (by omega) (by omega) (by omega) ?_
                            refine sp_X12_opened (x := 20) (t := t) (l := l) (o := o) (sl := sl) (p := p) (cu := cu) (b := b) cs (by omega) (by decide) h hw (by omega) (fun J218 s218 f218 => ?_)
                            refine x_goto 225 dX12_beginOne_221 (by decide) ?_
                            exact x_ireturn dX12_beginOne_225 rfl (by omega) (by omega) (by first
 | (exfalso; omega)
 | (rw [beg_op (x := 40) (by omega) (by rw [show cu.2.2.1 = 40 by omega]; rfl)] at hp; exact hp _ s105 f105)
 | (rw [beg_op (x := 5) (by omega) (by rw [show cu.2.2.1 = 45 by omega]; rfl)] at hp; exact hp _ s120 f120)
 | (rw [beg_op (x := 41) (by omega) (by rw [show cu.2.2.1 = 143 by omega]; rfl)] at hp; exact hp _ s145 f145)
 | (rw [beg_op (x := 2) (by omega) (by rw [show cu.2.2.1 = 144 by omega]; rfl)] at hp; exact hp _ s167 f167)
 | (rw [beg_op (x := 42) (by omega) (by rw [show cu.2.2.1 = 145 by omega]; rfl)] at hp; exact hp _ s188 f188)
 | (have hask : askA p = true := by
      rcases hr209 with hh | hh
      · exact hh.2
      · exfalso; omega
    rw [show begO t l sl p cu b = opO t l 20 p cu b from ask_not (sl := sl) (by omega) hask] at hp; exact hp _ s218 f218)
 | (rw [beg_n2 (by omega) (by omega)] at hp; exact hp I ⟨h, Or.inr ⟨hw, rfl⟩⟩ Frf.rf)
 | (rw [beg_w5 (by rcases hr31 with hh | hh; · exfalso; omega
                   · rcases hh.2 with h9 | h9
                     · exact Or.inl ⟨by omega, h9.2⟩
                     · exact Or.inr ⟨by omega, h9.2⟩)] at hp; exact hp I ⟨h, Or.inr ⟨hw, rfl⟩⟩ Frf.rf)
 | (rw [beg_n0 (by omega) (by omega)] at hp; exact hp _ s89 (Frf.tr (Frf.tr (Fst.frf f81) (FcR.frf f85)) f89))
 | (have hq31 : ¬ ((cu.2.2.1 = 134 ∧ sl = true) ∨ (cu.2.2.1 = 135 ∧ sl = false)) := by
      intro h9
      rcases hr31 with hh | hh
      · exact hh.2 (by rcases h9 with h8 | h8
                       · exact Or.inl ⟨by omega, h8.2⟩
                       · exact Or.inr ⟨by omega, h8.2⟩)
      · omega
    rw [beg_w0 (by omega) hq31] at hp; exact hp _ s89 (Frf.tr (Frf.tr (Fst.frf f81) (FcR.frf f85)) f89))
 | (rw [beg_1 (by omega) (by omega)] at hp; exact hp I ⟨h, Or.inr ⟨hw, rfl⟩⟩ Frf.rf)
 | (have hask : askA p = false := by
      rcases hr209 with hh | hh
      · exfalso; omega
      · exact hh.2
    rw [beg_1 (by omega) (by rw [hask]; simp)] at hp; exact hp I ⟨h, Or.inr ⟨hw, rfl⟩⟩ Frf.rf))
                      · refine x_aload_n dX12_beginOne_185 rfl ?_
                        refine x_bipush dX12_beginOne_186 (by decide) ?_
                        refine x_callV1 (mc1 := 0) (ms1 := 0) dX12_beginOne_188 cv_RX12_198 (ci := 12) (k_ob_306 cs) rfl (Nat.le_of_ble_eq_true rfl) (n1 := n - 1) (by omega) (by omega) (by omega) ?_
                        refine sp_X12_opened (x := 42) (t := t) (l := l) (o := o) (sl := sl) (p := p) (cu := cu) (b := b) cs (by omega) (by decide) h hw (by omega) (fun J188 s188 f188 => ?_)
                        exact x_ireturn dX12_beginOne_191 rfl (by omega) (by omega) (by first
 | (exfalso; omega)
 | (rw [beg_op (x := 40) (by omega) (by rw [show cu.2.2.1 = 40 by omega]; rfl)] at hp; exact hp _ s105 f105)
 | (rw [beg_op (x := 5) (by omega) (by rw [show cu.2.2.1 = 45 by omega]; rfl)] at hp; exact hp _ s120 f120)
 | (rw [beg_op (x := 41) (by omega) (by rw [show cu.2.2.1 = 143 by omega]; rfl)] at hp; exact hp _ s145 f145)
 | (rw [beg_op (x := 2) (by omega) (by rw [show cu.2.2.1 = 144 by omega]; rfl)] at hp; exact hp _ s167 f167)
 | (rw [beg_op (x := 42) (by omega) (by rw [show cu.2.2.1 = 145 by omega]; rfl)] at hp; exact hp _ s188 f188)
 | (have hask : askA p = true := by
      rcases hr209 with hh | hh
      · exact hh.2
      · exfalso; omega
    rw [show begO t l sl p cu b = opO t l 20 p cu b from ask_not (sl := sl) (by omega) hask] at hp; exact hp _ s218 f218)
 | (rw [beg_n2 (by omega) (by omega)] at hp; exact hp I ⟨h, Or.inr ⟨hw, rfl⟩⟩ Frf.rf)
 | (rw [beg_w5 (by rcases hr31 with hh | hh; · exfalso; omega
                   · rcases hh.2 with h9 | h9
                     · exact Or.inl ⟨by omega, h9.2⟩
                     · exact Or.inr ⟨by omega, h9.2⟩)] at hp; exact hp I ⟨h, Or.inr ⟨hw, rfl⟩⟩ Frf.rf)
 | (rw [beg_n0 (by omega) (by omega)] at hp; exact hp _ s89 (Frf.tr (Frf.tr (Fst.frf f81) (FcR.frf f85)) f89))
 | (have hq31 : ¬ ((cu.2.2.1 = 134 ∧ sl = true) ∨ (cu.2.2.1 = 135 ∧ sl = false)) := by
      intro h9
      rcases hr31 with hh | hh
      · exact hh.2 (by rcases h9 with h8 | h8
                       · exact Or.inl ⟨by omega, h8.2⟩
                       · exact Or.inr ⟨by omega, h8.2⟩)
      · omega
    rw [beg_w0 (by omega) hq31] at hp; exact hp _ s89 (Frf.tr (Frf.tr (Fst.frf f81) (FcR.frf f85)) f89))
 | (rw [beg_1 (by omega) (by omega)] at hp; exact hp I ⟨h, Or.inr ⟨hw, rfl⟩⟩ Frf.rf)
 | (have hask : askA p = false := by
      rcases hr209 with hh | hh
      · exfalso; omega
      · exact hh.2
    rw [beg_1 (by omega) (by rw [hask]; simp)] at hp; exact hp I ⟨h, Or.inr ⟨hw, rfl⟩⟩ Frf.rf))
                    · refine x_aload_n dX12_beginOne_165 rfl ?_
                      refine x_iconst dX12_beginOne_166 ?_
                      refine x_callV1 (mc1 := 0) (ms1 := 0) dX12_beginOne_167 cv_RX12_198 (ci := 12) (k_ob_306 cs) rfl (Nat.le_of_ble_eq_true rfl) (n1 := n - 1) (by omega) (by omega) (by omega) ?_
                      refine sp_X12_opened (x := 2) (t := t) (l := l) (o := o) (sl := sl) (p := p) (cu := cu) (b := b) cs (by omega) (by decide) h hw (by omega) (fun J167 s167 f167 => ?_)
                      exact x_ireturn dX12_beginOne_170 rfl (by omega) (by omega) (by first
 | (exfalso; omega)
 | (rw [beg_op (x := 40) (by omega) (by rw [show cu.2.2.1 = 40 by omega]; rfl)] at hp; exact hp _ s105 f105)
 | (rw [beg_op (x := 5) (by omega) (by rw [show cu.2.2.1 = 45 by omega]; rfl)] at hp; exact hp _ s120 f120)
 | (rw [beg_op (x := 41) (by omega) (by rw [show cu.2.2.1 = 143 by omega]; rfl)] at hp; exact hp _ s145 f145)
 | (rw [beg_op (x := 2) (by omega) (by rw [show cu.2.2.1 = 144 by omega]; rfl)] at hp; exact hp _ s167 f167)
 | (rw [beg_op (x := 42) (by omega) (by rw [show cu.2.2.1 = 145 by omega]; rfl)] at hp; exact hp _ s188 f188)
 | (have hask : askA p = true := by
      rcases hr209 with hh | hh
      · exact hh.2
      · exfalso; omega
    rw [show begO t l sl p cu b = opO t l 20 p cu b from ask_not (sl := sl) (by omega) hask] at hp; exact hp _ s218 f218)
 | (rw [beg_n2 (by omega) (by omega)] at hp; exact hp I ⟨h, Or.inr ⟨hw, rfl⟩⟩ Frf.rf)
 | (rw [beg_w5 (by rcases hr31 with hh | hh; · exfalso; omega
                   · rcases hh.2 with h9 | h9
                     · exact Or.inl ⟨by omega, h9.2⟩
                     · exact Or.inr ⟨by omega, h9.2⟩)] at hp; exact hp I ⟨h, Or.inr ⟨hw, rfl⟩⟩ Frf.rf)
 | (rw [beg_n0 (by omega) (by omega)] at hp; exact hp _ s89 (Frf.tr (Frf.tr (Fst.frf f81) (FcR.frf f85)) f89))
 | (have hq31 : ¬ ((cu.2.2.1 = 134 ∧ sl = true) ∨ (cu.2.2.1 = 135 ∧ sl = false)) := by
      intro h9
      rcases hr31 with hh | hh
      · exact hh.2 (by rcases h9 with h8 | h8
                       · exact Or.inl ⟨by omega, h8.2⟩
                       · exact Or.inr ⟨by omega, h8.2⟩)
      · omega
    rw [beg_w0 (by omega) hq31] at hp; exact hp _ s89 (Frf.tr (Frf.tr (Fst.frf f81) (FcR.frf f85)) f89))
 | (rw [beg_1 (by omega) (by omega)] at hp; exact hp I ⟨h, Or.inr ⟨hw, rfl⟩⟩ Frf.rf)
 | (have hask : askA p = false := by
      rcases hr209 with hh | hh
      · exfalso; omega
      · exact hh.2
    rw [beg_1 (by omega) (by rw [hask]; simp)] at hp; exact hp I ⟨h, Or.inr ⟨hw, rfl⟩⟩ Frf.rf))
                  · refine x_aload_n dX12_beginOne_142 rfl ?_
                    refine x_bipush dX12_beginOne_143 (by decide) ?_
                    refine x_callV1 (mc1 := 0) (ms1 := 0) dX12_beginOne_145 cv_RX12_198 (ci := 12) (k_ob_306 cs) rfl (Nat.le_of_ble_eq_true rfl) (n1 := n - 1) (by omega) (by omega) (by omega) ?_
                    refine sp_X12_opened (x := 41) (t := t) (l := l) (o := o) (sl := sl) (p := p) (cu := cu) (b := b) cs (by omega) (by decide) h hw (by omega) (fun J145 s145 f145 => ?_)
                    exact x_ireturn dX12_beginOne_148 rfl (by omega) (by omega) (by first
 | (exfalso; omega)
 | (rw [beg_op (x := 40) (by omega) (by rw [show cu.2.2.1 = 40 by omega]; rfl)] at hp; exact hp _ s105 f105)
 | (rw [beg_op (x := 5) (by omega) (by rw [show cu.2.2.1 = 45 by omega]; rfl)] at hp; exact hp _ s120 f120)
 | (rw [beg_op (x := 41) (by omega) (by rw [show cu.2.2.1 = 143 by omega]; rfl)] at hp; exact hp _ s145 f145)
 | (rw [beg_op (x := 2) (by omega) (by rw [show cu.2.2.1 = 144 by omega]; rfl)] at hp; exact hp _ s167 f167)
 | (rw [beg_op (x := 42) (by omega) (by rw [show cu.2.2.1 = 145 by omega]; rfl)] at hp; exact hp _ s188 f188)
 | (have hask : askA p = true := by
      rcases hr209 with hh | hh
      · exact hh.2
      · exfalso; omega
    rw [show begO t l sl p cu b = opO t l 20 p cu b from ask_not (sl := sl) (by omega) hask] at hp; exact hp _ s218 f218)
 | (rw [beg_n2 (by omega) (by omega)] at hp; exact hp I ⟨h, Or.inr ⟨hw, rfl⟩⟩ Frf.rf)
 | (rw [beg_w5 (by rcases hr31 with hh | hh; · exfalso; omega
                   · rcases hh.2 with h9 | h9
                     · exact Or.inl ⟨by omega, h9.2⟩
                     · exact Or.inr ⟨by omega, h9.2⟩)] at hp; exact hp I ⟨h, Or.inr ⟨hw, rfl⟩⟩ Frf.rf)
 | (rw [beg_n0 (by omega) (by omega)] at hp; exact hp _ s89 (Frf.tr (Frf.tr (Fst.frf f81) (FcR.frf f85)) f89))
 | (have hq31 : ¬ ((cu.2.2.1 = 134 ∧ sl = true) ∨ (cu.2.2.1 = 135 ∧ sl = false)) := by
      intro h9
      rcases hr31 with hh | hh
      · exact hh.2 (by rcases h9 with h8 | h8
                       · exact Or.inl ⟨by omega, h8.2⟩
                       · exact Or.inr ⟨by omega, h8.2⟩)
      · omega
    rw [beg_w0 (by omega) hq31] at hp; exact hp _ s89 (Frf.tr (Frf.tr (Fst.frf f81) (FcR.frf f85)) f89))
 | (rw [beg_1 (by omega) (by omega)] at hp; exact hp I ⟨h, Or.inr ⟨hw, rfl⟩⟩ Frf.rf)
 | (have hask : askA p = false := by
      rcases hr209 with hh | hh
      · exfalso; omega
      · exact hh.2
    rw [beg_1 (by omega) (by rw [hask]; simp)] at hp; exact hp I ⟨h, Or.inr ⟨hw, rfl⟩⟩ Frf.rf))
                · refine x_aload_n dX12_beginOne_118 rfl ?_
                  refine x_iconst dX12_beginOne_119 ?_
                  refine x_callV1 (mc1 := 0) (ms1 := 0) dX12_beginOne_120 cv_RX12_198 (ci := 12) (k_ob_306 cs) rfl (Nat.le_of_ble_eq_true rfl) (n1 := n - 1) (by omega) (by omega) (by omega) ?_
                  refine sp_X12_opened (x := 5) (t := t) (l := l) (o := o) (sl := sl) (p := p) (cu := cu) (b := b) cs (by omega) (by decide) h hw (by omega) (fun J120 s120 f120 => ?_)
                  exact x_ireturn dX12_beginOne_123 rfl (by omega) (by omega) (by first
 | (exfalso; omega)
 | (rw [beg_op (x := 40) (by omega) (by rw [show cu.2.2.1 = 40 by omega]; rfl)] at hp; exact hp _ s105 f105)
 | (rw [beg_op (x := 5) (by omega) (by rw [show cu.2.2.1 = 45 by omega]; rfl)] at hp; exact hp _ s120 f120)
 | (rw [beg_op (x := 41) (by omega) (by rw [show cu.2.2.1 = 143 by omega]; rfl)] at hp; exact hp _ s145 f145)
 | (rw [beg_op (x := 2) (by omega) (by rw [show cu.2.2.1 = 144 by omega]; rfl)] at hp; exact hp _ s167 f167)
 | (rw [beg_op (x := 42) (by omega) (by rw [show cu.2.2.1 = 145 by omega]; rfl)] at hp; exact hp _ s188 f188)
 | (have hask : askA p = true := by
      rcases hr209 with hh | hh
      · exact hh.2
      · exfalso; omega
    rw [show begO t l sl p cu b = opO t l 20 p cu b from ask_not (sl := sl) (by omega) hask] at hp; exact hp _ s218 f218)
 | (rw [beg_n2 (by omega) (by omega)] at hp; exact hp I ⟨h, Or.inr ⟨hw, rfl⟩⟩ Frf.rf)
 | (rw [beg_w5 (by rcases hr31 with hh | hh; · exfalso; omega
                   · rcases hh.2 with h9 | h9
                     · exact Or.inl ⟨by omega, h9.2⟩
                     · exact Or.inr ⟨by omega, h9.2⟩)] at hp; exact hp I ⟨h, Or.inr ⟨hw, rfl⟩⟩ Frf.rf)
 | (rw [beg_n0 (by omega) (by omega)] at hp; exact hp _ s89 (Frf.tr (Frf.tr (Fst.frf f81) (FcR.frf f85)) f89))
 | (have hq31 : ¬ ((cu.2.2.1 = 134 ∧ sl = true) ∨ (cu.2.2.1 = 135 ∧ sl = false)) := by
      intro h9
      rcases hr31 with hh | hh
      · exact hh.2 (by rcases h9 with h8 | h8
                       · exact Or.inl ⟨by omega, h8.2⟩
                       · exact Or.inr ⟨by omega, h8.2⟩)
      · omega
    rw [beg_w0 (by omega) hq31] at hp; exact hp _ s89 (Frf.tr (Frf.tr (Fst.frf f81) (FcR.frf f85)) f89))
 | (rw [beg_1 (by omega) (by omega)] at hp; exact hp I ⟨h, Or.inr ⟨hw, rfl⟩⟩ Frf.rf)
 | (have hask : askA p = false := by
      rcases hr209 with hh | hh
      · exfalso; omega
      · exact hh.2
    rw [beg_1 (by omega) (by rw [hask]; simp)] at hp; exact hp I ⟨h, Or.inr ⟨hw, rfl⟩⟩ Frf.rf))
              · refine x_aload_n dX12_beginOne_102 rfl ?_
                refine x_bipush dX12_beginOne_103 (by decide) ?_
                refine x_callV1 (mc1 := 0) (ms1 := 0) dX12_beginOne_105 cv_RX12_198 (ci := 12) (k_ob_306 cs) rfl (Nat.le_of_ble_eq_true rfl) (n1 := n - 1) (by omega) (by omega) (by omega) ?_
                refine sp_X12_opened (x := 40) (t := t) (l := l) (o := o) (sl := sl) (p := p) (cu := cu) (b := b) cs (by omega) (by decide) h hw (by omega) (fun J105 s105 f105 => ?_)
                exact x_ireturn dX12_beginOne_108 rfl (by omega) (by omega) (by first
 | (exfalso; omega)
 | (rw [beg_op (x := 40) (by omega) (by rw [show cu.2.2.1 = 40 by omega]; rfl)] at hp; exact hp _ s105 f105)
 | (rw [beg_op (x := 5) (by omega) (by rw [show cu.2.2.1 = 45 by omega]; rfl)] at hp; exact hp _ s120 f120)
 | (rw [beg_op (x := 41) (by omega) (by rw [show cu.2.2.1 = 143 by omega]; rfl)] at hp; exact hp _ s145 f145)
 | (rw [beg_op (x := 2) (by omega) (by rw [show cu.2.2.1 = 144 by omega]; rfl)] at hp; exact hp _ s167 f167)
 | (rw [beg_op (x := 42) (by omega) (by rw [show cu.2.2.1 = 145 by omega]; rfl)] at hp; exact hp _ s188 f188)
 | (have hask : askA p = true := by
      rcases hr209 with hh | hh
      · exact hh.2
      · exfalso; omega
    rw [show begO t l sl p cu b = opO t l 20 p cu b from ask_not (sl := sl) (by omega) hask] at hp; exact hp _ s218 f218)
 | (rw [beg_n2 (by omega) (by omega)] at hp; exact hp I ⟨h, Or.inr ⟨hw, rfl⟩⟩ Frf.rf)
 | (rw [beg_w5 (by rcases hr31 with hh | hh; · exfalso; omega
                   · rcases hh.2 with h9 | h9
                     · exact Or.inl ⟨by omega, h9.2⟩
                     · exact Or.inr ⟨by omega, h9.2⟩)] at hp; exact hp I ⟨h, Or.inr ⟨hw, rfl⟩⟩ Frf.rf)
 | (rw [beg_n0 (by omega) (by omega)] at hp; exact hp _ s89 (Frf.tr (Frf.tr (Fst.frf f81) (FcR.frf f85)) f89))
 | (have hq31 : ¬ ((cu.2.2.1 = 134 ∧ sl = true) ∨ (cu.2.2.1 = 135 ∧ sl = false)) := by
      intro h9
      rcases hr31 with hh | hh
      · exact hh.2 (by rcases h9 with h8 | h8
                       · exact Or.inl ⟨by omega, h8.2⟩
                       · exact Or.inr ⟨by omega, h8.2⟩)
      · omega
    rw [beg_w0 (by omega) hq31] at hp; exact hp _ s89 (Frf.tr (Frf.tr (Fst.frf f81) (FcR.frf f85)) f89))
 | (rw [beg_1 (by omega) (by omega)] at hp; exact hp I ⟨h, Or.inr ⟨hw, rfl⟩⟩ Frf.rf)
 | (have hask : askA p = false := by
      rcases hr209 with hh | hh
      · exfalso; omega
      · exact hh.2
    rw [beg_1 (by omega) (by rw [hask]; simp)] at hp; exact hp I ⟨h, Or.inr ⟨hw, rfl⟩⟩ Frf.rf))
            · have hnum51 : cu.2.2.1 = 2 → _ := a5n
              refine x_aload_n dX12_beginOne_51 rfl ?_
              refine x_aload_n dX12_beginOne_52 rfl ?_
              refine x_getI dX12_beginOne_53 gf_RX12_115 (k_ob_306 cs) (fun _ _ => rfl) ?_
              refine x_iconst dX12_beginOne_56 ?_
              refine x_icmp_ne 64 dX12_beginOne_57 (by decide) ⟨(by omega), (by omega)⟩ (fun w57 => ?_) (fun w57 => ?_)
              · refine x_iconst dX12_beginOne_64 ?_
                refine x_aload_n dX12_beginOne_65 rfl ?_
                refine x_getI dX12_beginOne_66 gf_RX12_115 (k_ob_306 cs) (fun _ _ => rfl) ?_
                refine x_iconst dX12_beginOne_69 ?_
                refine x_icmp_ne 80 dX12_beginOne_70 (by decide) ⟨(by omega), (by omega)⟩ (fun w70 => ?_) (fun w70 => ?_)
                · refine x_iload_n dX12_beginOne_80 rfl ?_
                  refine x_callV2 (mc1 := 0) (ms1 := 0) dX12_beginOne_81 cv_RX12_172 (ci := 12) (k_ob_306 cs) rfl (Nat.le_of_ble_eq_true rfl) (n1 := n - 1) (by omega) (by omega) (by omega) ?_
                  have hnum := a5n
                  refine sp_X12_emit (o := o) (b := b) (x := 16384 + (cu.2.2.1 - 128)) (op := 1) (v := r21) cs h8 (by have := h1.2.2.2.2.1; omega) ⟨by rw [show (16384 + (cu.2.2.1 - 128)) / 16384 = 1 by omega]; rfl, by omega⟩ h3 (fun J81 c81 e81 f81 => ?_)
                  refine x_aload_n dX12_beginOne_84 rfl ?_
                  refine x_callV0 (mc1 := 0) (ms1 := 0) dX12_beginOne_85 cv_RX12_186 (ci := 12) (k_ob_306 cs) rfl (Nat.le_of_ble_eq_true rfl) (n1 := n - 1) (by omega) (by omega) (by omega) ?_
                  refine sp_nxt (t := t) (l := l) (cu := cu) cs (by omega) (tk_fr h1 (f81.1 310 (by omega) (by omega)) (fun a ha => e81 a (by omega))) (fun J85 k85 s85 m85 f85 => ?_)
                  refine x_aload_n dX12_beginOne_88 rfl ?_
                  refine x_callV0 (mc1 := 0) (ms1 := 0) dX12_beginOne_89 cv_RX12_195 (ci := 12) (k_ob_306 cs) rfl (Nat.le_of_ble_eq_true rfl) (n1 := n - 1) (by omega) (by omega) (by omega) ?_
                  have r85 := rf_em h (by omega) c81 e81 f81 k85 (s85 (by omega)) f85
                  refine sp_X12_endOne (t := t) (l := l) (o := o) (sl := sl) (p := p) (cu := adv t l cu.1) (b := b ++ [16384 + (cu.2.2.1 - 128)]) cs (by omega) r85 (fun J89 s89 f89 => ?_)
                  exact x_ireturn dX12_beginOne_92 rfl (by omega) (by omega) (by first
 | (exfalso; omega)
 | (rw [beg_op (x := 40) (by omega) (by rw [show cu.2.2.1 = 40 by omega]; rfl)] at hp; exact hp _ s105 f105)
 | (rw [beg_op (x := 5) (by omega) (by rw [show cu.2.2.1 = 45 by omega]; rfl)] at hp; exact hp _ s120 f120)
 | (rw [beg_op (x := 41) (by omega) (by rw [show cu.2.2.1 = 143 by omega]; rfl)] at hp; exact hp _ s145 f145)
 | (rw [beg_op (x := 2) (by omega) (by rw [show cu.2.2.1 = 144 by omega]; rfl)] at hp; exact hp _ s167 f167)
 | (rw [beg_op (x := 42) (by omega) (by rw [show cu.2.2.1 = 145 by omega]; rfl)] at hp; exact hp _ s188 f188)
 | (have hask : askA p = true := by
      rcases hr209 with hh | hh
      · exact hh.2
      · exfalso; omega
    rw [show begO t l sl p cu b = opO t l 20 p cu b from ask_not (sl := sl) (by omega) hask] at hp; exact hp _ s218 f218)
 | (rw [beg_n2 (by omega) (by omega)] at hp; exact hp I ⟨h, Or.inr ⟨hw, rfl⟩⟩ Frf.rf)
 | (rw [beg_w5 (by rcases hr31 with hh | hh; · exfalso; omega
                   · rcases hh.2 with h9 | h9
                     · exact Or.inl ⟨by omega, h9.2⟩
                     · exact Or.inr ⟨by omega, h9.2⟩)] at hp; exact hp I ⟨h, Or.inr ⟨hw, rfl⟩⟩ Frf.rf)
 | (rw [beg_n0 (by omega) (by omega)] at hp; exact hp _ s89 (Frf.tr (Frf.tr (Fst.frf f81) (FcR.frf f85)) f89))
 | (have hq31 : ¬ ((cu.2.2.1 = 134 ∧ sl = true) ∨ (cu.2.2.1 = 135 ∧ sl = false)) := by
      intro h9
      rcases hr31 with hh | hh
      · exact hh.2 (by rcases h9 with h8 | h8
                       · exact Or.inl ⟨by omega, h8.2⟩
                       · exact Or.inr ⟨by omega, h8.2⟩)
      · omega
    rw [beg_w0 (by omega) hq31] at hp; exact hp _ s89 (Frf.tr (Frf.tr (Fst.frf f81) (FcR.frf f85)) f89))
 | (rw [beg_1 (by omega) (by omega)] at hp; exact hp I ⟨h, Or.inr ⟨hw, rfl⟩⟩ Frf.rf)
 | (have hask : askA p = false := by
      rcases hr209 with hh | hh
      · exfalso; omega
      · exact hh.2
    rw [beg_1 (by omega) (by rw [hask]; simp)] at hp; exact hp I ⟨h, Or.inr ⟨hw, rfl⟩⟩ Frf.rf))
                · exfalso; omega
              · exfalso; omega
        · refine x_iconst dX12_beginOne_37 ?_
          exact x_ireturn dX12_beginOne_38 rfl (by omega) (by omega) (by first
 | (exfalso; omega)
 | (rw [beg_op (x := 40) (by omega) (by rw [show cu.2.2.1 = 40 by omega]; rfl)] at hp; exact hp _ s105 f105)
 | (rw [beg_op (x := 5) (by omega) (by rw [show cu.2.2.1 = 45 by omega]; rfl)] at hp; exact hp _ s120 f120)
 | (rw [beg_op (x := 41) (by omega) (by rw [show cu.2.2.1 = 143 by omega]; rfl)] at hp; exact hp _ s145 f145)
 | (rw [beg_op (x := 2) (by omega) (by rw [show cu.2.2.1 = 144 by omega]; rfl)] at hp; exact hp _ s167 f167)
 | (rw [beg_op (x := 42) (by omega) (by rw [show cu.2.2.1 = 145 by omega]; rfl)] at hp; exact hp _ s188 f188)
 | (have hask : askA p = true := by
      rcases hr209 with hh | hh
      · exact hh.2
      · exfalso; omega
    rw [show begO t l sl p cu b = opO t l 20 p cu b from ask_not (sl := sl) (by omega) hask] at hp; exact hp _ s218 f218)
 | (rw [beg_n2 (by omega) (by omega)] at hp; exact hp I ⟨h, Or.inr ⟨hw, rfl⟩⟩ Frf.rf)
 | (rw [beg_w5 (by rcases hr31 with hh | hh; · exfalso; omega
                   · rcases hh.2 with h9 | h9
                     · exact Or.inl ⟨by omega, h9.2⟩
                     · exact Or.inr ⟨by omega, h9.2⟩)] at hp; exact hp I ⟨h, Or.inr ⟨hw, rfl⟩⟩ Frf.rf)
 | (rw [beg_n0 (by omega) (by omega)] at hp; exact hp _ s89 (Frf.tr (Frf.tr (Fst.frf f81) (FcR.frf f85)) f89))
 | (have hq31 : ¬ ((cu.2.2.1 = 134 ∧ sl = true) ∨ (cu.2.2.1 = 135 ∧ sl = false)) := by
      intro h9
      rcases hr31 with hh | hh
      · exact hh.2 (by rcases h9 with h8 | h8
                       · exact Or.inl ⟨by omega, h8.2⟩
                       · exact Or.inr ⟨by omega, h8.2⟩)
      · omega
    rw [beg_w0 (by omega) hq31] at hp; exact hp _ s89 (Frf.tr (Frf.tr (Fst.frf f81) (FcR.frf f85)) f89))
 | (rw [beg_1 (by omega) (by omega)] at hp; exact hp I ⟨h, Or.inr ⟨hw, rfl⟩⟩ Frf.rf)
 | (have hask : askA p = false := by
      rcases hr209 with hh | hh
      · exfalso; omega
      · exact hh.2
    rw [beg_1 (by omega) (by rw [hask]; simp)] at hp; exact hp I ⟨h, Or.inr ⟨hw, rfl⟩⟩ Frf.rf))
    · refine x_iconst dX12_beginOne_18 ?_
      exact x_ireturn dX12_beginOne_19 rfl (by omega) (by omega) (by first
 | (exfalso; omega)
 | (rw [beg_op (x := 40) (by omega) (by rw [show cu.2.2.1 = 40 by omega]; rfl)] at hp; exact hp _ s105 f105)
 | (rw [beg_op (x := 5) (by omega) (by rw [show cu.2.2.1 = 45 by omega]; rfl)] at hp; exact hp _ s120 f120)
 | (rw [beg_op (x := 41) (by omega) (by rw [show cu.2.2.1 = 143 by omega]; rfl)] at hp; exact hp _ s145 f145)
 | (rw [beg_op (x := 2) (by omega) (by rw [show cu.2.2.1 = 144 by omega]; rfl)] at hp; exact hp _ s167 f167)
 | (rw [beg_op (x := 42) (by omega) (by rw [show cu.2.2.1 = 145 by omega]; rfl)] at hp; exact hp _ s188 f188)
 | (have hask : askA p = true := by
      rcases hr209 with hh | hh
      · exact hh.2
      · exfalso; omega
    rw [show begO t l sl p cu b = opO t l 20 p cu b from ask_not (sl := sl) (by omega) hask] at hp; exact hp _ s218 f218)
 | (rw [beg_n2 (by omega) (by omega)] at hp; exact hp I ⟨h, Or.inr ⟨hw, rfl⟩⟩ Frf.rf)
 | (rw [beg_w5 (by rcases hr31 with hh | hh; · exfalso; omega
                   · rcases hh.2 with h9 | h9
                     · exact Or.inl ⟨by omega, h9.2⟩
                     · exact Or.inr ⟨by omega, h9.2⟩)] at hp; exact hp I ⟨h, Or.inr ⟨hw, rfl⟩⟩ Frf.rf)
 | (rw [beg_n0 (by omega) (by omega)] at hp; exact hp _ s89 (Frf.tr (Frf.tr (Fst.frf f81) (FcR.frf f85)) f89))
 | (have hq31 : ¬ ((cu.2.2.1 = 134 ∧ sl = true) ∨ (cu.2.2.1 = 135 ∧ sl = false)) := by
      intro h9
      rcases hr31 with hh | hh
      · exact hh.2 (by rcases h9 with h8 | h8
                       · exact Or.inl ⟨by omega, h8.2⟩
                       · exact Or.inr ⟨by omega, h8.2⟩)
      · omega
    rw [beg_w0 (by omega) hq31] at hp; exact hp _ s89 (Frf.tr (Frf.tr (Fst.frf f81) (FcR.frf f85)) f89))
 | (rw [beg_1 (by omega) (by omega)] at hp; exact hp I ⟨h, Or.inr ⟨hw, rfl⟩⟩ Frf.rf)
 | (have hask : askA p = false := by
      rcases hr209 with hh | hh
      · exfalso; omega
      · exact hh.2
    rw [beg_1 (by omega) (by rw [hask]; simp)] at hp; exact hp I ⟨h, Or.inr ⟨hw, rfl⟩⟩ Frf.rf))
end Rm4s
