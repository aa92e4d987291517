section Ctor6
variable {n mc ms : Nat} {M : Md} {pc : Nat} {lv : List (Nat × Value)} {st : List Value} {k j : Nat} {Post : PT} {S : Sh} {I : CI} {R : CR} {A : Nat → Int} {tx : Nat → Nat → Int}
def CsM (S : Sh) (R : CR) : Prop := (∀ e ∈ obL, 306 ≤ e.1 → OB S e.1 e.2) ∧ (∀ e ∈ arL, 306 ≤ e.1 → AR S e.1 e.2.1 e.2.2) ∧ (∀ e ∈ rfL, 306 ≤ e.1 → R e.1 e.2.1 = some e.2.2)
theorem cs_of {S2 : Sh} {R2 : CR} (hc : CsC S R) (hm : CsM S2 R2) (g : Gr S S2) (hr : ∀ x, x < 306 → R2 x = R x) (hl : 325 ≤ S2.1) : CS S2 R2 := by
  have hst : ∀ a, a < 300 → ST S R a → ST S2 R2 a := fun a ha h => ST.gr g (hr a (by omega)) h
  refine ⟨fun e he => ?_, fun e he => ?_, fun e he => ?_, fun i hi => ?_, fun i hi => ?_, hl⟩
  · by_cases h : e.1 < 306
    · exact g.ob (hc.1 e he h)
    · exact hm.1 e he (by omega)
  · by_cases h : e.1 < 306
    · exact g.ar (hc.2.1 e he h)
    · exact hm.2.1 e he (by omega)
  · by_cases h : e.1 < 306
    · rw [hr _ h]; exact hc.2.2.1 e he h
    · exact hm.2.2 e he (by omega)
  · rw [hr 10 (by omega)]
    exact ⟨(hc.2.2.2.1 i hi).1, hst _ (by omega) (hc.2.2.2.1 i hi).2⟩
  · rw [hr 149 (by omega)]
    exact ⟨(hc.2.2.2.2 i hi).1, hst _ (by omega) (hc.2.2.2.2 i hi).2⟩
/-- what a new object of the reference holds -/
def VzM (J : CI) : Prop := J 307 = A0 ∧ J 308 = A0 ∧ (∀ q, J 310 q = 0) ∧ (∀ q, J 323 q = 0) ∧ (∀ q, J 324 q = 0) ∧ J 306 4 = 0 ∧ J 306 5 = -1 ∧ J 306 6 = -1 ∧ J 306 23 = 1
theorem dX12_init_0 : decode prog_14_method_1_code 0 = .ok (.aload_n 0, 1) := by decide +kernel
theorem dX12_init_1 : decode prog_14_method_1_code 1 = .ok (.invokespecial 1, 3) := by decide +kernel
theorem dX12_init_4 : decode prog_14_method_1_code 4 = .ok (.aload_n 0, 1) := by decide +kernel
theorem dX12_init_5 : decode prog_14_method_1_code 5 = .ok (.sipush 2875, 3) := by decide +kernel
theorem dX12_init_8 : decode prog_14_method_1_code 8 = .ok (.newarray .int, 2) := by decide +kernel
theorem dX12_init_10 : decode prog_14_method_1_code 10 = .ok (.putfield 7, 3) := by decide +kernel
theorem dX12_init_13 : decode prog_14_method_1_code 13 = .ok (.aload_n 0, 1) := by decide +kernel
theorem dX12_init_14 : decode prog_14_method_1_code 14 = .ok (.sipush 2875, 3) := by decide +kernel
theorem dX12_init_17 : decode prog_14_method_1_code 17 = .ok (.newarray .int, 2) := by decide +kernel
theorem dX12_init_19 : decode prog_14_method_1_code 19 = .ok (.putfield 13, 3) := by decide +kernel
theorem dX12_init_22 : decode prog_14_method_1_code 22 = .ok (.aload_n 0, 1) := by decide +kernel
theorem dX12_init_23 : decode prog_14_method_1_code 23 = .ok (.sipush 2820, 3) := by decide +kernel
theorem dX12_init_26 : decode prog_14_method_1_code 26 = .ok (.newarray .int, 2) := by decide +kernel
theorem dX12_init_28 : decode prog_14_method_1_code 28 = .ok (.putfield 16, 3) := by decide +kernel
theorem dX12_init_31 : decode prog_14_method_1_code 31 = .ok (.aload_n 0, 1) := by decide +kernel
theorem dX12_init_32 : decode prog_14_method_1_code 32 = .ok (.sipush 300, 3) := by decide +kernel
theorem dX12_init_35 : decode prog_14_method_1_code 35 = .ok (.newarray .int, 2) := by decide +kernel
theorem dX12_init_37 : decode prog_14_method_1_code 37 = .ok (.putfield 19, 3) := by decide +kernel
theorem dX12_init_40 : decode prog_14_method_1_code 40 = .ok (.aload_n 0, 1) := by decide +kernel
theorem dX12_init_41 : decode prog_14_method_1_code 41 = .ok (.iconst (-1), 1) := by decide +kernel
theorem dX12_init_42 : decode prog_14_method_1_code 42 = .ok (.putfield 22, 3) := by decide +kernel
theorem dX12_init_45 : decode prog_14_method_1_code 45 = .ok (.aload_n 0, 1) := by decide +kernel
theorem dX12_init_46 : decode prog_14_method_1_code 46 = .ok (.iconst (-1), 1) := by decide +kernel
theorem dX12_init_47 : decode prog_14_method_1_code 47 = .ok (.putfield 26, 3) := by decide +kernel
theorem dX12_init_50 : decode prog_14_method_1_code 50 = .ok (.aload_n 0, 1) := by decide +kernel
theorem dX12_init_51 : decode prog_14_method_1_code 51 = .ok (.sipush 160, 3) := by decide +kernel
theorem dX12_init_54 : decode prog_14_method_1_code 54 = .ok (.newarray .int, 2) := by decide +kernel
theorem dX12_init_56 : decode prog_14_method_1_code 56 = .ok (.putfield 29, 3) := by decide +kernel
theorem dX12_init_59 : decode prog_14_method_1_code 59 = .ok (.aload_n 0, 1) := by decide +kernel
theorem dX12_init_60 : decode prog_14_method_1_code 60 = .ok (.bipush 8, 2) := by decide +kernel
theorem dX12_init_62 : decode prog_14_method_1_code 62 = .ok (.newarray .int, 2) := by decide +kernel
theorem dX12_init_64 : decode prog_14_method_1_code 64 = .ok (.putfield 32, 3) := by decide +kernel
theorem dX12_init_67 : decode prog_14_method_1_code 67 = .ok (.aload_n 0, 1) := by decide +kernel
theorem dX12_init_68 : decode prog_14_method_1_code 68 = .ok (.sipush 330, 3) := by decide +kernel
theorem dX12_init_71 : decode prog_14_method_1_code 71 = .ok (.newarray .long, 2) := by decide +kernel
theorem dX12_init_73 : decode prog_14_method_1_code 73 = .ok (.putfield 35, 3) := by decide +kernel
theorem dX12_init_76 : decode prog_14_method_1_code 76 = .ok (.aload_n 0, 1) := by decide +kernel
theorem dX12_init_77 : decode prog_14_method_1_code 77 = .ok (.sipush 330, 3) := by decide +kernel
theorem dX12_init_80 : decode prog_14_method_1_code 80 = .ok (.newarray .boolean, 2) := by decide +kernel
theorem dX12_init_82 : decode prog_14_method_1_code 82 = .ok (.putfield 39, 3) := by decide +kernel
theorem dX12_init_85 : decode prog_14_method_1_code 85 = .ok (.aload_n 0, 1) := by decide +kernel
theorem dX12_init_86 : decode prog_14_method_1_code 86 = .ok (.iconst 1, 1) := by decide +kernel
theorem dX12_init_87 : decode prog_14_method_1_code 87 = .ok (.putfield 43, 3) := by decide +kernel
theorem dX12_init_90 : decode prog_14_method_1_code 90 = .ok (.aload_n 0, 1) := by decide +kernel
theorem dX12_init_91 : decode prog_14_method_1_code 91 = .ok (.bipush 36, 2) := by decide +kernel
theorem dX12_init_93 : decode prog_14_method_1_code 93 = .ok (.newarray .int, 2) := by decide +kernel
theorem dX12_init_95 : decode prog_14_method_1_code 95 = .ok (.putfield 47, 3) := by decide +kernel
theorem dX12_init_98 : decode prog_14_method_1_code 98 = .ok (.aload_n 0, 1) := by decide +kernel
theorem dX12_init_99 : decode prog_14_method_1_code 99 = .ok (.bipush 6, 2) := by decide +kernel
theorem dX12_init_101 : decode prog_14_method_1_code 101 = .ok (.newarray .int, 2) := by decide +kernel
theorem dX12_init_103 : decode prog_14_method_1_code 103 = .ok (.putfield 50, 3) := by decide +kernel
theorem dX12_init_106 : decode prog_14_method_1_code 106 = .ok (.aload_n 0, 1) := by decide +kernel
theorem dX12_init_107 : decode prog_14_method_1_code 107 = .ok (.bipush 6, 2) := by decide +kernel
theorem dX12_init_109 : decode prog_14_method_1_code 109 = .ok (.newarray .int, 2) := by decide +kernel
theorem dX12_init_111 : decode prog_14_method_1_code 111 = .ok (.putfield 53, 3) := by decide +kernel
theorem dX12_init_114 : decode prog_14_method_1_code 114 = .ok (.aload_n 0, 1) := by decide +kernel
theorem dX12_init_115 : decode prog_14_method_1_code 115 = .ok (.iconst 5, 1) := by decide +kernel
theorem dX12_init_116 : decode prog_14_method_1_code 116 = .ok (.newarray .int, 2) := by decide +kernel
theorem dX12_init_118 : decode prog_14_method_1_code 118 = .ok (.putfield 56, 3) := by decide +kernel
theorem dX12_init_121 : decode prog_14_method_1_code 121 = .ok (.aload_n 0, 1) := by decide +kernel
theorem dX12_init_122 : decode prog_14_method_1_code 122 = .ok (.iconst 5, 1) := by decide +kernel
theorem dX12_init_123 : decode prog_14_method_1_code 123 = .ok (.newarray .int, 2) := by decide +kernel
theorem dX12_init_125 : decode prog_14_method_1_code 125 = .ok (.putfield 59, 3) := by decide +kernel
theorem dX12_init_128 : decode prog_14_method_1_code 128 = .ok (.aload_n 0, 1) := by decide +kernel
theorem dX12_init_129 : decode prog_14_method_1_code 129 = .ok (.bipush 6, 2) := by decide +kernel
theorem dX12_init_131 : decode prog_14_method_1_code 131 = .ok (.newarray .int, 2) := by decide +kernel
theorem dX12_init_133 : decode prog_14_method_1_code 133 = .ok (.putfield 62, 3) := by decide +kernel
theorem dX12_init_136 : decode prog_14_method_1_code 136 = .ok (.aload_n 0, 1) := by decide +kernel
theorem dX12_init_137 : decode prog_14_method_1_code 137 = .ok (.bipush 6, 2) := by decide +kernel
theorem dX12_init_139 : decode prog_14_method_1_code 139 = .ok (.newarray .int, 2) := by decide +kernel
theorem dX12_init_141 : decode prog_14_method_1_code 141 = .ok (.putfield 65, 3) := by decide +kernel
theorem dX12_init_144 : decode prog_14_method_1_code 144 = .ok (.aload_n 0, 1) := by decide +kernel
theorem dX12_init_145 : decode prog_14_method_1_code 145 = .ok (.bipush 48, 2) := by decide +kernel
theorem dX12_init_147 : decode prog_14_method_1_code 147 = .ok (.newarray .int, 2) := by decide +kernel
theorem dX12_init_149 : decode prog_14_method_1_code 149 = .ok (.putfield 68, 3) := by decide +kernel
theorem dX12_init_152 : decode prog_14_method_1_code 152 = .ok (.aload_n 0, 1) := by decide +kernel
theorem dX12_init_153 : decode prog_14_method_1_code 153 = .ok (.bipush 10, 2) := by decide +kernel
theorem dX12_init_155 : decode prog_14_method_1_code 155 = .ok (.newarray .int, 2) := by decide +kernel
theorem dX12_init_157 : decode prog_14_method_1_code 157 = .ok (.putfield 71, 3) := by decide +kernel
theorem dX12_init_160 : decode prog_14_method_1_code 160 = .ok (.aload_n 0, 1) := by decide +kernel
theorem dX12_init_161 : decode prog_14_method_1_code 161 = .ok (.bipush 10, 2) := by decide +kernel
theorem dX12_init_163 : decode prog_14_method_1_code 163 = .ok (.newarray .int, 2) := by decide +kernel
theorem dX12_init_165 : decode prog_14_method_1_code 165 = .ok (.putfield 74, 3) := by decide +kernel
theorem dX12_init_168 : decode prog_14_method_1_code 168 = .ok (.aload_n 0, 1) := by decide +kernel
theorem dX12_init_169 : decode prog_14_method_1_code 169 = .ok (.getfield 7, 3) := by decide +kernel
theorem dX12_init_172 : decode prog_14_method_1_code 172 = .ok (.bipush 8, 2) := by decide +kernel
theorem dX12_init_174 : decode prog_14_method_1_code 174 = .ok (.sipush 373, 3) := by decide +kernel
theorem dX12_init_177 : decode prog_14_method_1_code 177 = .ok (.iastore, 1) := by decide +kernel
theorem dX12_init_178 : decode prog_14_method_1_code 178 = .ok (.aload_n 0, 1) := by decide +kernel
theorem dX12_init_179 : decode prog_14_method_1_code 179 = .ok (.getfield 7, 3) := by decide +kernel
theorem dX12_init_182 : decode prog_14_method_1_code 182 = .ok (.iconst 2, 1) := by decide +kernel
theorem dX12_init_183 : decode prog_14_method_1_code 183 = .ok (.iconst (-1), 1) := by decide +kernel
theorem dX12_init_184 : decode prog_14_method_1_code 184 = .ok (.iastore, 1) := by decide +kernel
theorem dX12_init_185 : decode prog_14_method_1_code 185 = .ok (.iconst 0, 1) := by decide +kernel
theorem dX12_init_186 : decode prog_14_method_1_code 186 = .ok (.istore_n 1, 1) := by decide +kernel
theorem dX12_init_187 : decode prog_14_method_1_code 187 = .ok (.iload_n 1, 1) := by decide +kernel
theorem dX12_init_188 : decode prog_14_method_1_code 188 = .ok (.iconst 4, 1) := by decide +kernel
theorem dX12_init_189 : decode prog_14_method_1_code 189 = .ok (.if_icmp .ge 19, 3) := by decide +kernel
theorem dX12_init_192 : decode prog_14_method_1_code 192 = .ok (.aload_n 0, 1) := by decide +kernel
theorem dX12_init_193 : decode prog_14_method_1_code 193 = .ok (.getfield 7, 3) := by decide +kernel
theorem dX12_init_196 : decode prog_14_method_1_code 196 = .ok (.bipush 110, 2) := by decide +kernel
theorem dX12_init_198 : decode prog_14_method_1_code 198 = .ok (.iload_n 1, 1) := by decide +kernel
theorem dX12_init_199 : decode prog_14_method_1_code 199 = .ok (.iadd, 1) := by decide +kernel
theorem dX12_init_200 : decode prog_14_method_1_code 200 = .ok (.iconst (-1), 1) := by decide +kernel
theorem dX12_init_201 : decode prog_14_method_1_code 201 = .ok (.iastore, 1) := by decide +kernel
theorem dX12_init_202 : decode prog_14_method_1_code 202 = .ok (.iinc 1 1, 3) := by decide +kernel
theorem dX12_init_205 : decode prog_14_method_1_code 205 = .ok (.goto (-18), 3) := by decide +kernel
theorem dX12_init_208 : decode prog_14_method_1_code 208 = .ok (.aload_n 0, 1) := by decide +kernel
theorem dX12_init_209 : decode prog_14_method_1_code 209 = .ok (.getfield 7, 3) := by decide +kernel
theorem dX12_init_212 : decode prog_14_method_1_code 212 = .ok (.aload_n 0, 1) := by decide +kernel
theorem dX12_init_213 : decode prog_14_method_1_code 213 = .ok (.getfield 13, 3) := by decide +kernel
theorem dX12_init_216 : decode prog_14_method_1_code 216 = .ok (.invokestatic 77, 3) := by decide +kernel
theorem dX12_init_219 : decode prog_14_method_1_code 219 = .ok (.return_, 1) := by decide +kernel
theorem sp_X12_init (hn : 3 ≤ n) (hb : OB S 306 12) (hS : S.1 = 307) (hrb : RB S R) (hz : ∀ q, I 306 q = 0) (hp : ∀ (S2 : Sh) (J : CI) (R2 : CR), Gr S S2 → S2.1 = 325 → RB S2 R2 → (∀ x, x < 306 → J x = I x ∧ R2 x = R x) → CsM S2 R2 → VzM J → Post none S2 J R2) : Call n 18 9836 mX12_init [.ref (S.2.1 306)] S I R Post := by
  have l0 : S.1 = 307 := hS
  have ob0 := hb
  have rb0 := hrb
  refine Call.of (by decide +kernel) (Nat.le_of_ble_eq_true rfl) ?_
  show WP _ _ _ _ _ 0 [(0, _)] [] 0 0 _ _ _
  refine x_aload_n dX12_init_0 rfl ?_
  refine x_objInit dX12_init_1 oi_RX12_1 (by omega) (Nat.le_of_ble_eq_true rfl) ?_
  refine x_aload_n dX12_init_4 rfl ?_
  refine x_sipush dX12_init_5 (by decide) ?_
  refine x_naputi (N := 2875) dX12_init_8 dX12_init_10 gf_RX12_7 ob0 rfl (fun _ _ => rfl) (fun _ => rfl) (fun _ => rfl) rfl rfl rfl (by omega) rb0 (by omega) (by omega) (fun S1 J1 R1 gr1 lq1 rb1 fJ1 fR1 r1 ar1 z1 => ?_)
  have l1 : S1.1 = 308 := by omega
  have ob1 := Gr.ob gr1 ob0
  rw [← Gr.ad gr1 (a := 306) (by omega)]
  refine x_kj (k2 := 1) (j2 := 2875) rfl rfl ?_
  refine x_aload_n dX12_init_13 rfl ?_
  refine x_sipush dX12_init_14 (by decide) ?_
  refine x_naputi (N := 2875) dX12_init_17 dX12_init_19 gf_RX12_13 ob1 rfl (fun _ _ => rfl) (fun _ => rfl) (fun _ => rfl) rfl rfl rfl (by omega) rb1 (by omega) (by omega) (fun S2 J2 R2 gr2 lq2 rb2 fJ2 fR2 r2 ar2 z2 => ?_)
  have l2 : S2.1 = 309 := by omega
  have ob2 := Gr.ob gr2 ob1
  rw [← Gr.ad gr2 (a := 306) (by omega)]
  refine x_kj (k2 := 2) (j2 := 5750) rfl rfl ?_
  refine x_aload_n dX12_init_22 rfl ?_
  refine x_sipush dX12_init_23 (by decide) ?_
  refine x_naputi (N := 2820) dX12_init_26 dX12_init_28 gf_RX12_16 ob2 rfl (fun _ _ => rfl) (fun _ => rfl) (fun _ => rfl) rfl rfl rfl (by omega) rb2 (by omega) (by omega) (fun S3 J3 R3 gr3 lq3 rb3 fJ3 fR3 r3 ar3 z3 => ?_)
  have l3 : S3.1 = 310 := by omega
  have ob3 := Gr.ob gr3 ob2
  rw [← Gr.ad gr3 (a := 306) (by omega)]
  refine x_kj (k2 := 3) (j2 := 8570) rfl rfl ?_
  refine x_aload_n dX12_init_31 rfl ?_
  refine x_sipush dX12_init_32 (by decide) ?_
  refine x_naputi (N := 300) dX12_init_35 dX12_init_37 gf_RX12_19 ob3 rfl (fun _ _ => rfl) (fun _ => rfl) (fun _ => rfl) rfl rfl rfl (by omega) rb3 (by omega) (by omega) (fun S4 J4 R4 gr4 lq4 rb4 fJ4 fR4 r4 ar4 z4 => ?_)
  have l4 : S4.1 = 311 := by omega
  have ob4 := Gr.ob gr4 ob3
  rw [← Gr.ad gr4 (a := 306) (by omega)]
  refine x_kj (k2 := 4) (j2 := 8870) rfl rfl ?_
  refine x_aload_n dX12_init_40 rfl ?_
  refine x_iconst dX12_init_41 ?_
  refine x_putI dX12_init_42 gf_RX12_22 ob4 rfl ?_
  refine x_aload_n dX12_init_45 rfl ?_
  refine x_iconst dX12_init_46 ?_
  refine x_putI dX12_init_47 gf_RX12_26 ob4 rfl ?_
  refine x_aload_n dX12_init_50 rfl ?_
  refine x_sipush dX12_init_51 (by decide) ?_
  refine x_naputi (N := 160) dX12_init_54 dX12_init_56 gf_RX12_29 ob4 rfl (fun _ _ => rfl) (fun _ => rfl) (fun _ => rfl) rfl rfl rfl (by omega) rb4 (by omega) (by omega) (fun S5 J5 R5 gr5 lq5 rb5 fJ5 fR5 r5 ar5 z5 => ?_)
  have l5 : S5.1 = 312 := by omega
  have ob5 := Gr.ob gr5 ob4
  rw [← Gr.ad gr5 (a := 306) (by omega)]
  refine x_kj (k2 := 5) (j2 := 9030) rfl rfl ?_
  refine x_aload_n dX12_init_59 rfl ?_
  refine x_bipush dX12_init_60 (by decide) ?_
  refine x_naputi (N := 8) dX12_init_62 dX12_init_64 gf_RX12_32 ob5 rfl (fun _ _ => rfl) (fun _ => rfl) (fun _ => rfl) rfl rfl rfl (by omega) rb5 (by omega) (by omega) (fun S6 J6 R6 gr6 lq6 rb6 fJ6 fR6 r6 ar6 z6 => ?_)
  have l6 : S6.1 = 313 := by omega
  have ob6 := Gr.ob gr6 ob5
  rw [← Gr.ad gr6 (a := 306) (by omega)]
  refine x_kj (k2 := 6) (j2 := 9038) rfl rfl ?_
  refine x_aload_n dX12_init_67 rfl ?_
  refine x_sipush dX12_init_68 (by decide) ?_
  refine x_naputl (N := 330) dX12_init_71 dX12_init_73 gf_RX12_35 ob6 rfl (fun _ _ => rfl) (fun _ => rfl) (fun _ => rfl) rfl rfl rfl (by omega) rb6 (by omega) (by omega) (fun S7 J7 R7 gr7 lq7 rb7 fJ7 fR7 r7 ar7 z7 => ?_)
  have l7 : S7.1 = 314 := by omega
  have ob7 := Gr.ob gr7 ob6
  rw [← Gr.ad gr7 (a := 306) (by omega)]
  refine x_kj (k2 := 7) (j2 := 9368) rfl rfl ?_
  refine x_aload_n dX12_init_76 rfl ?_
  refine x_sipush dX12_init_77 (by decide) ?_
  refine x_naputz (N := 330) dX12_init_80 dX12_init_82 gf_RX12_39 ob7 rfl (fun _ _ => rfl) (fun _ => rfl) (fun _ => rfl) rfl rfl rfl (by omega) rb7 (by omega) (by omega) (fun S8 J8 R8 gr8 lq8 rb8 fJ8 fR8 r8 ar8 z8 => ?_)
  have l8 : S8.1 = 315 := by omega
  have ob8 := Gr.ob gr8 ob7
  rw [← Gr.ad gr8 (a := 306) (by omega)]
  refine x_kj (k2 := 8) (j2 := 9698) rfl rfl ?_
  refine x_aload_n dX12_init_85 rfl ?_
  refine x_iconst dX12_init_86 ?_
  refine x_putZ dX12_init_87 gf_RX12_43 ob8 rfl (by omega) ?_
  refine x_aload_n dX12_init_90 rfl ?_
  refine x_bipush dX12_init_91 (by decide) ?_
  refine x_naputi (N := 36) dX12_init_93 dX12_init_95 gf_RX12_47 ob8 rfl (fun _ _ => rfl) (fun _ => rfl) (fun _ => rfl) rfl rfl rfl (by omega) rb8 (by omega) (by omega) (fun S9 J9 R9 gr9 lq9 rb9 fJ9 fR9 r9 ar9 z9 => ?_)
  have l9 : S9.1 = 316 := by omega
  have ob9 := Gr.ob gr9 ob8
  rw [← Gr.ad gr9 (a := 306) (by omega)]
  refine x_kj (k2 := 9) (j2 := 9734) rfl rfl ?_
  refine x_aload_n dX12_init_98 rfl ?_
  refine x_bipush dX12_init_99 (by decide) ?_
  refine x_naputi (N := 6) dX12_init_101 dX12_init_103 gf_RX12_50 ob9 rfl (fun _ _ => rfl) (fun _ => rfl) (fun _ => rfl) rfl rfl rfl (by omega) rb9 (by omega) (by omega) (fun S10 J10 R10 gr10 lq10 rb10 fJ10 fR10 r10 ar10 z10 => ?_)
  have l10 : S10.1 = 317 := by omega
  have ob10 := Gr.ob gr10 ob9
  rw [← Gr.ad gr10 (a := 306) (by omega)]
  refine x_kj (k2 := 10) (j2 := 9740) rfl rfl ?_
  refine x_aload_n dX12_init_106 rfl ?_
  refine x_bipush dX12_init_107 (by decide) ?_
  refine x_naputi (N := 6) dX12_init_109 dX12_init_111 gf_RX12_53 ob10 rfl (fun _ _ => rfl) (fun _ => rfl) (fun _ => rfl) rfl rfl rfl (by omega) rb10 (by omega) (by omega) (fun S11 J11 R11 gr11 lq11 rb11 fJ11 fR11 r11 ar11 z11 => ?_)
  have l11 : S11.1 = 318 := by omega
  have ob11 := Gr.ob gr11 ob10
  rw [← Gr.ad gr11 (a := 306) (by omega)]
  refine x_kj (k2 := 11) (j2 := 9746) rfl rfl ?_
  refine x_aload_n dX12_init_114 rfl ?_
  refine x_iconst dX12_init_115 ?_
  refine x_naputi (N := 5) dX12_init_116 dX12_init_118 gf_RX12_56 ob11 rfl (fun _ _ => rfl) (fun _ => rfl) (fun _ => rfl) rfl rfl rfl (by omega) rb11 (by omega) (by omega) (fun S12 J12 R12 gr12 lq12 rb12 fJ12 fR12 r12 ar12 z12 => ?_)
  have l12 : S12.1 = 319 := by omega
  have ob12 := Gr.ob gr12 ob11
  rw [← Gr.ad gr12 (a := 306) (by omega)]
  refine x_kj (k2 := 12) (j2 := 9751) rfl rfl ?_
  refine x_aload_n dX12_init_121 rfl ?_
  refine x_iconst dX12_init_122 ?_
  refine x_naputi (N := 5) dX12_init_123 dX12_init_125 gf_RX12_59 ob12 rfl (fun _ _ => rfl) (fun _ => rfl) (fun _ => rfl) rfl rfl rfl (by omega) rb12 (by omega) (by omega) (fun S13 J13 R13 gr13 lq13 rb13 fJ13 fR13 r13 ar13 z13 => ?_)
  have l13 : S13.1 = 320 := by omega
  have ob13 := Gr.ob gr13 ob12
  rw [← Gr.ad gr13 (a := 306) (by omega)]
  refine x_kj (k2 := 13) (j2 := 9756) rfl rfl ?_
  refine x_aload_n dX12_init_128 rfl ?_
  refine x_bipush dX12_init_129 (by decide) ?_
  refine x_naputi (N := 6) dX12_init_131 dX12_init_133 gf_RX12_62 ob13 rfl (fun _ _ => rfl) (fun _ => rfl) (fun _ => rfl) rfl rfl rfl (by omega) rb13 (by omega) (by omega) (fun S14 J14 R14 gr14 lq14 rb14 fJ14 fR14 r14 ar14 z14 => ?_)
  have l14 : S14.1 = 321 := by omega
  have ob14 := Gr.ob gr14 ob13
  rw [← Gr.ad gr14 (a := 306) (by omega)]
  refine x_kj (k2 := 14) (j2 := 9762) rfl rfl ?_
  refine x_aload_n dX12_init_136 rfl ?_
  refine x_bipush dX12_init_137 (by decide) ?_
  refine x_naputi (N := 6) dX12_init_139 dX12_init_141 gf_RX12_65 ob14 rfl (fun _ _ => rfl) (fun _ => rfl) (fun _ => rfl) rfl rfl rfl (by omega) rb14 (by omega) (by omega) (fun S15 J15 R15 gr15 lq15 rb15 fJ15 fR15 r15 ar15 z15 => ?_)
  have l15 : S15.1 = 322 := by omega
  have ob15 := Gr.ob gr15 ob14
  rw [← Gr.ad gr15 (a := 306) (by omega)]
  refine x_kj (k2 := 15) (j2 := 9768) rfl rfl ?_
  refine x_aload_n dX12_init_144 rfl ?_
  refine x_bipush dX12_init_145 (by decide) ?_
  refine x_naputi (N := 48) dX12_init_147 dX12_init_149 gf_RX12_68 ob15 rfl (fun _ _ => rfl) (fun _ => rfl) (fun _ => rfl) rfl rfl rfl (by omega) rb15 (by omega) (by omega) (fun S16 J16 R16 gr16 lq16 rb16 fJ16 fR16 r16 ar16 z16 => ?_)
  have l16 : S16.1 = 323 := by omega
  have ob16 := Gr.ob gr16 ob15
  rw [← Gr.ad gr16 (a := 306) (by omega)]
  refine x_kj (k2 := 16) (j2 := 9816) rfl rfl ?_
  refine x_aload_n dX12_init_152 rfl ?_
  refine x_bipush dX12_init_153 (by decide) ?_
  refine x_naputi (N := 10) dX12_init_155 dX12_init_157 gf_RX12_71 ob16 rfl (fun _ _ => rfl) (fun _ => rfl) (fun _ => rfl) rfl rfl rfl (by omega) rb16 (by omega) (by omega) (fun S17 J17 R17 gr17 lq17 rb17 fJ17 fR17 r17 ar17 z17 => ?_)
  have l17 : S17.1 = 324 := by omega
  have ob17 := Gr.ob gr17 ob16
  rw [← Gr.ad gr17 (a := 306) (by omega)]
  refine x_kj (k2 := 17) (j2 := 9826) rfl rfl ?_
  refine x_aload_n dX12_init_160 rfl ?_
  refine x_bipush dX12_init_161 (by decide) ?_
  refine x_naputi (N := 10) dX12_init_163 dX12_init_165 gf_RX12_74 ob17 rfl (fun _ _ => rfl) (fun _ => rfl) (fun _ => rfl) rfl rfl rfl (by omega) rb17 (by omega) (by omega) (fun S18 J18 R18 gr18 lq18 rb18 fJ18 fR18 r18 ar18 z18 => ?_)
  have l18 : S18.1 = 325 := by omega
  have ob18 := Gr.ob gr18 ob17
  rw [← Gr.ad gr18 (a := 306) (by omega)]
  refine x_kj (k2 := 18) (j2 := 9836) rfl rfl ?_
  have a307 : AR S18 307 13 2875 := by have h9 := Gr.ar (Gr.tr gr2 (Gr.tr gr3 (Gr.tr gr4 (Gr.tr gr5 (Gr.tr gr6 (Gr.tr gr7 (Gr.tr gr8 (Gr.tr gr9 (Gr.tr gr10 (Gr.tr gr11 (Gr.tr gr12 (Gr.tr gr13 (Gr.tr gr14 (Gr.tr gr15 (Gr.tr gr16 (Gr.tr gr17 gr18)))))))))))))))) ar1; rw [l0] at h9; exact h9
  have a308 : AR S18 308 13 2875 := by have h9 := Gr.ar (Gr.tr gr3 (Gr.tr gr4 (Gr.tr gr5 (Gr.tr gr6 (Gr.tr gr7 (Gr.tr gr8 (Gr.tr gr9 (Gr.tr gr10 (Gr.tr gr11 (Gr.tr gr12 (Gr.tr gr13 (Gr.tr gr14 (Gr.tr gr15 (Gr.tr gr16 (Gr.tr gr17 gr18))))))))))))))) ar2; rw [l1] at h9; exact h9
  have h1r : R18 306 0 = some 307 := by rw [fR18 (306) (0) (by omega) (by omega), fR17 (306) (0) (by omega) (by omega), fR16 (306) (0) (by omega) (by omega), fR15 (306) (0) (by omega) (by omega), fR14 (306) (0) (by omega) (by omega), fR13 (306) (0) (by omega) (by omega), fR12 (306) (0) (by omega) (by omega), fR11 (306) (0) (by omega) (by omega), fR10 (306) (0) (by omega) (by omega), fR9 (306) (0) (by omega) (by omega), fR8 (306) (0) (by omega) (by omega), fR7 (306) (0) (by omega) (by omega), fR6 (306) (0) (by omega) (by omega), fR5 (306) (0) (by omega) (by omega), fR4 (306) (0) (by omega) (by omega), fR3 (306) (0) (by omega) (by omega), fR2 (306) (0) (by omega) (by omega), r1, l0]
  have h2r : R18 306 1 = some 308 := by rw [fR18 (306) (1) (by omega) (by omega), fR17 (306) (1) (by omega) (by omega), fR16 (306) (1) (by omega) (by omega), fR15 (306) (1) (by omega) (by omega), fR14 (306) (1) (by omega) (by omega), fR13 (306) (1) (by omega) (by omega), fR12 (306) (1) (by omega) (by omega), fR11 (306) (1) (by omega) (by omega), fR10 (306) (1) (by omega) (by omega), fR9 (306) (1) (by omega) (by omega), fR8 (306) (1) (by omega) (by omega), fR7 (306) (1) (by omega) (by omega), fR6 (306) (1) (by omega) (by omega), fR5 (306) (1) (by omega) (by omega), fR4 (306) (1) (by omega) (by omega), fR3 (306) (1) (by omega) (by omega), r2, l1]
  refine x_aload_n dX12_init_168 rfl ?_
  refine x_getR (b := 307) dX12_init_169 gf_RX12_7 ob18 (fun _ _ => rfl) h1r ?_
  refine x_bipush dX12_init_172 (by decide) ?_
  refine x_sipush dX12_init_174 (by decide) ?_
  refine x_iastore dX12_init_177 a307 (by omega) (by omega) ?_
  refine x_aload_n dX12_init_178 rfl ?_
  refine x_getR (b := 307) dX12_init_179 gf_RX12_7 ob18 (fun _ _ => rfl) h1r ?_
  refine x_iconst dX12_init_182 ?_
  refine x_iconst dX12_init_183 ?_
  refine x_iastore dX12_init_184 a307 (by omega) (by omega) ?_
  refine x_iconst dX12_init_185 ?_
  refine x_istore_n (lv2 := [(1, _), (0, _)]) dX12_init_186 (by decide) rfl ?_
  refine x_iload_n dX12_init_187 rfl ?_
  refine x_iconst dX12_init_188 ?_
  refine x_icmp_ge 208 dX12_init_189 (by decide) ⟨(by omega), (by omega)⟩ (fun w => by exfalso; omega) (fun w => ?_)
  refine x_aload_n dX12_init_192 rfl ?_
  refine x_getR (b := 307) dX12_init_193 gf_RX12_7 ob18 (fun _ _ => rfl) h1r ?_
  refine x_bipush dX12_init_196 (by decide) ?_
  refine x_iload_n dX12_init_198 rfl ?_
  refine x_iadd dX12_init_199 ?_
  refine x_iconst dX12_init_200 ?_
  refine x_iastore dX12_init_201 a307 (by omega) (by omega) ?_
  refine x_iinc (lv2 := [(1, _), (0, _)]) dX12_init_202 rfl (by decide) rfl ?_
  refine x_goto 187 dX12_init_205 (by decide) ?_
  refine x_iload_n dX12_init_187 rfl ?_
  refine x_iconst dX12_init_188 ?_
  refine x_icmp_ge 208 dX12_init_189 (by decide) ⟨(by omega), (by omega)⟩ (fun w => by exfalso; omega) (fun w => ?_)
  refine x_aload_n dX12_init_192 rfl ?_
  refine x_getR (b := 307) dX12_init_193 gf_RX12_7 ob18 (fun _ _ => rfl) h1r ?_
  refine x_bipush dX12_init_196 (by decide) ?_
  refine x_iload_n dX12_init_198 rfl ?_
  refine x_iadd dX12_init_199 ?_
  refine x_iconst dX12_init_200 ?_
  refine x_iastore dX12_init_201 a307 (by omega) (by omega) ?_
  refine x_iinc (lv2 := [(1, _), (0, _)]) dX12_init_202 rfl (by decide) rfl ?_
  refine x_goto 187 dX12_init_205 (by decide) ?_
  refine x_iload_n dX12_init_187 rfl ?_
  refine x_iconst dX12_init_188 ?_
  refine x_icmp_ge 208 dX12_init_189 (by decide) ⟨(by omega), (by omega)⟩ (fun w => by exfalso; omega) (fun w => ?_)
  refine x_aload_n dX12_init_192 rfl ?_
  refine x_getR (b := 307) dX12_init_193 gf_RX12_7 ob18 (fun _ _ => rfl) h1r ?_
  refine x_bipush dX12_init_196 (by decide) ?_
  refine x_iload_n dX12_init_198 rfl ?_
  refine x_iadd dX12_init_199 ?_
  refine x_iconst dX12_init_200 ?_
  refine x_iastore dX12_init_201 a307 (by omega) (by omega) ?_
  refine x_iinc (lv2 := [(1, _), (0, _)]) dX12_init_202 rfl (by decide) rfl ?_
  refine x_goto 187 dX12_init_205 (by decide) ?_
  refine x_iload_n dX12_init_187 rfl ?_
  refine x_iconst dX12_init_188 ?_
  refine x_icmp_ge 208 dX12_init_189 (by decide) ⟨(by omega), (by omega)⟩ (fun w => by exfalso; omega) (fun w => ?_)
  refine x_aload_n dX12_init_192 rfl ?_
  refine x_getR (b := 307) dX12_init_193 gf_RX12_7 ob18 (fun _ _ => rfl) h1r ?_
  refine x_bipush dX12_init_196 (by decide) ?_
  refine x_iload_n dX12_init_198 rfl ?_
  refine x_iadd dX12_init_199 ?_
  refine x_iconst dX12_init_200 ?_
  refine x_iastore dX12_init_201 a307 (by omega) (by omega) ?_
  refine x_iinc (lv2 := [(1, _), (0, _)]) dX12_init_202 rfl (by decide) rfl ?_
  refine x_goto 187 dX12_init_205 (by decide) ?_
  refine x_iload_n dX12_init_187 rfl ?_
  refine x_iconst dX12_init_188 ?_
  refine x_icmp_ge 208 dX12_init_189 (by decide) ⟨(by omega), (by omega)⟩ (fun w => ?_) (fun w => by exfalso; omega)
  refine x_aload_n dX12_init_208 rfl ?_
  refine x_getR (b := 307) dX12_init_209 gf_RX12_7 ob18 (fun _ _ => rfl) h1r ?_
  refine x_aload_n dX12_init_212 rfl ?_
  refine x_getR (b := 308) dX12_init_213 gf_RX12_13 ob18 (fun _ _ => rfl) h2r ?_
  refine x_callS2 (mc1 := 0) (ms1 := 0) dX12_init_216 cv_RX12_77 (Nat.le_of_ble_eq_true rfl) (n1 := n - 1) (by omega) (by omega) (by omega) ?_
  refine sp_X12_copy a307 a308 (by omega) (fun J e308 fj => ?_)
  refine x_return dX12_init_219 rfl (by omega) (by omega) ?_
  have y307 : ∀ q, J18 307 q = 0 := fun q => by rw [fJ18 (307) (by omega), fJ17 (307) (by omega), fJ16 (307) (by omega), fJ15 (307) (by omega), fJ14 (307) (by omega), fJ13 (307) (by omega), fJ12 (307) (by omega), fJ11 (307) (by omega), fJ10 (307) (by omega), fJ9 (307) (by omega), uI_row (by omega), fJ8 (307) (by omega), fJ7 (307) (by omega), fJ6 (307) (by omega), fJ5 (307) (by omega), uI_row (by omega), uI_row (by omega), fJ4 (307) (by omega), fJ3 (307) (by omega), fJ2 (307) (by omega), ← l0]; exact z1 q
  have y308 : ∀ q, J18 308 q = 0 := fun q => by rw [fJ18 (308) (by omega), fJ17 (308) (by omega), fJ16 (308) (by omega), fJ15 (308) (by omega), fJ14 (308) (by omega), fJ13 (308) (by omega), fJ12 (308) (by omega), fJ11 (308) (by omega), fJ10 (308) (by omega), fJ9 (308) (by omega), uI_row (by omega), fJ8 (308) (by omega), fJ7 (308) (by omega), fJ6 (308) (by omega), fJ5 (308) (by omega), uI_row (by omega), uI_row (by omega), fJ4 (308) (by omega), fJ3 (308) (by omega), ← l1]; exact z2 q
  have e307 : J 307 = A0 := by
    rw [fj 307 (by omega)]
    funext q
    by_cases q3 : q = 113
    · subst q3; rw [uI_x rfl (by omega)]; rfl
    by_cases q2 : q = 112
    · subst q2; rw [uI_o (by omega), uI_x rfl (by omega)]; rfl
    by_cases q1 : q = 111
    · subst q1; rw [uI_o (by omega), uI_o (by omega), uI_x rfl (by omega)]; rfl
    by_cases q0 : q = 110
    · subst q0; rw [uI_o (by omega), uI_o (by omega), uI_o (by omega), uI_x rfl (by omega)]; rfl
    by_cases qt : q = 2
    · subst qt; rw [uI_o (by omega), uI_o (by omega), uI_o (by omega), uI_o (by omega), uI_x rfl (by omega)]; rfl
    by_cases qe : q = 8
    · subst qe; rw [uI_o (by omega), uI_o (by omega), uI_o (by omega), uI_o (by omega), uI_o (by omega), uI_x rfl (by omega)]; rfl
    · rw [uI_o (by omega), uI_o (by omega), uI_o (by omega), uI_o (by omega), uI_o (by omega), uI_o (by omega), y307 q, A0_z (by omega)]
  have f307 := fj 307 (by omega)
  rw [e307] at f307
  have e308' : J 308 = A0 := by
    rw [e308, ← f307]
    funext q
    unfold cpA
    by_cases hq : q < 2875
    · rw [if_pos hq]
    · rw [if_neg hq, uI_row (by omega), uI_row (by omega), uI_row (by omega), uI_row (by omega), uI_row (by omega), uI_row (by omega), y308 q, A0_z (by omega)]
  have fo : ∀ x, x ≠ 307 → x ≠ 308 → J x = J18 x := fun x h1 h2 => by rw [fj x h2, uI_row h1, uI_row h1, uI_row h1, uI_row h1, uI_row h1, uI_row h1]
  have k307 : AR S18 307 13 2875 := by have h9 := Gr.ar (Gr.tr gr2 (Gr.tr gr3 (Gr.tr gr4 (Gr.tr gr5 (Gr.tr gr6 (Gr.tr gr7 (Gr.tr gr8 (Gr.tr gr9 (Gr.tr gr10 (Gr.tr gr11 (Gr.tr gr12 (Gr.tr gr13 (Gr.tr gr14 (Gr.tr gr15 (Gr.tr gr16 (Gr.tr gr17 gr18)))))))))))))))) ar1; rw [l0] at h9; exact h9
  have t307 : R18 306 0 = some 307 := by rw [fR18 (306) (0) (by omega) (by omega), fR17 (306) (0) (by omega) (by omega), fR16 (306) (0) (by omega) (by omega), fR15 (306) (0) (by omega) (by omega), fR14 (306) (0) (by omega) (by omega), fR13 (306) (0) (by omega) (by omega), fR12 (306) (0) (by omega) (by omega), fR11 (306) (0) (by omega) (by omega), fR10 (306) (0) (by omega) (by omega), fR9 (306) (0) (by omega) (by omega), fR8 (306) (0) (by omega) (by omega), fR7 (306) (0) (by omega) (by omega), fR6 (306) (0) (by omega) (by omega), fR5 (306) (0) (by omega) (by omega), fR4 (306) (0) (by omega) (by omega), fR3 (306) (0) (by omega) (by omega), fR2 (306) (0) (by omega) (by omega), r1, l0]
  have k308 : AR S18 308 13 2875 := by have h9 := Gr.ar (Gr.tr gr3 (Gr.tr gr4 (Gr.tr gr5 (Gr.tr gr6 (Gr.tr gr7 (Gr.tr gr8 (Gr.tr gr9 (Gr.tr gr10 (Gr.tr gr11 (Gr.tr gr12 (Gr.tr gr13 (Gr.tr gr14 (Gr.tr gr15 (Gr.tr gr16 (Gr.tr gr17 gr18))))))))))))))) ar2; rw [l1] at h9; exact h9
  have t308 : R18 306 1 = some 308 := by rw [fR18 (306) (1) (by omega) (by omega), fR17 (306) (1) (by omega) (by omega), fR16 (306) (1) (by omega) (by omega), fR15 (306) (1) (by omega) (by omega), fR14 (306) (1) (by omega) (by omega), fR13 (306) (1) (by omega) (by omega), fR12 (306) (1) (by omega) (by omega), fR11 (306) (1) (by omega) (by omega), fR10 (306) (1) (by omega) (by omega), fR9 (306) (1) (by omega) (by omega), fR8 (306) (1) (by omega) (by omega), fR7 (306) (1) (by omega) (by omega), fR6 (306) (1) (by omega) (by omega), fR5 (306) (1) (by omega) (by omega), fR4 (306) (1) (by omega) (by omega), fR3 (306) (1) (by omega) (by omega), r2, l1]
  have k309 : AR S18 309 13 2820 := by have h9 := Gr.ar (Gr.tr gr4 (Gr.tr gr5 (Gr.tr gr6 (Gr.tr gr7 (Gr.tr gr8 (Gr.tr gr9 (Gr.tr gr10 (Gr.tr gr11 (Gr.tr gr12 (Gr.tr gr13 (Gr.tr gr14 (Gr.tr gr15 (Gr.tr gr16 (Gr.tr gr17 gr18)))))))))))))) ar3; rw [l2] at h9; exact h9
  have t309 : R18 306 2 = some 309 := by rw [fR18 (306) (2) (by omega) (by omega), fR17 (306) (2) (by omega) (by omega), fR16 (306) (2) (by omega) (by omega), fR15 (306) (2) (by omega) (by omega), fR14 (306) (2) (by omega) (by omega), fR13 (306) (2) (by omega) (by omega), fR12 (306) (2) (by omega) (by omega), fR11 (306) (2) (by omega) (by omega), fR10 (306) (2) (by omega) (by omega), fR9 (306) (2) (by omega) (by omega), fR8 (306) (2) (by omega) (by omega), fR7 (306) (2) (by omega) (by omega), fR6 (306) (2) (by omega) (by omega), fR5 (306) (2) (by omega) (by omega), fR4 (306) (2) (by omega) (by omega), r3, l2]
  have k310 : AR S18 310 13 300 := by have h9 := Gr.ar (Gr.tr gr5 (Gr.tr gr6 (Gr.tr gr7 (Gr.tr gr8 (Gr.tr gr9 (Gr.tr gr10 (Gr.tr gr11 (Gr.tr gr12 (Gr.tr gr13 (Gr.tr gr14 (Gr.tr gr15 (Gr.tr gr16 (Gr.tr gr17 gr18))))))))))))) ar4; rw [l3] at h9; exact h9
  have t310 : R18 306 3 = some 310 := by rw [fR18 (306) (3) (by omega) (by omega), fR17 (306) (3) (by omega) (by omega), fR16 (306) (3) (by omega) (by omega), fR15 (306) (3) (by omega) (by omega), fR14 (306) (3) (by omega) (by omega), fR13 (306) (3) (by omega) (by omega), fR12 (306) (3) (by omega) (by omega), fR11 (306) (3) (by omega) (by omega), fR10 (306) (3) (by omega) (by omega), fR9 (306) (3) (by omega) (by omega), fR8 (306) (3) (by omega) (by omega), fR7 (306) (3) (by omega) (by omega), fR6 (306) (3) (by omega) (by omega), fR5 (306) (3) (by omega) (by omega), r4, l3]
  have k311 : AR S18 311 13 160 := by have h9 := Gr.ar (Gr.tr gr6 (Gr.tr gr7 (Gr.tr gr8 (Gr.tr gr9 (Gr.tr gr10 (Gr.tr gr11 (Gr.tr gr12 (Gr.tr gr13 (Gr.tr gr14 (Gr.tr gr15 (Gr.tr gr16 (Gr.tr gr17 gr18)))))))))))) ar5; rw [l4] at h9; exact h9
  have t311 : R18 306 15 = some 311 := by rw [fR18 (306) (15) (by omega) (by omega), fR17 (306) (15) (by omega) (by omega), fR16 (306) (15) (by omega) (by omega), fR15 (306) (15) (by omega) (by omega), fR14 (306) (15) (by omega) (by omega), fR13 (306) (15) (by omega) (by omega), fR12 (306) (15) (by omega) (by omega), fR11 (306) (15) (by omega) (by omega), fR10 (306) (15) (by omega) (by omega), fR9 (306) (15) (by omega) (by omega), fR8 (306) (15) (by omega) (by omega), fR7 (306) (15) (by omega) (by omega), fR6 (306) (15) (by omega) (by omega), r5, l4]
  have k312 : AR S18 312 13 8 := by have h9 := Gr.ar (Gr.tr gr7 (Gr.tr gr8 (Gr.tr gr9 (Gr.tr gr10 (Gr.tr gr11 (Gr.tr gr12 (Gr.tr gr13 (Gr.tr gr14 (Gr.tr gr15 (Gr.tr gr16 (Gr.tr gr17 gr18))))))))))) ar6; rw [l5] at h9; exact h9
  have t312 : R18 306 20 = some 312 := by rw [fR18 (306) (20) (by omega) (by omega), fR17 (306) (20) (by omega) (by omega), fR16 (306) (20) (by omega) (by omega), fR15 (306) (20) (by omega) (by omega), fR14 (306) (20) (by omega) (by omega), fR13 (306) (20) (by omega) (by omega), fR12 (306) (20) (by omega) (by omega), fR11 (306) (20) (by omega) (by omega), fR10 (306) (20) (by omega) (by omega), fR9 (306) (20) (by omega) (by omega), fR8 (306) (20) (by omega) (by omega), fR7 (306) (20) (by omega) (by omega), r6, l5]
  have k313 : AR S18 313 14 330 := by have h9 := Gr.ar (Gr.tr gr8 (Gr.tr gr9 (Gr.tr gr10 (Gr.tr gr11 (Gr.tr gr12 (Gr.tr gr13 (Gr.tr gr14 (Gr.tr gr15 (Gr.tr gr16 (Gr.tr gr17 gr18)))))))))) ar7; rw [l6] at h9; exact h9
  have t313 : R18 306 21 = some 313 := by rw [fR18 (306) (21) (by omega) (by omega), fR17 (306) (21) (by omega) (by omega), fR16 (306) (21) (by omega) (by omega), fR15 (306) (21) (by omega) (by omega), fR14 (306) (21) (by omega) (by omega), fR13 (306) (21) (by omega) (by omega), fR12 (306) (21) (by omega) (by omega), fR11 (306) (21) (by omega) (by omega), fR10 (306) (21) (by omega) (by omega), fR9 (306) (21) (by omega) (by omega), fR8 (306) (21) (by omega) (by omega), r7, l6]
  have k314 : AR S18 314 15 330 := by have h9 := Gr.ar (Gr.tr gr9 (Gr.tr gr10 (Gr.tr gr11 (Gr.tr gr12 (Gr.tr gr13 (Gr.tr gr14 (Gr.tr gr15 (Gr.tr gr16 (Gr.tr gr17 gr18))))))))) ar8; rw [l7] at h9; exact h9
  have t314 : R18 306 22 = some 314 := by rw [fR18 (306) (22) (by omega) (by omega), fR17 (306) (22) (by omega) (by omega), fR16 (306) (22) (by omega) (by omega), fR15 (306) (22) (by omega) (by omega), fR14 (306) (22) (by omega) (by omega), fR13 (306) (22) (by omega) (by omega), fR12 (306) (22) (by omega) (by omega), fR11 (306) (22) (by omega) (by omega), fR10 (306) (22) (by omega) (by omega), fR9 (306) (22) (by omega) (by omega), r8, l7]
  have k315 : AR S18 315 13 36 := by have h9 := Gr.ar (Gr.tr gr10 (Gr.tr gr11 (Gr.tr gr12 (Gr.tr gr13 (Gr.tr gr14 (Gr.tr gr15 (Gr.tr gr16 (Gr.tr gr17 gr18)))))))) ar9; rw [l8] at h9; exact h9
  have t315 : R18 306 25 = some 315 := by rw [fR18 (306) (25) (by omega) (by omega), fR17 (306) (25) (by omega) (by omega), fR16 (306) (25) (by omega) (by omega), fR15 (306) (25) (by omega) (by omega), fR14 (306) (25) (by omega) (by omega), fR13 (306) (25) (by omega) (by omega), fR12 (306) (25) (by omega) (by omega), fR11 (306) (25) (by omega) (by omega), fR10 (306) (25) (by omega) (by omega), r9, l8]
  have k316 : AR S18 316 13 6 := by have h9 := Gr.ar (Gr.tr gr11 (Gr.tr gr12 (Gr.tr gr13 (Gr.tr gr14 (Gr.tr gr15 (Gr.tr gr16 (Gr.tr gr17 gr18))))))) ar10; rw [l9] at h9; exact h9
  have t316 : R18 306 26 = some 316 := by rw [fR18 (306) (26) (by omega) (by omega), fR17 (306) (26) (by omega) (by omega), fR16 (306) (26) (by omega) (by omega), fR15 (306) (26) (by omega) (by omega), fR14 (306) (26) (by omega) (by omega), fR13 (306) (26) (by omega) (by omega), fR12 (306) (26) (by omega) (by omega), fR11 (306) (26) (by omega) (by omega), r10, l9]
  have k317 : AR S18 317 13 6 := by have h9 := Gr.ar (Gr.tr gr12 (Gr.tr gr13 (Gr.tr gr14 (Gr.tr gr15 (Gr.tr gr16 (Gr.tr gr17 gr18)))))) ar11; rw [l10] at h9; exact h9
  have t317 : R18 306 27 = some 317 := by rw [fR18 (306) (27) (by omega) (by omega), fR17 (306) (27) (by omega) (by omega), fR16 (306) (27) (by omega) (by omega), fR15 (306) (27) (by omega) (by omega), fR14 (306) (27) (by omega) (by omega), fR13 (306) (27) (by omega) (by omega), fR12 (306) (27) (by omega) (by omega), r11, l10]
  have k318 : AR S18 318 13 5 := by have h9 := Gr.ar (Gr.tr gr13 (Gr.tr gr14 (Gr.tr gr15 (Gr.tr gr16 (Gr.tr gr17 gr18))))) ar12; rw [l11] at h9; exact h9
  have t318 : R18 306 28 = some 318 := by rw [fR18 (306) (28) (by omega) (by omega), fR17 (306) (28) (by omega) (by omega), fR16 (306) (28) (by omega) (by omega), fR15 (306) (28) (by omega) (by omega), fR14 (306) (28) (by omega) (by omega), fR13 (306) (28) (by omega) (by omega), r12, l11]
  have k319 : AR S18 319 13 5 := by have h9 := Gr.ar (Gr.tr gr14 (Gr.tr gr15 (Gr.tr gr16 (Gr.tr gr17 gr18)))) ar13; rw [l12] at h9; exact h9
  have t319 : R18 306 29 = some 319 := by rw [fR18 (306) (29) (by omega) (by omega), fR17 (306) (29) (by omega) (by omega), fR16 (306) (29) (by omega) (by omega), fR15 (306) (29) (by omega) (by omega), fR14 (306) (29) (by omega) (by omega), r13, l12]
  have k320 : AR S18 320 13 6 := by have h9 := Gr.ar (Gr.tr gr15 (Gr.tr gr16 (Gr.tr gr17 gr18))) ar14; rw [l13] at h9; exact h9
  have t320 : R18 306 33 = some 320 := by rw [fR18 (306) (33) (by omega) (by omega), fR17 (306) (33) (by omega) (by omega), fR16 (306) (33) (by omega) (by omega), fR15 (306) (33) (by omega) (by omega), r14, l13]
  have k321 : AR S18 321 13 6 := by have h9 := Gr.ar (Gr.tr gr16 (Gr.tr gr17 gr18)) ar15; rw [l14] at h9; exact h9
  have t321 : R18 306 34 = some 321 := by rw [fR18 (306) (34) (by omega) (by omega), fR17 (306) (34) (by omega) (by omega), fR16 (306) (34) (by omega) (by omega), r15, l14]
  have k322 : AR S18 322 13 48 := by have h9 := Gr.ar (Gr.tr gr17 gr18) ar16; rw [l15] at h9; exact h9
  have t322 : R18 306 35 = some 322 := by rw [fR18 (306) (35) (by omega) (by omega), fR17 (306) (35) (by omega) (by omega), r16, l15]
  have k323 : AR S18 323 13 10 := by have h9 := Gr.ar gr18 ar17; rw [l16] at h9; exact h9
  have t323 : R18 306 37 = some 323 := by rw [fR18 (306) (37) (by omega) (by omega), r17, l16]
  have k324 : AR S18 324 13 10 := by have h9 := ar18; rw [l17] at h9; exact h9
  have t324 : R18 306 38 = some 324 := by rw [r18, l17]
  refine hp S18 J R18 (Gr.tr gr1 (Gr.tr gr2 (Gr.tr gr3 (Gr.tr gr4 (Gr.tr gr5 (Gr.tr gr6 (Gr.tr gr7 (Gr.tr gr8 (Gr.tr gr9 (Gr.tr gr10 (Gr.tr gr11 (Gr.tr gr12 (Gr.tr gr13 (Gr.tr gr14 (Gr.tr gr15 (Gr.tr gr16 (Gr.tr gr17 gr18))))))))))))))))) l18 rb18 (fun x hx => ⟨?_, ?_⟩) ⟨(List.forall_mem_cons.mpr ⟨(fun h9 => absurd h9 (by decide)), (List.forall_mem_cons.mpr ⟨(fun h9 => absurd h9 (by decide)), (List.forall_mem_cons.mpr ⟨(fun h9 => absurd h9 (by decide)), (List.forall_mem_cons.mpr ⟨(fun h9 => absurd h9 (by decide)), (List.forall_mem_cons.mpr ⟨(fun h9 => absurd h9 (by decide)), (List.forall_mem_cons.mpr ⟨(fun h9 => absurd h9 (by decide)), (List.forall_mem_cons.mpr ⟨(fun h9 => absurd h9 (by decide)), (List.forall_mem_cons.mpr ⟨(fun h9 => absurd h9 (by decide)), (List.forall_mem_cons.mpr ⟨(fun h9 => absurd h9 (by decide)), (List.forall_mem_cons.mpr ⟨(fun h9 => absurd h9 (by decide)), (List.forall_mem_cons.mpr ⟨(fun h9 => absurd h9 (by decide)), (List.forall_mem_cons.mpr ⟨(fun h9 => absurd h9 (by decide)), (List.forall_mem_cons.mpr ⟨(fun h9 => absurd h9 (by decide)), (List.forall_mem_cons.mpr ⟨(fun h9 => absurd h9 (by decide)), (List.forall_mem_cons.mpr ⟨(fun h9 => absurd h9 (by decide)), (List.forall_mem_cons.mpr ⟨(fun _ => ob18), (fun e he => by cases he)⟩)⟩)⟩)⟩)⟩)⟩)⟩)⟩)⟩)⟩)⟩)⟩)⟩)⟩)⟩)⟩), (List.forall_mem_cons.mpr ⟨(fun h9 => absurd h9 (by decide)), (List.forall_mem_cons.mpr ⟨(fun h9 => absurd h9 (by decide)), (List.forall_mem_cons.mpr ⟨(fun h9 => absurd h9 (by decide)), (List.forall_mem_cons.mpr ⟨(fun h9 => absurd h9 (by decide)), (List.forall_mem_cons.mpr ⟨(fun h9 => absurd h9 (by decide)), (List.forall_mem_cons.mpr ⟨(fun h9 => absurd h9 (by decide)), (List.forall_mem_cons.mpr ⟨(fun h9 => absurd h9 (by decide)), (List.forall_mem_cons.mpr ⟨(fun h9 => absurd h9 (by decide)), (List.forall_mem_cons.mpr ⟨(fun h9 => absurd h9 (by decide)), (List.forall_mem_cons.mpr ⟨(fun h9 => absurd h9 (by decide)), (List.forall_mem_cons.mpr ⟨(fun h9 => absurd h9 (by decide)), (List.forall_mem_cons.mpr ⟨(fun h9 => absurd h9 (by decide)), (List.forall_mem_cons.mpr ⟨(fun h9 => absurd h9 (by decide)), (List.forall_mem_cons.mpr ⟨(fun h9 => absurd h9 (by decide)), (List.forall_mem_cons.mpr ⟨(fun h9 => absurd h9 (by decide)), (List.forall_mem_cons.mpr ⟨(fun h9 => absurd h9 (by decide)), (List.forall_mem_cons.mpr ⟨(fun h9 => absurd h9 (by decide)), (List.forall_mem_cons.mpr ⟨(fun h9 => absurd h9 (by decide)), (List.forall_mem_cons.mpr ⟨(fun h9 => absurd h9 (by decide)), (List.forall_mem_cons.mpr ⟨(fun h9 => absurd h9 (by decide)), (List.forall_mem_cons.mpr ⟨(fun h9 => absurd h9 (by decide)), (List.forall_mem_cons.mpr ⟨(fun h9 => absurd h9 (by decide)), (List.forall_mem_cons.mpr ⟨(fun h9 => absurd h9 (by decide)), (List.forall_mem_cons.mpr ⟨(fun h9 => absurd h9 (by decide)), (List.forall_mem_cons.mpr ⟨(fun h9 => absurd h9 (by decide)), (List.forall_mem_cons.mpr ⟨(fun h9 => absurd h9 (by decide)), (List.forall_mem_cons.mpr ⟨(fun h9 => absurd h9 (by decide)), (List.forall_mem_cons.mpr ⟨(fun h9 => absurd h9 (by decide)), (List.forall_mem_cons.mpr ⟨(fun h9 => absurd h9 (by decide)), (List.forall_mem_cons.mpr ⟨(fun h9 => absurd h9 (by decide)), (List.forall_mem_cons.mpr ⟨(fun h9 => absurd h9 (by decide)), (List.forall_mem_cons.mpr ⟨(fun h9 => absurd h9 (by decide)), (List.forall_mem_cons.mpr ⟨(fun h9 => absurd h9 (by decide)), (List.forall_mem_cons.mpr ⟨(fun h9 => absurd h9 (by decide)), (List.forall_mem_cons.mpr ⟨(fun h9 => absurd h9 (by decide)), (List.forall_mem_cons.mpr ⟨(fun h9 => absurd h9 (by decide)), (List.forall_mem_cons.mpr ⟨(fun h9 => absurd h9 (by decide)), (List.forall_mem_cons.mpr ⟨(fun h9 => absurd h9 (by decide)), (List.forall_mem_cons.mpr ⟨(fun h9 => absurd h9 (by decide)), (List.forall_mem_cons.mpr ⟨(fun h9 => absurd h9 (by decide)), (List.forall_mem_cons.mpr ⟨(fun h9 => absurd h9 (by decide)), (List.forall_mem_cons.mpr ⟨(fun h9 => absurd h9 (by decide)), (List.forall_mem_cons.mpr ⟨(fun h9 => absurd h9 (by decide)), (List.forall_mem_cons.mpr ⟨(fun h9 => absurd h9 (by decide)), (List.forall_mem_cons.mpr ⟨(fun h9 => absurd h9 (by decide)), (List.forall_mem_cons.mpr ⟨(fun h9 => absurd h9 (by decide)), (List.forall_mem_cons.mpr ⟨(fun h9 => absurd h9 (by decide)), (List.forall_mem_cons.mpr ⟨(fun h9 => absurd h9 (by decide)), (List.forall_mem_cons.mpr ⟨(fun h9 => absurd h9 (by decide)), (List.forall_mem_cons.mpr ⟨(fun h9 => absurd h9 (by decide)), (List.forall_mem_cons.mpr ⟨(fun h9 => absurd h9 (by decide)), (List.forall_mem_cons.mpr ⟨(fun _ => k307), (List.forall_mem_cons.mpr ⟨(fun _ => k308), (List.forall_mem_cons.mpr ⟨(fun _ => k309), (List.forall_mem_cons.mpr ⟨(fun _ => k310), (List.forall_mem_cons.mpr ⟨(fun _ => k311), (List.forall_mem_cons.mpr ⟨(fun _ => k312), (List.forall_mem_cons.mpr ⟨(fun _ => k313), (List.forall_mem_cons.mpr ⟨(fun _ => k314), (List.forall_mem_cons.mpr ⟨(fun _ => k315), (List.forall_mem_cons.mpr ⟨(fun _ => k316), (List.forall_mem_cons.mpr ⟨(fun _ => k317), (List.forall_mem_cons.mpr ⟨(fun _ => k318), (List.forall_mem_cons.mpr ⟨(fun _ => k319), (List.forall_mem_cons.mpr ⟨(fun _ => k320), (List.forall_mem_cons.mpr ⟨(fun _ => k321), (List.forall_mem_cons.mpr ⟨(fun _ => k322), (List.forall_mem_cons.mpr ⟨(fun _ => k323), (List.forall_mem_cons.mpr ⟨(fun _ => k324), (fun e he => by cases he)⟩)⟩)⟩)⟩)⟩)⟩)⟩)⟩)⟩)⟩)⟩)⟩)⟩)⟩)⟩)⟩)⟩)⟩)⟩)⟩)⟩)⟩)⟩)⟩)⟩)⟩)⟩)⟩)⟩)⟩)⟩)⟩)⟩)⟩)⟩)⟩)⟩)⟩)⟩)⟩)⟩)⟩)⟩)⟩)⟩)⟩)⟩)⟩)⟩)⟩)⟩)⟩)⟩)⟩)⟩)⟩)⟩)⟩)⟩)⟩)⟩)⟩)⟩)⟩)⟩)⟩)⟩)⟩)⟩), (List.forall_mem_cons.mpr ⟨(fun h9 => absurd h9 (by decide)), (List.forall_mem_cons.mpr ⟨(fun h9 => absurd h9 (by decide)), (List.forall_mem_cons.mpr ⟨(fun h9 => absurd h9 (by decide)), (List.forall_mem_cons.mpr ⟨(fun h9 => absurd h9 (by decide)), (List.forall_mem_cons.mpr ⟨(fun h9 => absurd h9 (by decide)), (List.forall_mem_cons.mpr ⟨(fun h9 => absurd h9 (by decide)), (List.forall_mem_cons.mpr ⟨(fun h9 => absurd h9 (by decide)), (List.forall_mem_cons.mpr ⟨(fun h9 => absurd h9 (by decide)), (List.forall_mem_cons.mpr ⟨(fun h9 => absurd h9 (by decide)), (List.forall_mem_cons.mpr ⟨(fun h9 => absurd h9 (by decide)), (List.forall_mem_cons.mpr ⟨(fun h9 => absurd h9 (by decide)), (List.forall_mem_cons.mpr ⟨(fun h9 => absurd h9 (by decide)), (List.forall_mem_cons.mpr ⟨(fun h9 => absurd h9 (by decide)), (List.forall_mem_cons.mpr ⟨(fun h9 => absurd h9 (by decide)), (List.forall_mem_cons.mpr ⟨(fun h9 => absurd h9 (by decide)), (List.forall_mem_cons.mpr ⟨(fun h9 => absurd h9 (by decide)), (List.forall_mem_cons.mpr ⟨(fun h9 => absurd h9 (by decide)), (List.forall_mem_cons.mpr ⟨(fun h9 => absurd h9 (by decide)), (List.forall_mem_cons.mpr ⟨(fun h9 => absurd h9 (by decide)), (List.forall_mem_cons.mpr ⟨(fun h9 => absurd h9 (by decide)), (List.forall_mem_cons.mpr ⟨(fun h9 => absurd h9 (by decide)), (List.forall_mem_cons.mpr ⟨(fun h9 => absurd h9 (by decide)), (List.forall_mem_cons.mpr ⟨(fun h9 => absurd h9 (by decide)), (List.forall_mem_cons.mpr ⟨(fun h9 => absurd h9 (by decide)), (List.forall_mem_cons.mpr ⟨(fun h9 => absurd h9 (by decide)), (List.forall_mem_cons.mpr ⟨(fun h9 => absurd h9 (by decide)), (List.forall_mem_cons.mpr ⟨(fun h9 => absurd h9 (by decide)), (List.forall_mem_cons.mpr ⟨(fun h9 => absurd h9 (by decide)), (List.forall_mem_cons.mpr ⟨(fun h9 => absurd h9 (by decide)), (List.forall_mem_cons.mpr ⟨(fun h9 => absurd h9 (by decide)), (List.forall_mem_cons.mpr ⟨(fun h9 => absurd h9 (by decide)), (List.forall_mem_cons.mpr ⟨(fun h9 => absurd h9 (by decide)), (List.forall_mem_cons.mpr ⟨(fun h9 => absurd h9 (by decide)), (List.forall_mem_cons.mpr ⟨(fun h9 => absurd h9 (by decide)), (List.forall_mem_cons.mpr ⟨(fun h9 => absurd h9 (by decide)), (List.forall_mem_cons.mpr ⟨(fun h9 => absurd h9 (by decide)), (List.forall_mem_cons.mpr ⟨(fun h9 => absurd h9 (by decide)), (List.forall_mem_cons.mpr ⟨(fun h9 => absurd h9 (by decide)), (List.forall_mem_cons.mpr ⟨(fun h9 => absurd h9 (by decide)), (List.forall_mem_cons.mpr ⟨(fun h9 => absurd h9 (by decide)), (List.forall_mem_cons.mpr ⟨(fun h9 => absurd h9 (by decide)), (List.forall_mem_cons.mpr ⟨(fun h9 => absurd h9 (by decide)), (List.forall_mem_cons.mpr ⟨(fun h9 => absurd h9 (by decide)), (List.forall_mem_cons.mpr ⟨(fun h9 => absurd h9 (by decide)), (List.forall_mem_cons.mpr ⟨(fun h9 => absurd h9 (by decide)), (List.forall_mem_cons.mpr ⟨(fun h9 => absurd h9 (by decide)), (List.forall_mem_cons.mpr ⟨(fun h9 => absurd h9 (by decide)), (List.forall_mem_cons.mpr ⟨(fun h9 => absurd h9 (by decide)), (List.forall_mem_cons.mpr ⟨(fun h9 => absurd h9 (by decide)), (List.forall_mem_cons.mpr ⟨(fun h9 => absurd h9 (by decide)), (List.forall_mem_cons.mpr ⟨(fun h9 => absurd h9 (by decide)), (List.forall_mem_cons.mpr ⟨(fun h9 => absurd h9 (by decide)), (List.forall_mem_cons.mpr ⟨(fun h9 => absurd h9 (by decide)), (List.forall_mem_cons.mpr ⟨(fun h9 => absurd h9 (by decide)), (List.forall_mem_cons.mpr ⟨(fun h9 => absurd h9 (by decide)), (List.forall_mem_cons.mpr ⟨(fun h9 => absurd h9 (by decide)), (List.forall_mem_cons.mpr ⟨(fun h9 => absurd h9 (by decide)), (List.forall_mem_cons.mpr ⟨(fun h9 => absurd h9 (by decide)), (List.forall_mem_cons.mpr ⟨(fun h9 => absurd h9 (by decide)), (List.forall_mem_cons.mpr ⟨(fun h9 => absurd h9 (by decide)), (List.forall_mem_cons.mpr ⟨(fun h9 => absurd h9 (by decide)), (List.forall_mem_cons.mpr ⟨(fun h9 => absurd h9 (by decide)), (List.forall_mem_cons.mpr ⟨(fun h9 => absurd h9 (by decide)), (List.forall_mem_cons.mpr ⟨(fun h9 => absurd h9 (by decide)), (List.forall_mem_cons.mpr ⟨(fun h9 => absurd h9 (by decide)), (List.forall_mem_cons.mpr ⟨(fun h9 => absurd h9 (by decide)), (List.forall_mem_cons.mpr ⟨(fun h9 => absurd h9 (by decide)), (List.forall_mem_cons.mpr ⟨(fun h9 => absurd h9 (by decide)), (List.forall_mem_cons.mpr ⟨(fun h9 => absurd h9 (by decide)), (List.forall_mem_cons.mpr ⟨(fun h9 => absurd h9 (by decide)), (List.forall_mem_cons.mpr ⟨(fun h9 => absurd h9 (by decide)), (List.forall_mem_cons.mpr ⟨(fun h9 => absurd h9 (by decide)), (List.forall_mem_cons.mpr ⟨(fun h9 => absurd h9 (by decide)), (List.forall_mem_cons.mpr ⟨(fun h9 => absurd h9 (by decide)), (List.forall_mem_cons.mpr ⟨(fun _ => t307), (List.forall_mem_cons.mpr ⟨(fun _ => t308), (List.forall_mem_cons.mpr ⟨(fun _ => t309), (List.forall_mem_cons.mpr ⟨(fun _ => t310), (List.forall_mem_cons.mpr ⟨(fun _ => t311), (List.forall_mem_cons.mpr ⟨(fun _ => t312), (List.forall_mem_cons.mpr ⟨(fun _ => t313), (List.forall_mem_cons.mpr ⟨(fun _ => t314), (List.forall_mem_cons.mpr ⟨(fun _ => t315), (List.forall_mem_cons.mpr ⟨(fun _ => t316), (List.forall_mem_cons.mpr ⟨(fun _ => t317), (List.forall_mem_cons.mpr ⟨(fun _ => t318), (List.forall_mem_cons.mpr ⟨(fun _ => t319), (List.forall_mem_cons.mpr ⟨(fun _ => t320), (List.forall_mem_cons.mpr ⟨(fun _ => t321), (List.forall_mem_cons.mpr ⟨(fun _ => t322), (List.forall_mem_cons.mpr ⟨(fun _ => t323), (List.forall_mem_cons.mpr ⟨(fun _ => t324), (fun e he => by cases he)⟩)⟩)⟩)⟩)⟩)⟩)⟩)⟩)⟩)⟩)⟩)⟩)⟩)⟩)⟩)⟩)⟩)⟩)⟩)⟩)⟩)⟩)⟩)⟩)⟩)⟩)⟩)⟩)⟩)⟩)⟩)⟩)⟩)⟩)⟩)⟩)⟩)⟩)⟩)⟩)⟩)⟩)⟩)⟩)⟩)⟩)⟩)⟩)⟩)⟩)⟩)⟩)⟩)⟩)⟩)⟩)⟩)⟩)⟩)⟩)⟩)⟩)⟩)⟩)⟩)⟩)⟩)⟩)⟩)⟩)⟩)⟩)⟩)⟩)⟩)⟩)⟩)⟩)⟩)⟩)⟩)⟩)⟩)⟩)⟩)⟩)⟩)⟩)⟩)⟩)⟩)⟩)⟩ ⟨e307, e308', fun q => ?_, fun q => ?_, fun q => ?_, ?_, ?_, ?_, ?_⟩
  · rw [fo x (by omega) (by omega), fJ18 (x) (by omega), fJ17 (x) (by omega), fJ16 (x) (by omega), fJ15 (x) (by omega), fJ14 (x) (by omega), fJ13 (x) (by omega), fJ12 (x) (by omega), fJ11 (x) (by omega), fJ10 (x) (by omega), fJ9 (x) (by omega), uI_row (by omega), fJ8 (x) (by omega), fJ7 (x) (by omega), fJ6 (x) (by omega), fJ5 (x) (by omega), uI_row (by omega), uI_row (by omega), fJ4 (x) (by omega), fJ3 (x) (by omega), fJ2 (x) (by omega), fJ1 (x) (by omega)]
  · funext q; rw [fR18 (x) (q) (by omega) (by omega), fR17 (x) (q) (by omega) (by omega), fR16 (x) (q) (by omega) (by omega), fR15 (x) (q) (by omega) (by omega), fR14 (x) (q) (by omega) (by omega), fR13 (x) (q) (by omega) (by omega), fR12 (x) (q) (by omega) (by omega), fR11 (x) (q) (by omega) (by omega), fR10 (x) (q) (by omega) (by omega), fR9 (x) (q) (by omega) (by omega), fR8 (x) (q) (by omega) (by omega), fR7 (x) (q) (by omega) (by omega), fR6 (x) (q) (by omega) (by omega), fR5 (x) (q) (by omega) (by omega), fR4 (x) (q) (by omega) (by omega), fR3 (x) (q) (by omega) (by omega), fR2 (x) (q) (by omega) (by omega), fR1 (x) (q) (by omega) (by omega)]
  · rw [fo 310 (by omega) (by omega), fJ18 (310) (by omega), fJ17 (310) (by omega), fJ16 (310) (by omega), fJ15 (310) (by omega), fJ14 (310) (by omega), fJ13 (310) (by omega), fJ12 (310) (by omega), fJ11 (310) (by omega), fJ10 (310) (by omega), fJ9 (310) (by omega), uI_row (by omega), fJ8 (310) (by omega), fJ7 (310) (by omega), fJ6 (310) (by omega), fJ5 (310) (by omega), uI_row (by omega), uI_row (by omega), ← l3]; exact z4 q
  · rw [fo 323 (by omega) (by omega), fJ18 (323) (by omega), ← l16]; exact z17 q
  · rw [fo 324 (by omega) (by omega), ← l17]; exact z18 q
  · rw [fo 306 (by omega) (by omega), fJ18 306 (by omega), fJ17 306 (by omega), fJ16 306 (by omega), fJ15 306 (by omega), fJ14 306 (by omega), fJ13 306 (by omega), fJ12 306 (by omega), fJ11 306 (by omega), fJ10 306 (by omega), fJ9 306 (by omega), uI_o (by omega), fJ8 306 (by omega), fJ7 306 (by omega), fJ6 306 (by omega), fJ5 306 (by omega), uI_o (by omega), uI_o (by omega), fJ4 306 (by omega), fJ3 306 (by omega), fJ2 306 (by omega), fJ1 306 (by omega)]; exact hz _
  · rw [fo 306 (by omega) (by omega), fJ18 306 (by omega), fJ17 306 (by omega), fJ16 306 (by omega), fJ15 306 (by omega), fJ14 306 (by omega), fJ13 306 (by omega), fJ12 306 (by omega), fJ11 306 (by omega), fJ10 306 (by omega), fJ9 306 (by omega), uI_o (by omega), fJ8 306 (by omega), fJ7 306 (by omega), fJ6 306 (by omega), fJ5 306 (by omega), uI_o (by omega), uI_s]
  · rw [fo 306 (by omega) (by omega), fJ18 306 (by omega), fJ17 306 (by omega), fJ16 306 (by omega), fJ15 306 (by omega), fJ14 306 (by omega), fJ13 306 (by omega), fJ12 306 (by omega), fJ11 306 (by omega), fJ10 306 (by omega), fJ9 306 (by omega), uI_o (by omega), fJ8 306 (by omega), fJ7 306 (by omega), fJ6 306 (by omega), fJ5 306 (by omega), uI_s]
  · rw [fo 306 (by omega) (by omega), fJ18 306 (by omega), fJ17 306 (by omega), fJ16 306 (by omega), fJ15 306 (by omega), fJ14 306 (by omega), fJ13 306 (by omega), fJ12 306 (by omega), fJ11 306 (by omega), fJ10 306 (by omega), fJ9 306 (by omega), uI_s]
end Ctor6
