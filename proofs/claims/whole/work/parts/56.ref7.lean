section Ref7
variable {n mc ms : Nat} {M : Md} {pc : Nat} {lv : List (Nat × Value)} {st : List Value} {k j : Nat} {Post : PT} {S : Sh} {I : CI} {R : CR} {A : Nat → Int} {tx : Nat → Nat → Int}
def Fe (I J : CI) : Prop := ∀ c, c ≠ 313 → c ≠ 314 → J c = I c
theorem Fe.rf {I : CI} : Fe I I := fun _ _ _ => rfl
theorem Fe.tr {I I' I'' : CI} (h : Fe I I') (h2 : Fe I' I'') : Fe I I'' := fun c h1 h3 => (h2 c h1 h3).trans (h c h1 h3)
theorem Fe.v {I : CI} {i : Nat} {v : Int} : Fe I (uI I 313 i v) := fun c h1 _ => uI_row h1
theorem Fe.w {I : CI} {i : Nat} {v : Int} : Fe I (uI I 314 i v) := fun c _ h1 => uI_row h1
theorem RS_vb {s V W : Nat → Int} (hs : ∀ j, j < 303 → -1000000 ≤ s j ∧ s j ≤ 1000000) : ∀ ty : List Bool, RS s V W ty → ty.length ≤ 303 → ∀ j, j < cF ty → -1000000 ≤ V j ∧ V j ≤ 1000000 := by
  intro ty
  induction ty with
  | nil => intro _ _ j hj; exact absurd hj (Nat.not_lt_zero j)
  | cons b r ih =>
    intro h hl j hj
    have hl2 : r.length + 1 ≤ 303 := hl
    cases b
    · have e : cF (false :: r) = cF r + 1 := rfl
      by_cases hj2 : j = cF r
      · rw [hj2, ← h.1]; exact hs _ (by omega)
      · exact ih h.2 (by omega) j (by omega)
    · exact ih h.2 (by omega) j hj
/-- a law's code in the reference's row of texts -/
def RTc (X : Nat → Int) (o : Nat) (cd : Nat → Int) (f K bad : Nat) : Prop := ∀ i, f ≤ i → i < f + K → (0 ≤ cd i ∧ cd i < 311296) ∧ X (o + 97 + 2 * i) = omp (cd i / 16384) ∧ X (o + 98 + 2 * i) = cd i % 16384 ∧ (cd i / 16384 = 1 → cd i % 16384 < 8 ∧ cd i % 16384 ≠ bad)
theorem dX12_summedUp_0 : decode prog_14_method_69_code 0 = .ok (.sipush 705, 3) := by decide +kernel
theorem dX12_summedUp_3 : decode prog_14_method_69_code 3 = .ok (.iload_n 1, 1) := by decide +kernel
theorem dX12_summedUp_4 : decode prog_14_method_69_code 4 = .ok (.imul, 1) := by decide +kernel
theorem dX12_summedUp_5 : decode prog_14_method_69_code 5 = .ok (.iconst 1, 1) := by decide +kernel
theorem dX12_summedUp_6 : decode prog_14_method_69_code 6 = .ok (.iadd, 1) := by decide +kernel
theorem dX12_summedUp_7 : decode prog_14_method_69_code 7 = .ok (.iconst 4, 1) := by decide +kernel
theorem dX12_summedUp_8 : decode prog_14_method_69_code 8 = .ok (.iload_n 2, 1) := by decide +kernel
theorem dX12_summedUp_9 : decode prog_14_method_69_code 9 = .ok (.imul, 1) := by decide +kernel
theorem dX12_summedUp_10 : decode prog_14_method_69_code 10 = .ok (.iadd, 1) := by decide +kernel
theorem dX12_summedUp_11 : decode prog_14_method_69_code 11 = .ok (.istore_n 3, 1) := by decide +kernel
theorem dX12_summedUp_12 : decode prog_14_method_69_code 12 = .ok (.sipush 705, 3) := by decide +kernel
theorem dX12_summedUp_15 : decode prog_14_method_69_code 15 = .ok (.iload_n 1, 1) := by decide +kernel
theorem dX12_summedUp_16 : decode prog_14_method_69_code 16 = .ok (.imul, 1) := by decide +kernel
theorem dX12_summedUp_17 : decode prog_14_method_69_code 17 = .ok (.bipush 97, 2) := by decide +kernel
theorem dX12_summedUp_19 : decode prog_14_method_69_code 19 = .ok (.iadd, 1) := by decide +kernel
theorem dX12_summedUp_20 : decode prog_14_method_69_code 20 = .ok (.istore 4, 2) := by decide +kernel
theorem dX12_summedUp_22 : decode prog_14_method_69_code 22 = .ok (.iconst 0, 1) := by decide +kernel
theorem dX12_summedUp_23 : decode prog_14_method_69_code 23 = .ok (.istore 5, 2) := by decide +kernel
theorem dX12_summedUp_25 : decode prog_14_method_69_code 25 = .ok (.iconst 0, 1) := by decide +kernel
theorem dX12_summedUp_26 : decode prog_14_method_69_code 26 = .ok (.istore 6, 2) := by decide +kernel
theorem dX12_summedUp_28 : decode prog_14_method_69_code 28 = .ok (.aload_n 0, 1) := by decide +kernel
theorem dX12_summedUp_29 : decode prog_14_method_69_code 29 = .ok (.getfield 16, 3) := by decide +kernel
theorem dX12_summedUp_32 : decode prog_14_method_69_code 32 = .ok (.iload_n 3, 1) := by decide +kernel
theorem dX12_summedUp_33 : decode prog_14_method_69_code 33 = .ok (.iconst 1, 1) := by decide +kernel
theorem dX12_summedUp_34 : decode prog_14_method_69_code 34 = .ok (.iadd, 1) := by decide +kernel
theorem dX12_summedUp_35 : decode prog_14_method_69_code 35 = .ok (.iaload, 1) := by decide +kernel
theorem dX12_summedUp_36 : decode prog_14_method_69_code 36 = .ok (.istore 7, 2) := by decide +kernel
theorem dX12_summedUp_38 : decode prog_14_method_69_code 38 = .ok (.iload 7, 2) := by decide +kernel
theorem dX12_summedUp_40 : decode prog_14_method_69_code 40 = .ok (.aload_n 0, 1) := by decide +kernel
theorem dX12_summedUp_41 : decode prog_14_method_69_code 41 = .ok (.getfield 16, 3) := by decide +kernel
theorem dX12_summedUp_44 : decode prog_14_method_69_code 44 = .ok (.iload_n 3, 1) := by decide +kernel
theorem dX12_summedUp_45 : decode prog_14_method_69_code 45 = .ok (.iconst 2, 1) := by decide +kernel
theorem dX12_summedUp_46 : decode prog_14_method_69_code 46 = .ok (.iadd, 1) := by decide +kernel
theorem dX12_summedUp_47 : decode prog_14_method_69_code 47 = .ok (.iaload, 1) := by decide +kernel
theorem dX12_summedUp_48 : decode prog_14_method_69_code 48 = .ok (.if_icmp .ge 358, 3) := by decide +kernel
theorem dX12_summedUp_51 : decode prog_14_method_69_code 51 = .ok (.aload_n 0, 1) := by decide +kernel
theorem dX12_summedUp_52 : decode prog_14_method_69_code 52 = .ok (.getfield 16, 3) := by decide +kernel
theorem dX12_summedUp_55 : decode prog_14_method_69_code 55 = .ok (.iload 4, 2) := by decide +kernel
theorem dX12_summedUp_57 : decode prog_14_method_69_code 57 = .ok (.iconst 2, 1) := by decide +kernel
theorem dX12_summedUp_58 : decode prog_14_method_69_code 58 = .ok (.iload 7, 2) := by decide +kernel
theorem dX12_summedUp_60 : decode prog_14_method_69_code 60 = .ok (.imul, 1) := by decide +kernel
theorem dX12_summedUp_61 : decode prog_14_method_69_code 61 = .ok (.iadd, 1) := by decide +kernel
theorem dX12_summedUp_62 : decode prog_14_method_69_code 62 = .ok (.iaload, 1) := by decide +kernel
theorem dX12_summedUp_63 : decode prog_14_method_69_code 63 = .ok (.istore 8, 2) := by decide +kernel
theorem dX12_summedUp_65 : decode prog_14_method_69_code 65 = .ok (.aload_n 0, 1) := by decide +kernel
theorem dX12_summedUp_66 : decode prog_14_method_69_code 66 = .ok (.getfield 16, 3) := by decide +kernel
theorem dX12_summedUp_69 : decode prog_14_method_69_code 69 = .ok (.iload 4, 2) := by decide +kernel
theorem dX12_summedUp_71 : decode prog_14_method_69_code 71 = .ok (.iconst 2, 1) := by decide +kernel
theorem dX12_summedUp_72 : decode prog_14_method_69_code 72 = .ok (.iload 7, 2) := by decide +kernel
theorem dX12_summedUp_74 : decode prog_14_method_69_code 74 = .ok (.imul, 1) := by decide +kernel
theorem dX12_summedUp_75 : decode prog_14_method_69_code 75 = .ok (.iadd, 1) := by decide +kernel
theorem dX12_summedUp_76 : decode prog_14_method_69_code 76 = .ok (.iconst 1, 1) := by decide +kernel
theorem dX12_summedUp_77 : decode prog_14_method_69_code 77 = .ok (.iadd, 1) := by decide +kernel
theorem dX12_summedUp_78 : decode prog_14_method_69_code 78 = .ok (.iaload, 1) := by decide +kernel
theorem dX12_summedUp_79 : decode prog_14_method_69_code 79 = .ok (.istore 9, 2) := by decide +kernel
theorem dX12_summedUp_81 : decode prog_14_method_69_code 81 = .ok (.iload 8, 2) := by decide +kernel
theorem dX12_summedUp_83 : decode prog_14_method_69_code 83 = .ok (.iconst 1, 1) := by decide +kernel
theorem dX12_summedUp_84 : decode prog_14_method_69_code 84 = .ok (.if_icmp .gt 35, 3) := by decide +kernel
theorem dX12_summedUp_87 : decode prog_14_method_69_code 87 = .ok (.aload_n 0, 1) := by decide +kernel
theorem dX12_summedUp_88 : decode prog_14_method_69_code 88 = .ok (.getfield 35, 3) := by decide +kernel
theorem dX12_summedUp_91 : decode prog_14_method_69_code 91 = .ok (.iload 5, 2) := by decide +kernel
theorem dX12_summedUp_93 : decode prog_14_method_69_code 93 = .ok (.iload 8, 2) := by decide +kernel
theorem dX12_summedUp_95 : decode prog_14_method_69_code 95 = .ok (.ifCond .ne 9, 3) := by decide +kernel
theorem dX12_summedUp_98 : decode prog_14_method_69_code 98 = .ok (.iload 9, 2) := by decide +kernel
theorem dX12_summedUp_100 : decode prog_14_method_69_code 100 = .ok (.i2l, 1) := by decide +kernel
theorem dX12_summedUp_101 : decode prog_14_method_69_code 101 = .ok (.goto 11, 3) := by decide +kernel
theorem dX12_summedUp_104 : decode prog_14_method_69_code 104 = .ok (.aload_n 0, 1) := by decide +kernel
theorem dX12_summedUp_105 : decode prog_14_method_69_code 105 = .ok (.getfield 32, 3) := by decide +kernel
theorem dX12_summedUp_108 : decode prog_14_method_69_code 108 = .ok (.iload 9, 2) := by decide +kernel
theorem dX12_summedUp_110 : decode prog_14_method_69_code 110 = .ok (.iaload, 1) := by decide +kernel
theorem dX12_summedUp_111 : decode prog_14_method_69_code 111 = .ok (.i2l, 1) := by decide +kernel
theorem dX12_summedUp_112 : decode prog_14_method_69_code 112 = .ok (.lastore, 1) := by decide +kernel
theorem dX12_summedUp_113 : decode prog_14_method_69_code 113 = .ok (.iinc 5 1, 3) := by decide +kernel
theorem dX12_summedUp_116 : decode prog_14_method_69_code 116 = .ok (.goto 284, 3) := by decide +kernel
theorem dX12_summedUp_119 : decode prog_14_method_69_code 119 = .ok (.iload 8, 2) := by decide +kernel
theorem dX12_summedUp_121 : decode prog_14_method_69_code 121 = .ok (.iconst 3, 1) := by decide +kernel
theorem dX12_summedUp_122 : decode prog_14_method_69_code 122 = .ok (.if_icmp .ne 38, 3) := by decide +kernel
theorem dX12_summedUp_125 : decode prog_14_method_69_code 125 = .ok (.iinc 5 (-1), 3) := by decide +kernel
theorem dX12_summedUp_128 : decode prog_14_method_69_code 128 = .ok (.iinc 6 (-1), 3) := by decide +kernel
theorem dX12_summedUp_131 : decode prog_14_method_69_code 131 = .ok (.aload_n 0, 1) := by decide +kernel
theorem dX12_summedUp_132 : decode prog_14_method_69_code 132 = .ok (.getfield 39, 3) := by decide +kernel
theorem dX12_summedUp_135 : decode prog_14_method_69_code 135 = .ok (.iload 6, 2) := by decide +kernel
theorem dX12_summedUp_137 : decode prog_14_method_69_code 137 = .ok (.baload, 1) := by decide +kernel
theorem dX12_summedUp_138 : decode prog_14_method_69_code 138 = .ok (.ifCond .ne 262, 3) := by decide +kernel
theorem dX12_summedUp_141 : decode prog_14_method_69_code 141 = .ok (.aload_n 0, 1) := by decide +kernel
theorem dX12_summedUp_142 : decode prog_14_method_69_code 142 = .ok (.getfield 35, 3) := by decide +kernel
theorem dX12_summedUp_145 : decode prog_14_method_69_code 145 = .ok (.iload 5, 2) := by decide +kernel
theorem dX12_summedUp_147 : decode prog_14_method_69_code 147 = .ok (.iconst 1, 1) := by decide +kernel
theorem dX12_summedUp_148 : decode prog_14_method_69_code 148 = .ok (.isub, 1) := by decide +kernel
theorem dX12_summedUp_149 : decode prog_14_method_69_code 149 = .ok (.aload_n 0, 1) := by decide +kernel
theorem dX12_summedUp_150 : decode prog_14_method_69_code 150 = .ok (.getfield 35, 3) := by decide +kernel
theorem dX12_summedUp_153 : decode prog_14_method_69_code 153 = .ok (.iload 5, 2) := by decide +kernel
theorem dX12_summedUp_155 : decode prog_14_method_69_code 155 = .ok (.laload, 1) := by decide +kernel
theorem dX12_summedUp_156 : decode prog_14_method_69_code 156 = .ok (.lastore, 1) := by decide +kernel
theorem dX12_summedUp_157 : decode prog_14_method_69_code 157 = .ok (.goto 243, 3) := by decide +kernel
theorem dX12_summedUp_160 : decode prog_14_method_69_code 160 = .ok (.iload 8, 2) := by decide +kernel
theorem dX12_summedUp_162 : decode prog_14_method_69_code 162 = .ok (.iconst 5, 1) := by decide +kernel
theorem dX12_summedUp_163 : decode prog_14_method_69_code 163 = .ok (.if_icmp .eq 9, 3) := by decide +kernel
theorem dX12_summedUp_166 : decode prog_14_method_69_code 166 = .ok (.iload 8, 2) := by decide +kernel
theorem dX12_summedUp_168 : decode prog_14_method_69_code 168 = .ok (.iconst 2, 1) := by decide +kernel
theorem dX12_summedUp_169 : decode prog_14_method_69_code 169 = .ok (.if_icmp .ne 47, 3) := by decide +kernel
theorem dX12_summedUp_172 : decode prog_14_method_69_code 172 = .ok (.aload_n 0, 1) := by decide +kernel
theorem dX12_summedUp_173 : decode prog_14_method_69_code 173 = .ok (.getfield 35, 3) := by decide +kernel
theorem dX12_summedUp_176 : decode prog_14_method_69_code 176 = .ok (.iload 5, 2) := by decide +kernel
theorem dX12_summedUp_178 : decode prog_14_method_69_code 178 = .ok (.iconst 1, 1) := by decide +kernel
theorem dX12_summedUp_179 : decode prog_14_method_69_code 179 = .ok (.isub, 1) := by decide +kernel
theorem dX12_summedUp_180 : decode prog_14_method_69_code 180 = .ok (.iload 8, 2) := by decide +kernel
theorem dX12_summedUp_182 : decode prog_14_method_69_code 182 = .ok (.iconst 5, 1) := by decide +kernel
theorem dX12_summedUp_183 : decode prog_14_method_69_code 183 = .ok (.if_icmp .ne 16, 3) := by decide +kernel
theorem dX12_summedUp_186 : decode prog_14_method_69_code 186 = .ok (.aload_n 0, 1) := by decide +kernel
theorem dX12_summedUp_187 : decode prog_14_method_69_code 187 = .ok (.getfield 35, 3) := by decide +kernel
theorem dX12_summedUp_190 : decode prog_14_method_69_code 190 = .ok (.iload 5, 2) := by decide +kernel
theorem dX12_summedUp_192 : decode prog_14_method_69_code 192 = .ok (.iconst 1, 1) := by decide +kernel
theorem dX12_summedUp_193 : decode prog_14_method_69_code 193 = .ok (.isub, 1) := by decide +kernel
theorem dX12_summedUp_194 : decode prog_14_method_69_code 194 = .ok (.laload, 1) := by decide +kernel
theorem dX12_summedUp_195 : decode prog_14_method_69_code 195 = .ok (.lneg, 1) := by decide +kernel
theorem dX12_summedUp_196 : decode prog_14_method_69_code 196 = .ok (.goto 16, 3) := by decide +kernel
theorem dX12_summedUp_199 : decode prog_14_method_69_code 199 = .ok (.aload_n 0, 1) := by decide +kernel
theorem dX12_summedUp_200 : decode prog_14_method_69_code 200 = .ok (.aload_n 0, 1) := by decide +kernel
theorem dX12_summedUp_201 : decode prog_14_method_69_code 201 = .ok (.getfield 35, 3) := by decide +kernel
theorem dX12_summedUp_204 : decode prog_14_method_69_code 204 = .ok (.iload 5, 2) := by decide +kernel
theorem dX12_summedUp_206 : decode prog_14_method_69_code 206 = .ok (.iconst 1, 1) := by decide +kernel
theorem dX12_summedUp_207 : decode prog_14_method_69_code 207 = .ok (.isub, 1) := by decide +kernel
theorem dX12_summedUp_208 : decode prog_14_method_69_code 208 = .ok (.laload, 1) := by decide +kernel
theorem dX12_summedUp_209 : decode prog_14_method_69_code 209 = .ok (.invokevirtual 284, 3) := by decide +kernel
theorem dX12_summedUp_212 : decode prog_14_method_69_code 212 = .ok (.lastore, 1) := by decide +kernel
theorem dX12_summedUp_213 : decode prog_14_method_69_code 213 = .ok (.goto 187, 3) := by decide +kernel
theorem dX12_summedUp_216 : decode prog_14_method_69_code 216 = .ok (.iload 8, 2) := by decide +kernel
theorem dX12_summedUp_218 : decode prog_14_method_69_code 218 = .ok (.bipush 10, 2) := by decide +kernel
theorem dX12_summedUp_220 : decode prog_14_method_69_code 220 = .ok (.if_icmp .ge 67, 3) := by decide +kernel
theorem dX12_summedUp_223 : decode prog_14_method_69_code 223 = .ok (.iinc 5 (-1), 3) := by decide +kernel
theorem dX12_summedUp_226 : decode prog_14_method_69_code 226 = .ok (.aload_n 0, 1) := by decide +kernel
theorem dX12_summedUp_227 : decode prog_14_method_69_code 227 = .ok (.getfield 35, 3) := by decide +kernel
theorem dX12_summedUp_230 : decode prog_14_method_69_code 230 = .ok (.iload 5, 2) := by decide +kernel
theorem dX12_summedUp_232 : decode prog_14_method_69_code 232 = .ok (.iconst 1, 1) := by decide +kernel
theorem dX12_summedUp_233 : decode prog_14_method_69_code 233 = .ok (.isub, 1) := by decide +kernel
theorem dX12_summedUp_234 : decode prog_14_method_69_code 234 = .ok (.iload 8, 2) := by decide +kernel
theorem dX12_summedUp_236 : decode prog_14_method_69_code 236 = .ok (.iconst 4, 1) := by decide +kernel
theorem dX12_summedUp_237 : decode prog_14_method_69_code 237 = .ok (.if_icmp .ne 25, 3) := by decide +kernel
theorem dX12_summedUp_240 : decode prog_14_method_69_code 240 = .ok (.aload_n 0, 1) := by decide +kernel
theorem dX12_summedUp_241 : decode prog_14_method_69_code 241 = .ok (.getfield 35, 3) := by decide +kernel
theorem dX12_summedUp_244 : decode prog_14_method_69_code 244 = .ok (.iload 5, 2) := by decide +kernel
theorem dX12_summedUp_246 : decode prog_14_method_69_code 246 = .ok (.iconst 1, 1) := by decide +kernel
theorem dX12_summedUp_247 : decode prog_14_method_69_code 247 = .ok (.isub, 1) := by decide +kernel
theorem dX12_summedUp_248 : decode prog_14_method_69_code 248 = .ok (.laload, 1) := by decide +kernel
theorem dX12_summedUp_249 : decode prog_14_method_69_code 249 = .ok (.aload_n 0, 1) := by decide +kernel
theorem dX12_summedUp_250 : decode prog_14_method_69_code 250 = .ok (.getfield 35, 3) := by decide +kernel
theorem dX12_summedUp_253 : decode prog_14_method_69_code 253 = .ok (.iload 5, 2) := by decide +kernel
theorem dX12_summedUp_255 : decode prog_14_method_69_code 255 = .ok (.laload, 1) := by decide +kernel
theorem dX12_summedUp_256 : decode prog_14_method_69_code 256 = .ok (.invokestatic 287, 3) := by decide +kernel
theorem dX12_summedUp_259 : decode prog_14_method_69_code 259 = .ok (.goto 24, 3) := by decide +kernel
theorem dX12_summedUp_262 : decode prog_14_method_69_code 262 = .ok (.iload 8, 2) := by decide +kernel
theorem dX12_summedUp_264 : decode prog_14_method_69_code 264 = .ok (.aload_n 0, 1) := by decide +kernel
theorem dX12_summedUp_265 : decode prog_14_method_69_code 265 = .ok (.getfield 35, 3) := by decide +kernel
theorem dX12_summedUp_268 : decode prog_14_method_69_code 268 = .ok (.iload 5, 2) := by decide +kernel
theorem dX12_summedUp_270 : decode prog_14_method_69_code 270 = .ok (.iconst 1, 1) := by decide +kernel
theorem dX12_summedUp_271 : decode prog_14_method_69_code 271 = .ok (.isub, 1) := by decide +kernel
theorem dX12_summedUp_272 : decode prog_14_method_69_code 272 = .ok (.laload, 1) := by decide +kernel
theorem dX12_summedUp_273 : decode prog_14_method_69_code 273 = .ok (.aload_n 0, 1) := by decide +kernel
theorem dX12_summedUp_274 : decode prog_14_method_69_code 274 = .ok (.getfield 35, 3) := by decide +kernel
theorem dX12_summedUp_277 : decode prog_14_method_69_code 277 = .ok (.iload 5, 2) := by decide +kernel
theorem dX12_summedUp_279 : decode prog_14_method_69_code 279 = .ok (.laload, 1) := by decide +kernel
theorem dX12_summedUp_280 : decode prog_14_method_69_code 280 = .ok (.invokestatic 291, 3) := by decide +kernel
theorem dX12_summedUp_283 : decode prog_14_method_69_code 283 = .ok (.lastore, 1) := by decide +kernel
theorem dX12_summedUp_284 : decode prog_14_method_69_code 284 = .ok (.goto 116, 3) := by decide +kernel
theorem dX12_summedUp_287 : decode prog_14_method_69_code 287 = .ok (.iload 8, 2) := by decide +kernel
theorem dX12_summedUp_289 : decode prog_14_method_69_code 289 = .ok (.bipush 20, 2) := by decide +kernel
theorem dX12_summedUp_291 : decode prog_14_method_69_code 291 = .ok (.if_icmp .ge 40, 3) := by decide +kernel
theorem dX12_summedUp_294 : decode prog_14_method_69_code 294 = .ok (.iinc 5 (-2), 3) := by decide +kernel
theorem dX12_summedUp_297 : decode prog_14_method_69_code 297 = .ok (.aload_n 0, 1) := by decide +kernel
theorem dX12_summedUp_298 : decode prog_14_method_69_code 298 = .ok (.getfield 39, 3) := by decide +kernel
theorem dX12_summedUp_301 : decode prog_14_method_69_code 301 = .ok (.iload 6, 2) := by decide +kernel
theorem dX12_summedUp_303 : decode prog_14_method_69_code 303 = .ok (.iload 8, 2) := by decide +kernel
theorem dX12_summedUp_305 : decode prog_14_method_69_code 305 = .ok (.aload_n 0, 1) := by decide +kernel
theorem dX12_summedUp_306 : decode prog_14_method_69_code 306 = .ok (.getfield 35, 3) := by decide +kernel
theorem dX12_summedUp_309 : decode prog_14_method_69_code 309 = .ok (.iload 5, 2) := by decide +kernel
theorem dX12_summedUp_311 : decode prog_14_method_69_code 311 = .ok (.laload, 1) := by decide +kernel
theorem dX12_summedUp_312 : decode prog_14_method_69_code 312 = .ok (.aload_n 0, 1) := by decide +kernel
theorem dX12_summedUp_313 : decode prog_14_method_69_code 313 = .ok (.getfield 35, 3) := by decide +kernel
theorem dX12_summedUp_316 : decode prog_14_method_69_code 316 = .ok (.iload 5, 2) := by decide +kernel
theorem dX12_summedUp_318 : decode prog_14_method_69_code 318 = .ok (.iconst 1, 1) := by decide +kernel
theorem dX12_summedUp_319 : decode prog_14_method_69_code 319 = .ok (.iadd, 1) := by decide +kernel
theorem dX12_summedUp_320 : decode prog_14_method_69_code 320 = .ok (.laload, 1) := by decide +kernel
theorem dX12_summedUp_321 : decode prog_14_method_69_code 321 = .ok (.invokestatic 295, 3) := by decide +kernel
theorem dX12_summedUp_324 : decode prog_14_method_69_code 324 = .ok (.bastore, 1) := by decide +kernel
theorem dX12_summedUp_325 : decode prog_14_method_69_code 325 = .ok (.iinc 6 1, 3) := by decide +kernel
theorem dX12_summedUp_328 : decode prog_14_method_69_code 328 = .ok (.goto 72, 3) := by decide +kernel
theorem dX12_summedUp_331 : decode prog_14_method_69_code 331 = .ok (.iload 8, 2) := by decide +kernel
theorem dX12_summedUp_333 : decode prog_14_method_69_code 333 = .ok (.bipush 20, 2) := by decide +kernel
theorem dX12_summedUp_335 : decode prog_14_method_69_code 335 = .ok (.if_icmp .ne 32, 3) := by decide +kernel
theorem dX12_summedUp_338 : decode prog_14_method_69_code 338 = .ok (.aload_n 0, 1) := by decide +kernel
theorem dX12_summedUp_339 : decode prog_14_method_69_code 339 = .ok (.getfield 39, 3) := by decide +kernel
theorem dX12_summedUp_342 : decode prog_14_method_69_code 342 = .ok (.iload 6, 2) := by decide +kernel
theorem dX12_summedUp_344 : decode prog_14_method_69_code 344 = .ok (.iconst 1, 1) := by decide +kernel
theorem dX12_summedUp_345 : decode prog_14_method_69_code 345 = .ok (.isub, 1) := by decide +kernel
theorem dX12_summedUp_346 : decode prog_14_method_69_code 346 = .ok (.aload_n 0, 1) := by decide +kernel
theorem dX12_summedUp_347 : decode prog_14_method_69_code 347 = .ok (.getfield 39, 3) := by decide +kernel
theorem dX12_summedUp_350 : decode prog_14_method_69_code 350 = .ok (.iload 6, 2) := by decide +kernel
theorem dX12_summedUp_352 : decode prog_14_method_69_code 352 = .ok (.iconst 1, 1) := by decide +kernel
theorem dX12_summedUp_353 : decode prog_14_method_69_code 353 = .ok (.isub, 1) := by decide +kernel
theorem dX12_summedUp_354 : decode prog_14_method_69_code 354 = .ok (.baload, 1) := by decide +kernel
theorem dX12_summedUp_355 : decode prog_14_method_69_code 355 = .ok (.ifCond .ne 7, 3) := by decide +kernel
theorem dX12_summedUp_358 : decode prog_14_method_69_code 358 = .ok (.iconst 1, 1) := by decide +kernel
theorem dX12_summedUp_359 : decode prog_14_method_69_code 359 = .ok (.goto 4, 3) := by decide +kernel
theorem dX12_summedUp_362 : decode prog_14_method_69_code 362 = .ok (.iconst 0, 1) := by decide +kernel
theorem dX12_summedUp_363 : decode prog_14_method_69_code 363 = .ok (.bastore, 1) := by decide +kernel
theorem dX12_summedUp_364 : decode prog_14_method_69_code 364 = .ok (.goto 36, 3) := by decide +kernel
theorem dX12_summedUp_367 : decode prog_14_method_69_code 367 = .ok (.iinc 6 (-1), 3) := by decide +kernel
theorem dX12_summedUp_370 : decode prog_14_method_69_code 370 = .ok (.aload_n 0, 1) := by decide +kernel
theorem dX12_summedUp_371 : decode prog_14_method_69_code 371 = .ok (.getfield 39, 3) := by decide +kernel
theorem dX12_summedUp_374 : decode prog_14_method_69_code 374 = .ok (.iload 6, 2) := by decide +kernel
theorem dX12_summedUp_376 : decode prog_14_method_69_code 376 = .ok (.iconst 1, 1) := by decide +kernel
theorem dX12_summedUp_377 : decode prog_14_method_69_code 377 = .ok (.isub, 1) := by decide +kernel
theorem dX12_summedUp_378 : decode prog_14_method_69_code 378 = .ok (.iload 8, 2) := by decide +kernel
theorem dX12_summedUp_380 : decode prog_14_method_69_code 380 = .ok (.aload_n 0, 1) := by decide +kernel
theorem dX12_summedUp_381 : decode prog_14_method_69_code 381 = .ok (.getfield 39, 3) := by decide +kernel
theorem dX12_summedUp_384 : decode prog_14_method_69_code 384 = .ok (.iload 6, 2) := by decide +kernel
theorem dX12_summedUp_386 : decode prog_14_method_69_code 386 = .ok (.iconst 1, 1) := by decide +kernel
theorem dX12_summedUp_387 : decode prog_14_method_69_code 387 = .ok (.isub, 1) := by decide +kernel
theorem dX12_summedUp_388 : decode prog_14_method_69_code 388 = .ok (.baload, 1) := by decide +kernel
theorem dX12_summedUp_389 : decode prog_14_method_69_code 389 = .ok (.aload_n 0, 1) := by decide +kernel
theorem dX12_summedUp_390 : decode prog_14_method_69_code 390 = .ok (.getfield 39, 3) := by decide +kernel
theorem dX12_summedUp_393 : decode prog_14_method_69_code 393 = .ok (.iload 6, 2) := by decide +kernel
theorem dX12_summedUp_395 : decode prog_14_method_69_code 395 = .ok (.baload, 1) := by decide +kernel
theorem dX12_summedUp_396 : decode prog_14_method_69_code 396 = .ok (.invokestatic 299, 3) := by decide +kernel
theorem dX12_summedUp_399 : decode prog_14_method_69_code 399 = .ok (.bastore, 1) := by decide +kernel
theorem dX12_summedUp_400 : decode prog_14_method_69_code 400 = .ok (.iinc 7 1, 3) := by decide +kernel
theorem dX12_summedUp_403 : decode prog_14_method_69_code 403 = .ok (.goto (-365), 3) := by decide +kernel
theorem dX12_summedUp_406 : decode prog_14_method_69_code 406 = .ok (.aload_n 0, 1) := by decide +kernel
theorem dX12_summedUp_407 : decode prog_14_method_69_code 407 = .ok (.getfield 35, 3) := by decide +kernel
theorem dX12_summedUp_410 : decode prog_14_method_69_code 410 = .ok (.iconst 0, 1) := by decide +kernel
theorem dX12_summedUp_411 : decode prog_14_method_69_code 411 = .ok (.laload, 1) := by decide +kernel
theorem dX12_summedUp_412 : decode prog_14_method_69_code 412 = .ok (.lreturn, 1) := by decide +kernel
theorem bk87_sum {nm cd : Nat → Int} {f k x c0 i : Nat} {J : CI} {r : List Bool} (cs : CS S R) (hcd : 0 ≤ cd (f + k) ∧ cd (f + k) < 311296) (hl : r.length ≤ 300)  (hE : EvI nm A cd f k J (r)) (hop : cd (f + k) / 16384 ≤ 1) (hts : tyS (cd (f + k) / 16384) r = some (false :: r)) (hnm : cd (f + k) / 16384 = 1 → cd (f + k) % 16384 < 8 ∧ J 312 (cd (f + k) % 16384).toNat = nm (cd (f + k) % 16384).toNat ∧ (-100000 ≤ nm (cd (f + k) % 16384).toNat ∧ nm (cd (f + k) % 16384).toNat ≤ 100000)) (hK : ∀ J' ty', EvI nm A cd f (k + 1) J' ty' → Fe J J' → WP n 0 0 mX12_summedUp Post 400 [(0, .ref (S.2.1 306)), (3, .int (iI (x : Int))), (4, .int (iI (c0 : Int))), (5, .int (iI ((cF ty' : Int)))), (6, .int (iI ((cT ty' : Int)))), (7, .int (iI (i : Int)))] [] 0 0 S J' R) : WP n 0 0 mX12_summedUp Post 87 [(0, .ref (S.2.1 306)), (3, .int (iI (x : Int))), (4, .int (iI (c0 : Int))), (5, .int (iI ((cF r : Int)))), (6, .int (iI ((cT r : Int)))), (7, .int (iI (i : Int))), (8, .int (iI (omp (cd (f + k) / 16384)))), (9, .int (iI (cd (f + k) % 16384)))] [] 0 0 S J R := by
  have hom := omp_r (op := cd (f + k) / 16384) (by omega)
  have hcft := cFT r
  have hcf : cF r ≤ 300 := by omega
  have hct : cT r ≤ 300 := by omega
  have htk : tkn (cd (f + k) / 16384) = 0 := (tkn_b _).2.2.mpr hop
  refine x_aload_n dX12_summedUp_87 rfl ?_
  refine x_getR (b := 313) dX12_summedUp_88 gf_RX12_35 (k_ob_306 cs) (fun _ _ => rfl) (k_r_306_21 cs) ?_
  refine x_iload dX12_summedUp_91 rfl ?_
  refine x_iload dX12_summedUp_93 rfl ?_
  refine x_if_ne 104 dX12_summedUp_95 (by decide) (by omega) (fun w95 => ?_) (fun w95 => ?_)
  · have hnn0 := hnm (by omega)
    refine x_aload_n dX12_summedUp_104 rfl ?_
    refine x_getR (b := 312) dX12_summedUp_105 gf_RX12_32 (k_ob_306 cs) (fun _ _ => rfl) (k_r_306_20 cs) ?_
    refine x_iload dX12_summedUp_108 rfl ?_
    refine x_iaload dX12_summedUp_110 (k_ar_312 cs) (by omega) (by omega) ?_
    rw [hnn0.2.1]
    refine x_i2l dX12_summedUp_111 (by omega) ?_
    refine x_lastore dX12_summedUp_112 (k_ar_313 cs) (by omega) (by omega) ?_
    refine x_iinc (lv2 := [(5, _), (0, _), (3, _), (4, _), (6, _), (7, _), (8, _), (9, _)]) dX12_summedUp_113 rfl (by decide) rfl ?_
    refine x_goto 400 dX12_summedUp_116 (by decide) ?_
    refine x_sub [1, 2, 3, 0, 4, 5] rfl ?_
    rw [tN]
    first
      | (have hz : cd (f + k) / 16384 = 0 := by omega
         refine hK _ (false :: r) (EvI_next hE hts (by rw [htk]; omega) hE.2.2 (v := cd (f + k) % 16384) ?_ (fun j hj => by rw [uI_o (by omega)]) (fun j hj => by rw [uI_row (by omega)]) (by rw [if_neg (by decide), uI_s])) Fe.v
         rw [if_pos htk, hz, show ftF nm 0 (cd (f + k) % 16384) = cd (f + k) % 16384 from if_neg (by omega)]
         exact clip_id (by omega))
      | (have hz : cd (f + k) / 16384 = 1 := by omega
         have hnn := hnm hz
         refine hK _ (false :: r) (EvI_next hE hts (by rw [htk]; omega) hE.2.2 (v := nm (cd (f + k) % 16384).toNat) ?_ (fun j hj => by rw [uI_o (by omega)]) (fun j hj => by rw [uI_row (by omega)]) (by rw [if_neg (by decide), uI_s])) Fe.v
         rw [if_pos htk, hz, show ftF nm 1 (cd (f + k) % 16384) = nm (cd (f + k) % 16384).toNat from if_pos ⟨rfl, hnn.1⟩]
         exact clip_id (by omega))
  · refine x_iload dX12_summedUp_98 rfl ?_
    refine x_i2l dX12_summedUp_100 (by omega) ?_
    refine x_goto 112 dX12_summedUp_101 (by decide) ?_
    refine x_lastore dX12_summedUp_112 (k_ar_313 cs) (by omega) (by omega) ?_
    refine x_iinc (lv2 := [(5, _), (0, _), (3, _), (4, _), (6, _), (7, _), (8, _), (9, _)]) dX12_summedUp_113 rfl (by decide) rfl ?_
    refine x_goto 400 dX12_summedUp_116 (by decide) ?_
    refine x_sub [1, 2, 3, 0, 4, 5] rfl ?_
    rw [tN]
    first
      | (have hz : cd (f + k) / 16384 = 0 := by omega
         refine hK _ (false :: r) (EvI_next hE hts (by rw [htk]; omega) hE.2.2 (v := cd (f + k) % 16384) ?_ (fun j hj => by rw [uI_o (by omega)]) (fun j hj => by rw [uI_row (by omega)]) (by rw [if_neg (by decide), uI_s])) Fe.v
         rw [if_pos htk, hz, show ftF nm 0 (cd (f + k) % 16384) = cd (f + k) % 16384 from if_neg (by omega)]
         exact clip_id (by omega))
      | (have hz : cd (f + k) / 16384 = 1 := by omega
         have hnn := hnm hz
         refine hK _ (false :: r) (EvI_next hE hts (by rw [htk]; omega) hE.2.2 (v := nm (cd (f + k) % 16384).toNat) ?_ (fun j hj => by rw [uI_o (by omega)]) (fun j hj => by rw [uI_row (by omega)]) (by rw [if_neg (by decide), uI_s])) Fe.v
         rw [if_pos htk, hz, show ftF nm 1 (cd (f + k) % 16384) = nm (cd (f + k) % 16384).toNat from if_pos ⟨rfl, hnn.1⟩]
         exact clip_id (by omega))
theorem bk125_sum {nm cd : Nat → Int} {f k x c0 i : Nat} {J : CI} {r : List Bool} (cs : CS S R) (hcd : 0 ≤ cd (f + k) ∧ cd (f + k) < 311296) (hl : r.length ≤ 300)  (hE : EvI nm A cd f k J (false :: false :: true :: r)) (hop : cd (f + k) / 16384 = 18) (hts : tyS (cd (f + k) / 16384) (false :: false :: true :: r) = some (false :: r)) (hvb : ∀ j, j < cF r + 2 → -1000000 ≤ J 313 j ∧ J 313 j ≤ 1000000) (hK : ∀ J' ty', EvI nm A cd f (k + 1) J' ty' → Fe J J' → WP n 0 0 mX12_summedUp Post 400 [(0, .ref (S.2.1 306)), (3, .int (iI (x : Int))), (4, .int (iI (c0 : Int))), (5, .int (iI ((cF ty' : Int)))), (6, .int (iI ((cT ty' : Int)))), (7, .int (iI (i : Int)))] [] 0 0 S J' R) : WP n 0 0 mX12_summedUp Post 125 [(0, .ref (S.2.1 306)), (3, .int (iI (x : Int))), (4, .int (iI (c0 : Int))), (5, .int (iI ((cF r : Int) + 2))), (6, .int (iI ((cT r : Int) + 1))), (7, .int (iI (i : Int))), (8, .int (iI (omp (cd (f + k) / 16384)))), (9, .int (iI (cd (f + k) % 16384)))] [] 0 0 S J R := by
  have hom := omp_r (op := cd (f + k) / 16384) (by omega)
  have hcft := cFT r
  have hcf : cF r ≤ 300 := by omega
  have hct : cT r ≤ 300 := by omega
  have htk : tkn (cd (f + k) / 16384) = 3 := by rw [hop]; rfl
  obtain ⟨g1, g2, ⟨g3, g4⟩, g5⟩ := hE.2.2
  have g1' : (rnF nm A cd f z0 k).1 (r.length + 2) = J 313 (cF r + 1) := g1
  have g2' : (rnF nm A cd f z0 k).1 (r.length + 1) = J 313 (cF r) := g2
  have hb1 := hvb (cF r) (by omega)
  have hb2 := hvb (cF r + 1) (by omega)
  refine x_iinc (lv2 := [(5, _), (0, _), (3, _), (4, _), (6, _), (7, _), (8, _), (9, _)]) dX12_summedUp_125 rfl (by decide) rfl ?_
  refine x_iinc (lv2 := [(6, _), (5, _), (0, _), (3, _), (4, _), (7, _), (8, _), (9, _)]) dX12_summedUp_128 rfl (by decide) rfl ?_
  refine x_aload_n dX12_summedUp_131 rfl ?_
  refine x_getR (b := 314) dX12_summedUp_132 gf_RX12_39 (k_ob_306 cs) (fun _ _ => rfl) (k_r_306_22 cs) ?_
  refine x_iload dX12_summedUp_135 rfl ?_
  refine x_zaload dX12_summedUp_137 (k_ar_314 cs) (by omega) (by omega) ?_
  rw [show ((cT r : Int) + 1 + -1).toNat = cT r by omega]
  refine x_if_ne 400 dX12_summedUp_138 (by decide) (by omega) (fun w138 => ?_) (fun w138 => ?_)
  · refine x_sub [2, 3, 4, 1, 0, 5] rfl ?_
    rw [show ((cF r : Int) + 2 + -1) = ((cF (false :: r) : Nat) : Int) by show _ = ((cF r + 1 : Nat) : Int); omega, show ((cT r : Int) + 1 + -1) = ((cT (false :: r) : Nat) : Int) by show _ = ((cT r : Nat) : Int); omega]
    first
      | (refine hK _ (false :: r) (EvI_next hE hts (by rw [htk]; simp only [List.length_cons]; omega) g5 (v := J 313 (cF r)) ?_ (fun j hj => rfl) (fun j hj => rfl) (by rw [if_neg (by decide)])) Fe.rf
         rw [htk, if_neg (by omega), hop, wo_18, g3, if_neg (by omega), g2']
         exact clip_id hb1)
      | (rw [show (((cF (false :: r) : Nat) : Int) - 1).toNat = cF r by show (((cF r + 1 : Nat) : Int) - 1).toNat = cF r; omega]
         refine hK _ (false :: r) (EvI_next hE hts (by rw [htk]; simp only [List.length_cons]; omega) g5 (v := J 313 (cF r + 1)) ?_ (fun j hj => by rw [uI_o (by omega)]) (fun j hj => by rw [uI_row (by omega)]) (by rw [if_neg (by decide), uI_s])) Fe.v
         rw [htk, if_neg (by omega), hop, wo_18, g3, if_pos (by omega), g1']
         exact clip_id hb2)
  · refine x_aload_n dX12_summedUp_141 rfl ?_
    refine x_getR (b := 313) dX12_summedUp_142 gf_RX12_35 (k_ob_306 cs) (fun _ _ => rfl) (k_r_306_21 cs) ?_
    refine x_iload dX12_summedUp_145 rfl ?_
    refine x_iconst dX12_summedUp_147 ?_
    refine x_isub dX12_summedUp_148 ?_
    refine x_aload_n dX12_summedUp_149 rfl ?_
    refine x_getR (b := 313) dX12_summedUp_150 gf_RX12_35 (k_ob_306 cs) (fun _ _ => rfl) (k_r_306_21 cs) ?_
    refine x_iload dX12_summedUp_153 rfl ?_
    refine x_laload dX12_summedUp_155 (k_ar_313 cs) (by omega) (by omega) ?_
    rw [show ((cF r : Int) + 2 + -1).toNat = cF r + 1 by omega]
    refine x_lastore dX12_summedUp_156 (k_ar_313 cs) (by omega) (by omega) ?_
    refine x_goto 400 dX12_summedUp_157 (by decide) ?_
    refine x_sub [2, 3, 4, 1, 0, 5] rfl ?_
    rw [show ((cF r : Int) + 2 + -1) = ((cF (false :: r) : Nat) : Int) by show _ = ((cF r + 1 : Nat) : Int); omega, show ((cT r : Int) + 1 + -1) = ((cT (false :: r) : Nat) : Int) by show _ = ((cT r : Nat) : Int); omega]
    first
      | (refine hK _ (false :: r) (EvI_next hE hts (by rw [htk]; simp only [List.length_cons]; omega) g5 (v := J 313 (cF r)) ?_ (fun j hj => rfl) (fun j hj => rfl) (by rw [if_neg (by decide)])) Fe.rf
         rw [htk, if_neg (by omega), hop, wo_18, g3, if_neg (by omega), g2']
         exact clip_id hb1)
      | (rw [show (((cF (false :: r) : Nat) : Int) - 1).toNat = cF r by show (((cF r + 1 : Nat) : Int) - 1).toNat = cF r; omega]
         refine hK _ (false :: r) (EvI_next hE hts (by rw [htk]; simp only [List.length_cons]; omega) g5 (v := J 313 (cF r + 1)) ?_ (fun j hj => by rw [uI_o (by omega)]) (fun j hj => by rw [uI_row (by omega)]) (by rw [if_neg (by decide), uI_s])) Fe.v
         rw [htk, if_neg (by omega), hop, wo_18, g3, if_pos (by omega), g1']
         exact clip_id hb2)
theorem bk172_sum {nm cd : Nat → Int} {f k x c0 i : Nat} {J : CI} {r : List Bool} (cs : CS S R) (hcd : 0 ≤ cd (f + k) ∧ cd (f + k) < 311296) (hl : r.length ≤ 300)  (hE : EvI nm A cd f k J (false :: r)) (hA : J 307 = A) (h0 : 0 ≤ A 0 ∧ A 0 ≤ 8) (he : ∀ q, q < 8 → 0 ≤ A (14 + 3 * q) ∧ A (14 + 3 * q) ≤ 9) (hn : 2 ≤ n) (hop : 1 < cd (f + k) / 16384 ∧ cd (f + k) / 16384 ≤ 3) (hts : tyS (cd (f + k) / 16384) (false :: r) = some (false :: r)) (hvb : ∀ j, j < cF r + 1 → -1000000 ≤ J 313 j ∧ J 313 j ≤ 1000000) (hK : ∀ J' ty', EvI nm A cd f (k + 1) J' ty' → Fe J J' → WP n 0 0 mX12_summedUp Post 400 [(0, .ref (S.2.1 306)), (3, .int (iI (x : Int))), (4, .int (iI (c0 : Int))), (5, .int (iI ((cF ty' : Int)))), (6, .int (iI ((cT ty' : Int)))), (7, .int (iI (i : Int)))] [] 0 0 S J' R) : WP n 0 0 mX12_summedUp Post 172 [(0, .ref (S.2.1 306)), (3, .int (iI (x : Int))), (4, .int (iI (c0 : Int))), (5, .int (iI ((cF r : Int) + 1))), (6, .int (iI ((cT r : Int)))), (7, .int (iI (i : Int))), (8, .int (iI (omp (cd (f + k) / 16384)))), (9, .int (iI (cd (f + k) % 16384)))] [] 0 0 S J R := by
  have hom := omp_r (op := cd (f + k) / 16384) (by omega)
  have hcft := cFT r
  have hcf : cF r ≤ 300 := by omega
  have hct : cT r ≤ 300 := by omega
  have htk : tkn (cd (f + k) / 16384) = 1 := by unfold tkn; rw [if_neg (by omega), if_pos (by omega)]
  obtain ⟨g1, g5⟩ := hE.2.2
  have hb1 := hvb (cF r) (by omega)
  have hh : ∀ z : Int, 0 ≤ woF A 3 z 0 0 ∧ woF A 3 z 0 0 ≤ 9 := fun z => by rw [wo_3]; split; exact he _ (by omega); omega
  refine x_aload_n dX12_summedUp_172 rfl ?_
  refine x_getR (b := 313) dX12_summedUp_173 gf_RX12_35 (k_ob_306 cs) (fun _ _ => rfl) (k_r_306_21 cs) ?_
  refine x_iload dX12_summedUp_176 rfl ?_
  refine x_iconst dX12_summedUp_178 ?_
  refine x_isub dX12_summedUp_179 ?_
  refine x_iload dX12_summedUp_180 rfl ?_
  refine x_iconst dX12_summedUp_182 ?_
  refine x_icmp_ne 199 dX12_summedUp_183 (by decide) ⟨(by omega), (by omega)⟩ (fun w183 => ?_) (fun w183 => ?_)
  · refine x_aload_n dX12_summedUp_199 rfl ?_
    refine x_aload_n dX12_summedUp_200 rfl ?_
    refine x_getR (b := 313) dX12_summedUp_201 gf_RX12_35 (k_ob_306 cs) (fun _ _ => rfl) (k_r_306_21 cs) ?_
    refine x_iload dX12_summedUp_204 rfl ?_
    refine x_iconst dX12_summedUp_206 ?_
    refine x_isub dX12_summedUp_207 ?_
    refine x_laload dX12_summedUp_208 (k_ar_313 cs) (by omega) (by omega) ?_
    rw [show ((cF r : Int) + 1 - 1).toNat = cF r by omega]
    refine x_callV1 (mc1 := 0) (ms1 := 0) dX12_summedUp_209 cv_RX12_284 (ci := 12) (k_ob_306 cs) rfl (Nat.le_of_ble_eq_true rfl) (n1 := n - 1) (by omega) (by omega) (by omega) ?_
    refine sp_X12_hotOf cs hA h0 he hb1 (by omega) ?_
    refine x_lastore dX12_summedUp_212 (k_ar_313 cs) (by omega) (by omega) ?_
    refine x_goto 400 dX12_summedUp_213 (by decide) ?_
    refine x_sub [0, 1, 2, 3, 4, 5] rfl ?_
    rw [show ((cF r : Int) + 1 - 1).toNat = cF r by omega]
    first
      | (have hz : cd (f + k) / 16384 = 2 := by omega
         refine hK _ (false :: r) (EvI_next hE hts (by rw [htk]; simp only [List.length_cons]; omega) g5 (v := -(J 313 (cF r))) ?_ (fun j hj => by rw [uI_o (by omega)]) (fun j hj => by rw [uI_row (by omega)]) (by rw [if_neg (by decide), uI_s])) Fe.v
         rw [htk, if_neg (by omega), hz, wo_2, g1]
         exact clip_id (by omega))
      | (have hz : cd (f + k) / 16384 = 3 := by omega
         refine hK _ (false :: r) (EvI_next hE hts (by rw [htk]; simp only [List.length_cons]; omega) g5 (v := woF A 3 (J 313 (cF r)) 0 0) ?_ (fun j hj => by rw [uI_o (by omega)]) (fun j hj => by rw [uI_row (by omega)]) (by rw [if_neg (by decide), uI_s])) Fe.v
         have h2 := hh (J 313 (cF r))
         rw [htk, if_neg (by omega), hz, show woF A 3 ((rnF nm A cd f z0 k).1 r.length) ((rnF nm A cd f z0 k).1 (r.length + 1)) ((rnF nm A cd f z0 k).1 (r.length + 2)) = woF A 3 (J 313 (cF r)) 0 0 by rw [g1]; rfl]
         exact clip_id (by omega))
  · refine x_aload_n dX12_summedUp_186 rfl ?_
    refine x_getR (b := 313) dX12_summedUp_187 gf_RX12_35 (k_ob_306 cs) (fun _ _ => rfl) (k_r_306_21 cs) ?_
    refine x_iload dX12_summedUp_190 rfl ?_
    refine x_iconst dX12_summedUp_192 ?_
    refine x_isub dX12_summedUp_193 ?_
    refine x_laload dX12_summedUp_194 (k_ar_313 cs) (by omega) (by omega) ?_
    rw [show ((cF r : Int) + 1 - 1).toNat = cF r by omega]
    refine x_lneg dX12_summedUp_195 ?_
    refine x_goto 212 dX12_summedUp_196 (by decide) ?_
    refine x_lastore dX12_summedUp_212 (k_ar_313 cs) (by omega) (by omega) ?_
    refine x_goto 400 dX12_summedUp_213 (by decide) ?_
    refine x_sub [0, 1, 2, 3, 4, 5] rfl ?_
    rw [show ((cF r : Int) + 1 - 1).toNat = cF r by omega]
    first
      | (have hz : cd (f + k) / 16384 = 2 := by omega
         refine hK _ (false :: r) (EvI_next hE hts (by rw [htk]; simp only [List.length_cons]; omega) g5 (v := -(J 313 (cF r))) ?_ (fun j hj => by rw [uI_o (by omega)]) (fun j hj => by rw [uI_row (by omega)]) (by rw [if_neg (by decide), uI_s])) Fe.v
         rw [htk, if_neg (by omega), hz, wo_2, g1]
         exact clip_id (by omega))
      | (have hz : cd (f + k) / 16384 = 3 := by omega
         refine hK _ (false :: r) (EvI_next hE hts (by rw [htk]; simp only [List.length_cons]; omega) g5 (v := woF A 3 (J 313 (cF r)) 0 0) ?_ (fun j hj => by rw [uI_o (by omega)]) (fun j hj => by rw [uI_row (by omega)]) (by rw [if_neg (by decide), uI_s])) Fe.v
         have h2 := hh (J 313 (cF r))
         rw [htk, if_neg (by omega), hz, show woF A 3 ((rnF nm A cd f z0 k).1 r.length) ((rnF nm A cd f z0 k).1 (r.length + 1)) ((rnF nm A cd f z0 k).1 (r.length + 2)) = woF A 3 (J 313 (cF r)) 0 0 by rw [g1]; rfl]
         exact clip_id (by omega))
theorem bk223_sum {nm cd : Nat → Int} {f k x c0 i : Nat} {J : CI} {r : List Bool} (cs : CS S R) (hcd : 0 ≤ cd (f + k) ∧ cd (f + k) < 311296) (hl : r.length ≤ 300)  (hE : EvI nm A cd f k J (false :: false :: r)) (hn : 2 ≤ n) (hop : 5 ≤ cd (f + k) / 16384 ∧ cd (f + k) / 16384 ≤ 9) (hts : tyS (cd (f + k) / 16384) (false :: false :: r) = some (false :: r)) (hvb : ∀ j, j < cF r + 2 → -1000000 ≤ J 313 j ∧ J 313 j ≤ 1000000) (hK : ∀ J' ty', EvI nm A cd f (k + 1) J' ty' → Fe J J' → WP n 0 0 mX12_summedUp Post 400 [(0, .ref (S.2.1 306)), (3, .int (iI (x : Int))), (4, .int (iI (c0 : Int))), (5, .int (iI ((cF ty' : Int)))), (6, .int (iI ((cT ty' : Int)))), (7, .int (iI (i : Int)))] [] 0 0 S J' R) : WP n 0 0 mX12_summedUp Post 223 [(0, .ref (S.2.1 306)), (3, .int (iI (x : Int))), (4, .int (iI (c0 : Int))), (5, .int (iI ((cF r : Int) + 2))), (6, .int (iI ((cT r : Int)))), (7, .int (iI (i : Int))), (8, .int (iI (omp (cd (f + k) / 16384)))), (9, .int (iI (cd (f + k) % 16384)))] [] 0 0 S J R := by
  have hom := omp_r (op := cd (f + k) / 16384) (by omega)
  have hcft := cFT r
  have hcf : cF r ≤ 300 := by omega
  have hct : cT r ≤ 300 := by omega
  have htk : tkn (cd (f + k) / 16384) = 2 := by unfold tkn; rw [if_neg (by omega), if_neg (by omega), if_pos (by omega)]
  obtain ⟨g1, g2, g5⟩ := hE.2.2
  have g1' : (rnF nm A cd f z0 k).1 (r.length + 1) = J 313 (cF r + 1) := g1
  have hb1 := hvb (cF r) (by omega)
  have hb2 := hvb (cF r + 1) (by omega)
  have hre : -1000000 ≤ woF A 9 (J 313 (cF r)) (J 313 (cF r + 1)) 0 ∧ woF A 9 (J 313 (cF r)) (J 313 (cF r + 1)) 0 ≤ 1000000 := by
    rw [wo_9]
    by_cases hy0 : J 313 (cF r + 1) = 0
    · rw [if_pos hy0]; omega
    · rw [if_neg hy0]
      have q1 := Int.emod_nonneg (if J 313 (cF r) < 0 then -(J 313 (cF r)) else J 313 (cF r)) (show (if J 313 (cF r + 1) < 0 then -(J 313 (cF r + 1)) else J 313 (cF r + 1)) ≠ 0 by split <;> omega)
      have q2 := Int.emod_lt_of_pos (if J 313 (cF r) < 0 then -(J 313 (cF r)) else J 313 (cF r)) (show 0 < (if J 313 (cF r + 1) < 0 then -(J 313 (cF r + 1)) else J 313 (cF r + 1)) by split <;> omega)
      have q3 : (if J 313 (cF r + 1) < 0 then -(J 313 (cF r + 1)) else J 313 (cF r + 1)) ≤ 1000000 := by split <;> omega
      omega
  refine x_iinc (lv2 := [(5, _), (0, _), (3, _), (4, _), (6, _), (7, _), (8, _), (9, _)]) dX12_summedUp_223 rfl (by decide) rfl ?_
  refine x_aload_n dX12_summedUp_226 rfl ?_
  refine x_getR (b := 313) dX12_summedUp_227 gf_RX12_35 (k_ob_306 cs) (fun _ _ => rfl) (k_r_306_21 cs) ?_
  refine x_iload dX12_summedUp_230 rfl ?_
  refine x_iconst dX12_summedUp_232 ?_
  refine x_isub dX12_summedUp_233 ?_
  refine x_iload dX12_summedUp_234 rfl ?_
  refine x_iconst dX12_summedUp_236 ?_
  refine x_icmp_ne 262 dX12_summedUp_237 (by decide) ⟨(by omega), (by omega)⟩ (fun w237 => ?_) (fun w237 => ?_)
  · refine x_iload dX12_summedUp_262 rfl ?_
    refine x_aload_n dX12_summedUp_264 rfl ?_
    refine x_getR (b := 313) dX12_summedUp_265 gf_RX12_35 (k_ob_306 cs) (fun _ _ => rfl) (k_r_306_21 cs) ?_
    refine x_iload dX12_summedUp_268 rfl ?_
    refine x_iconst dX12_summedUp_270 ?_
    refine x_isub dX12_summedUp_271 ?_
    refine x_laload dX12_summedUp_272 (k_ar_313 cs) (by omega) (by omega) ?_
    refine x_aload_n dX12_summedUp_273 rfl ?_
    refine x_getR (b := 313) dX12_summedUp_274 gf_RX12_35 (k_ob_306 cs) (fun _ _ => rfl) (k_r_306_21 cs) ?_
    refine x_iload dX12_summedUp_277 rfl ?_
    refine x_laload dX12_summedUp_279 (k_ar_313 cs) (by omega) (by omega) ?_
    refine x_callS3 (mc1 := 0) (ms1 := 0) dX12_summedUp_280 cv_RX12_291 (Nat.le_of_ble_eq_true rfl) (n1 := n - 1) (by omega) (by omega) (by omega) ?_
    rw [show ((cF r : Int) + 2 + -1).toNat = cF r + 1 by omega, show ((cF r : Int) + 2 + -1 - 1).toNat = cF r by omega]
    refine sp_X12_two (A := A) (by omega) hb1 hb2 (by omega) ?_
    refine x_lastore dX12_summedUp_283 (k_ar_313 cs) (by omega) (by omega) ?_
    refine x_goto 400 dX12_summedUp_284 (by decide) ?_
    refine x_sub [1, 2, 3, 0, 4, 5] rfl ?_
    rw [show ((cF r : Int) + 2 + -1) = ((cF (false :: r) : Nat) : Int) by show _ = ((cF r + 1 : Nat) : Int); omega, show (((cF (false :: r) : Nat) : Int) - 1).toNat = cF r by show (((cF r + 1 : Nat) : Int) - 1).toNat = cF r; omega]
    first
      | (have hz : cd (f + k) / 16384 = 9 := by omega
         refine hK _ (false :: r) (EvI_next hE hts (by rw [htk]; simp only [List.length_cons]; omega) g5 (v := woF A 9 (J 313 (cF r)) (J 313 (cF r + 1)) 0) ?_ (fun j hj => by rw [uI_o (by omega)]) (fun j hj => by rw [uI_row (by omega)]) (by rw [if_neg (by decide), uI_s])) Fe.v
         rw [htk, if_neg (by omega), hz, show woF A 9 ((rnF nm A cd f z0 k).1 r.length) ((rnF nm A cd f z0 k).1 (r.length + 1)) ((rnF nm A cd f z0 k).1 (r.length + 2)) = woF A 9 (J 313 (cF r)) (J 313 (cF r + 1)) 0 by rw [g1', g2]; rfl]
         exact clip_id hre)
      | (have hz : omp (cd (f + k) / 16384) = cd (f + k) / 16384 + 1 := by omega
         refine hK _ (false :: r) (EvI_next hE hts (by rw [htk]; simp only [List.length_cons]; omega) g5 (v := clipI (woF A (omp (cd (f + k) / 16384) - 1) (J 313 (cF r)) (J 313 (cF r + 1)) 0)) ?_ (fun j hj => by rw [uI_o (by omega)]) (fun j hj => by rw [uI_row (by omega)]) (by rw [if_neg (by decide), uI_s])) Fe.v
         rw [htk, if_neg (by omega), hz, show cd (f + k) / 16384 + 1 - 1 = cd (f + k) / 16384 by omega, g1', g2]
         congr 1
         exact wo_cong (by omega) rfl (fun _ => rfl) (fun h => by exfalso; omega))
  · refine x_aload_n dX12_summedUp_240 rfl ?_
    refine x_getR (b := 313) dX12_summedUp_241 gf_RX12_35 (k_ob_306 cs) (fun _ _ => rfl) (k_r_306_21 cs) ?_
    refine x_iload dX12_summedUp_244 rfl ?_
    refine x_iconst dX12_summedUp_246 ?_
    refine x_isub dX12_summedUp_247 ?_
    refine x_laload dX12_summedUp_248 (k_ar_313 cs) (by omega) (by omega) ?_
    refine x_aload_n dX12_summedUp_249 rfl ?_
    refine x_getR (b := 313) dX12_summedUp_250 gf_RX12_35 (k_ob_306 cs) (fun _ _ => rfl) (k_r_306_21 cs) ?_
    refine x_iload dX12_summedUp_253 rfl ?_
    refine x_laload dX12_summedUp_255 (k_ar_313 cs) (by omega) (by omega) ?_
    refine x_callS2 (mc1 := 0) (ms1 := 0) dX12_summedUp_256 cv_RX12_287 (Nat.le_of_ble_eq_true rfl) (n1 := n - 1) (by omega) (by omega) (by omega) ?_
    rw [show ((cF r : Int) + 2 + -1).toNat = cF r + 1 by omega, show ((cF r : Int) + 2 + -1 - 1).toNat = cF r by omega]
    refine sp_X12_restOf (A := A) hb1 hb2 ?_
    refine x_goto 283 dX12_summedUp_259 (by decide) ?_
    refine x_lastore dX12_summedUp_283 (k_ar_313 cs) (by omega) (by omega) ?_
    refine x_goto 400 dX12_summedUp_284 (by decide) ?_
    refine x_sub [1, 2, 3, 0, 4, 5] rfl ?_
    rw [show ((cF r : Int) + 2 + -1) = ((cF (false :: r) : Nat) : Int) by show _ = ((cF r + 1 : Nat) : Int); omega, show (((cF (false :: r) : Nat) : Int) - 1).toNat = cF r by show (((cF r + 1 : Nat) : Int) - 1).toNat = cF r; omega]
    first
      | (have hz : cd (f + k) / 16384 = 9 := by omega
         refine hK _ (false :: r) (EvI_next hE hts (by rw [htk]; simp only [List.length_cons]; omega) g5 (v := woF A 9 (J 313 (cF r)) (J 313 (cF r + 1)) 0) ?_ (fun j hj => by rw [uI_o (by omega)]) (fun j hj => by rw [uI_row (by omega)]) (by rw [if_neg (by decide), uI_s])) Fe.v
         rw [htk, if_neg (by omega), hz, show woF A 9 ((rnF nm A cd f z0 k).1 r.length) ((rnF nm A cd f z0 k).1 (r.length + 1)) ((rnF nm A cd f z0 k).1 (r.length + 2)) = woF A 9 (J 313 (cF r)) (J 313 (cF r + 1)) 0 by rw [g1', g2]; rfl]
         exact clip_id hre)
      | (have hz : omp (cd (f + k) / 16384) = cd (f + k) / 16384 + 1 := by omega
         refine hK _ (false :: r) (EvI_next hE hts (by rw [htk]; simp only [List.length_cons]; omega) g5 (v := clipI (woF A (omp (cd (f + k) / 16384) - 1) (J 313 (cF r)) (J 313 (cF r + 1)) 0)) ?_ (fun j hj => by rw [uI_o (by omega)]) (fun j hj => by rw [uI_row (by omega)]) (by rw [if_neg (by decide), uI_s])) Fe.v
         rw [htk, if_neg (by omega), hz, show cd (f + k) / 16384 + 1 - 1 = cd (f + k) / 16384 by omega, g1', g2]
         congr 1
         exact wo_cong (by omega) rfl (fun _ => rfl) (fun h => by exfalso; omega))
theorem bk294_sum {nm cd : Nat → Int} {f k x c0 i : Nat} {J : CI} {r : List Bool} (cs : CS S R) (hcd : 0 ≤ cd (f + k) ∧ cd (f + k) < 311296) (hl : r.length ≤ 300)  (hE : EvI nm A cd f k J (false :: false :: r)) (hn : 2 ≤ n) (hop : 10 ≤ cd (f + k) / 16384 ∧ cd (f + k) / 16384 ≤ 15) (hts : tyS (cd (f + k) / 16384) (false :: false :: r) = some (true :: r)) (hvb : ∀ j, j < cF r + 2 → -1000000 ≤ J 313 j ∧ J 313 j ≤ 1000000) (hK : ∀ J' ty', EvI nm A cd f (k + 1) J' ty' → Fe J J' → WP n 0 0 mX12_summedUp Post 400 [(0, .ref (S.2.1 306)), (3, .int (iI (x : Int))), (4, .int (iI (c0 : Int))), (5, .int (iI ((cF ty' : Int)))), (6, .int (iI ((cT ty' : Int)))), (7, .int (iI (i : Int)))] [] 0 0 S J' R) : WP n 0 0 mX12_summedUp Post 294 [(0, .ref (S.2.1 306)), (3, .int (iI (x : Int))), (4, .int (iI (c0 : Int))), (5, .int (iI ((cF r : Int) + 2))), (6, .int (iI ((cT r : Int)))), (7, .int (iI (i : Int))), (8, .int (iI (omp (cd (f + k) / 16384)))), (9, .int (iI (cd (f + k) % 16384)))] [] 0 0 S J R := by
  have hom := omp_r (op := cd (f + k) / 16384) (by omega)
  have hcft := cFT r
  have hcf : cF r ≤ 300 := by omega
  have hct : cT r ≤ 300 := by omega
  have htk : tkn (cd (f + k) / 16384) = 2 := by unfold tkn; rw [if_neg (by omega), if_neg (by omega), if_pos (by omega)]
  obtain ⟨g1, g2, g5⟩ := hE.2.2
  have g1' : (rnF nm A cd f z0 k).1 (r.length + 1) = J 313 (cF r + 1) := g1
  have hb1 := hvb (cF r) (by omega)
  have hb2 := hvb (cF r + 1) (by omega)
  refine x_iinc (lv2 := [(5, _), (0, _), (3, _), (4, _), (6, _), (7, _), (8, _), (9, _)]) dX12_summedUp_294 rfl (by decide) rfl ?_
  refine x_aload_n dX12_summedUp_297 rfl ?_
  refine x_getR (b := 314) dX12_summedUp_298 gf_RX12_39 (k_ob_306 cs) (fun _ _ => rfl) (k_r_306_22 cs) ?_
  refine x_iload dX12_summedUp_301 rfl ?_
  refine x_iload dX12_summedUp_303 rfl ?_
  refine x_aload_n dX12_summedUp_305 rfl ?_
  refine x_getR (b := 313) dX12_summedUp_306 gf_RX12_35 (k_ob_306 cs) (fun _ _ => rfl) (k_r_306_21 cs) ?_
  refine x_iload dX12_summedUp_309 rfl ?_
  refine x_laload dX12_summedUp_311 (k_ar_313 cs) (by omega) (by omega) ?_
  refine x_aload_n dX12_summedUp_312 rfl ?_
  refine x_getR (b := 313) dX12_summedUp_313 gf_RX12_35 (k_ob_306 cs) (fun _ _ => rfl) (k_r_306_21 cs) ?_
  refine x_iload dX12_summedUp_316 rfl ?_
  refine x_iconst dX12_summedUp_318 ?_
  refine x_iadd dX12_summedUp_319 ?_
  refine x_laload dX12_summedUp_320 (k_ar_313 cs) (by omega) (by omega) ?_
  refine x_callS3 (mc1 := 0) (ms1 := 0) dX12_summedUp_321 cv_RX12_295 (Nat.le_of_ble_eq_true rfl) (n1 := n - 1) (by omega) (by omega) (by omega) ?_
  rw [show ((cF r : Int) + 2 + -2 + 1).toNat = cF r + 1 by omega, show ((cF r : Int) + 2 + -2).toNat = cF r by omega]
  refine sp_X12_isAsked (A := A) (by omega) hb1 hb2 (fun r321 hr321 h321 => ?_)
  refine x_zastore dX12_summedUp_324 (k_ar_314 cs) (by omega) (by omega) (by omega) ?_
  refine x_iinc (lv2 := [(6, _), (5, _), (0, _), (3, _), (4, _), (7, _), (8, _), (9, _)]) dX12_summedUp_325 rfl (by decide) rfl ?_
  refine x_goto 400 dX12_summedUp_328 (by decide) ?_
  refine x_sub [2, 3, 4, 1, 0, 5] rfl ?_
  rw [tN, show ((cF r : Int) + 2 + -2) = ((cF (true :: r) : Nat) : Int) by show _ = ((cF r : Nat) : Int); omega]
  refine hK _ (true :: r) (EvI_next hE hts (by rw [htk]; simp only [List.length_cons]; omega) g5 (v := r321) ?_ (fun j hj => by rw [uI_row (by omega)]) (fun j hj => by rw [uI_o (by omega)]) (by rw [if_pos rfl, uI_s]; exact ⟨rfl, h321⟩)) Fe.w
  rw [htk, if_neg (by omega), hr321, show omp (cd (f + k) / 16384) = cd (f + k) / 16384 by omega, g1', g2]
  rw [show woF A (cd (f + k) / 16384) (J 313 (cF r)) (J 313 (cF r + 1)) ((rnF nm A cd f z0 k).1 (r.length + 2)) = woF A (cd (f + k) / 16384) (J 313 (cF r)) (J 313 (cF r + 1)) 0 from wo_cong (by omega) rfl (fun _ => rfl) (fun h => by exfalso; omega)]
  rw [show omp (cd (f + k) / 16384) = cd (f + k) / 16384 by omega] at hr321
  rw [← hr321]
  exact clip_id (by omega)
theorem bk338_sum {nm cd : Nat → Int} {f k x c0 i : Nat} {J : CI} {r : List Bool} (cs : CS S R) (hcd : 0 ≤ cd (f + k) ∧ cd (f + k) < 311296) (hl : r.length ≤ 300)  (hE : EvI nm A cd f k J (true :: r)) (hop : cd (f + k) / 16384 = 4) (hts : tyS (cd (f + k) / 16384) (true :: r) = some (true :: r)) (hK : ∀ J' ty', EvI nm A cd f (k + 1) J' ty' → Fe J J' → WP n 0 0 mX12_summedUp Post 400 [(0, .ref (S.2.1 306)), (3, .int (iI (x : Int))), (4, .int (iI (c0 : Int))), (5, .int (iI ((cF ty' : Int)))), (6, .int (iI ((cT ty' : Int)))), (7, .int (iI (i : Int)))] [] 0 0 S J' R) : WP n 0 0 mX12_summedUp Post 338 [(0, .ref (S.2.1 306)), (3, .int (iI (x : Int))), (4, .int (iI (c0 : Int))), (5, .int (iI ((cF r : Int)))), (6, .int (iI ((cT r : Int) + 1))), (7, .int (iI (i : Int))), (8, .int (iI (omp (cd (f + k) / 16384)))), (9, .int (iI (cd (f + k) % 16384)))] [] 0 0 S J R := by
  have hom := omp_r (op := cd (f + k) / 16384) (by omega)
  have hcft := cFT r
  have hcf : cF r ≤ 300 := by omega
  have hct : cT r ≤ 300 := by omega
  have htk : tkn (cd (f + k) / 16384) = 1 := by rw [hop]; rfl
  obtain ⟨⟨g1, g2⟩, g5⟩ := hE.2.2
  refine x_aload_n dX12_summedUp_338 rfl ?_
  refine x_getR (b := 314) dX12_summedUp_339 gf_RX12_39 (k_ob_306 cs) (fun _ _ => rfl) (k_r_306_22 cs) ?_
  refine x_iload dX12_summedUp_342 rfl ?_
  refine x_iconst dX12_summedUp_344 ?_
  refine x_isub dX12_summedUp_345 ?_
  refine x_aload_n dX12_summedUp_346 rfl ?_
  refine x_getR (b := 314) dX12_summedUp_347 gf_RX12_39 (k_ob_306 cs) (fun _ _ => rfl) (k_r_306_22 cs) ?_
  refine x_iload dX12_summedUp_350 rfl ?_
  refine x_iconst dX12_summedUp_352 ?_
  refine x_isub dX12_summedUp_353 ?_
  refine x_zaload dX12_summedUp_354 (k_ar_314 cs) (by omega) (by omega) ?_
  rw [show ((cT r : Int) + 1 - 1).toNat = cT r by omega]
  refine x_if_ne 362 dX12_summedUp_355 (by decide) (by omega) (fun w355 => ?_) (fun w355 => ?_)
  · refine x_iconst dX12_summedUp_362 ?_
    refine x_zastore dX12_summedUp_363 (k_ar_314 cs) (by omega) (by omega) (by omega) ?_
    refine x_goto 400 dX12_summedUp_364 (by decide) ?_
    refine x_sub [0, 1, 2, 3, 4, 5] rfl ?_
    rw [show ((cT r : Int) + 1 - 1).toNat = cT r by omega]
    first
      | (refine hK _ (true :: r) (EvI_next hE hts (by rw [htk]; simp only [List.length_cons]; omega) g5 (v := 1) ?_ (fun j hj => by rw [uI_row (by omega)]) (fun j hj => by rw [uI_o (by omega)]) (by rw [if_pos rfl, uI_s]; exact ⟨rfl, Or.inr rfl⟩)) Fe.w
         rw [htk, if_neg (by omega), hop, wo_4, g1, show J 314 (cT r) = 0 by omega]
         rfl)
      | (refine hK _ (true :: r) (EvI_next hE hts (by rw [htk]; simp only [List.length_cons]; omega) g5 (v := 0) ?_ (fun j hj => by rw [uI_row (by omega)]) (fun j hj => by rw [uI_o (by omega)]) (by rw [if_pos rfl, uI_s]; exact ⟨rfl, Or.inl rfl⟩)) Fe.w
         rw [htk, if_neg (by omega), hop, wo_4, g1, show J 314 (cT r) = 1 by omega]
         rfl)
  · refine x_iconst dX12_summedUp_358 ?_
    refine x_goto 363 dX12_summedUp_359 (by decide) ?_
    refine x_zastore dX12_summedUp_363 (k_ar_314 cs) (by omega) (by omega) (by omega) ?_
    refine x_goto 400 dX12_summedUp_364 (by decide) ?_
    refine x_sub [0, 1, 2, 3, 4, 5] rfl ?_
    rw [show ((cT r : Int) + 1 - 1).toNat = cT r by omega]
    first
      | (refine hK _ (true :: r) (EvI_next hE hts (by rw [htk]; simp only [List.length_cons]; omega) g5 (v := 1) ?_ (fun j hj => by rw [uI_row (by omega)]) (fun j hj => by rw [uI_o (by omega)]) (by rw [if_pos rfl, uI_s]; exact ⟨rfl, Or.inr rfl⟩)) Fe.w
         rw [htk, if_neg (by omega), hop, wo_4, g1, show J 314 (cT r) = 0 by omega]
         rfl)
      | (refine hK _ (true :: r) (EvI_next hE hts (by rw [htk]; simp only [List.length_cons]; omega) g5 (v := 0) ?_ (fun j hj => by rw [uI_row (by omega)]) (fun j hj => by rw [uI_o (by omega)]) (by rw [if_pos rfl, uI_s]; exact ⟨rfl, Or.inl rfl⟩)) Fe.w
         rw [htk, if_neg (by omega), hop, wo_4, g1, show J 314 (cT r) = 1 by omega]
         rfl)
theorem bk367_sum {nm cd : Nat → Int} {f k x c0 i : Nat} {J : CI} {r : List Bool} (cs : CS S R) (hcd : 0 ≤ cd (f + k) ∧ cd (f + k) < 311296) (hl : r.length ≤ 300)  (hE : EvI nm A cd f k J (true :: true :: r)) (hn : 2 ≤ n) (hop : 16 ≤ cd (f + k) / 16384 ∧ cd (f + k) / 16384 ≤ 17) (hts : tyS (cd (f + k) / 16384) (true :: true :: r) = some (true :: r)) (hK : ∀ J' ty', EvI nm A cd f (k + 1) J' ty' → Fe J J' → WP n 0 0 mX12_summedUp Post 400 [(0, .ref (S.2.1 306)), (3, .int (iI (x : Int))), (4, .int (iI (c0 : Int))), (5, .int (iI ((cF ty' : Int)))), (6, .int (iI ((cT ty' : Int)))), (7, .int (iI (i : Int)))] [] 0 0 S J' R) : WP n 0 0 mX12_summedUp Post 367 [(0, .ref (S.2.1 306)), (3, .int (iI (x : Int))), (4, .int (iI (c0 : Int))), (5, .int (iI ((cF r : Int)))), (6, .int (iI ((cT r : Int) + 2))), (7, .int (iI (i : Int))), (8, .int (iI (omp (cd (f + k) / 16384)))), (9, .int (iI (cd (f + k) % 16384)))] [] 0 0 S J R := by
  have hom := omp_r (op := cd (f + k) / 16384) (by omega)
  have hcft := cFT r
  have hcf : cF r ≤ 300 := by omega
  have hct : cT r ≤ 300 := by omega
  have htk : tkn (cd (f + k) / 16384) = 2 := by unfold tkn; rw [if_neg (by omega), if_neg (by omega), if_pos (by omega)]
  obtain ⟨⟨g1, g2⟩, ⟨g3, g4⟩, g5⟩ := hE.2.2
  have g1' : (rnF nm A cd f z0 k).1 (r.length + 1) = J 314 (cT r + 1) := g1
  have g2' : J 314 (cT r + 1) = 0 ∨ J 314 (cT r + 1) = 1 := g2
  refine x_iinc (lv2 := [(6, _), (0, _), (3, _), (4, _), (5, _), (7, _), (8, _), (9, _)]) dX12_summedUp_367 rfl (by decide) rfl ?_
  refine x_aload_n dX12_summedUp_370 rfl ?_
  refine x_getR (b := 314) dX12_summedUp_371 gf_RX12_39 (k_ob_306 cs) (fun _ _ => rfl) (k_r_306_22 cs) ?_
  refine x_iload dX12_summedUp_374 rfl ?_
  refine x_iconst dX12_summedUp_376 ?_
  refine x_isub dX12_summedUp_377 ?_
  refine x_iload dX12_summedUp_378 rfl ?_
  refine x_aload_n dX12_summedUp_380 rfl ?_
  refine x_getR (b := 314) dX12_summedUp_381 gf_RX12_39 (k_ob_306 cs) (fun _ _ => rfl) (k_r_306_22 cs) ?_
  refine x_iload dX12_summedUp_384 rfl ?_
  refine x_iconst dX12_summedUp_386 ?_
  refine x_isub dX12_summedUp_387 ?_
  refine x_zaload dX12_summedUp_388 (k_ar_314 cs) (by omega) (by omega) ?_
  refine x_aload_n dX12_summedUp_389 rfl ?_
  refine x_getR (b := 314) dX12_summedUp_390 gf_RX12_39 (k_ob_306 cs) (fun _ _ => rfl) (k_r_306_22 cs) ?_
  refine x_iload dX12_summedUp_393 rfl ?_
  refine x_zaload dX12_summedUp_395 (k_ar_314 cs) (by omega) (by omega) ?_
  refine x_callS3 (mc1 := 0) (ms1 := 0) dX12_summedUp_396 cv_RX12_299 (Nat.le_of_ble_eq_true rfl) (n1 := n - 1) (by omega) (by omega) (by omega) ?_
  rw [show ((cT r : Int) + 2 + -1).toNat = cT r + 1 by omega, show ((cT r : Int) + 2 + -1 - 1).toNat = cT r by omega]
  refine sp_X12_joined (A := A) (by omega) g4 g2' (fun r396 hr396 h396 => ?_)
  refine x_zastore dX12_summedUp_399 (k_ar_314 cs) (by omega) (by omega) (by omega) ?_
  refine x_sub [1, 2, 3, 4, 0, 5] rfl ?_
  rw [show ((cT r : Int) + 2 + -1) = ((cT (true :: r) : Nat) : Int) by show _ = ((cT r + 1 : Nat) : Int); omega, show (((cT (true :: r) : Nat) : Int) - 1).toNat = cT r by show (((cT r + 1 : Nat) : Int) - 1).toNat = cT r; omega]
  refine hK _ (true :: r) (EvI_next hE hts (by rw [htk]; simp only [List.length_cons]; omega) g5 (v := r396) ?_ (fun j hj => by rw [uI_row (by omega)]) (fun j hj => by rw [uI_o (by omega)]) (by rw [if_pos rfl, uI_s]; exact ⟨rfl, h396⟩)) Fe.w
  rw [show omp (cd (f + k) / 16384) - 5 = cd (f + k) / 16384 by omega] at hr396
  rw [htk, if_neg (by omega), hr396, g1', g3]
  rw [show woF A (cd (f + k) / 16384) (J 314 (cT r)) (J 314 (cT r + 1)) ((rnF nm A cd f z0 k).1 (r.length + 2)) = woF A (cd (f + k) / 16384) (J 314 (cT r)) (J 314 (cT r + 1)) 0 from wo_cong (by omega) rfl (fun _ => rfl) (fun h => by exfalso; omega)]
  rw [← hr396]
  exact clip_id (by omega)
end Ref7
