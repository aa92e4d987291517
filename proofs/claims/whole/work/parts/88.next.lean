section Next
variable {n mc ms : Nat} {M : Md} {pc : Nat} {lv : List (Nat × Value)} {st : List Value} {k j : Nat} {Post : PT} {S : Sh} {I : CI} {R : CR} {A : Nat → Int} {tx : Nat → Nat → Int}
theorem dX12_nextToken_0 : decode prog_14_method_27_code 0 = .ok (.aload_n 0, 1) := by decide +kernel
theorem dX12_nextToken_1 : decode prog_14_method_27_code 1 = .ok (.aload_n 0, 1) := by decide +kernel
theorem dX12_nextToken_2 : decode prog_14_method_27_code 2 = .ok (.getfield 106, 3) := by decide +kernel
theorem dX12_nextToken_5 : decode prog_14_method_27_code 5 = .ok (.invokevirtual 109, 3) := by decide +kernel
theorem dX12_nextToken_8 : decode prog_14_method_27_code 8 = .ok (.bipush 32, 2) := by decide +kernel
theorem dX12_nextToken_10 : decode prog_14_method_27_code 10 = .ok (.if_icmp .eq 16, 3) := by decide +kernel
theorem dX12_nextToken_13 : decode prog_14_method_27_code 13 = .ok (.aload_n 0, 1) := by decide +kernel
theorem dX12_nextToken_14 : decode prog_14_method_27_code 14 = .ok (.aload_n 0, 1) := by decide +kernel
theorem dX12_nextToken_15 : decode prog_14_method_27_code 15 = .ok (.getfield 106, 3) := by decide +kernel
theorem dX12_nextToken_18 : decode prog_14_method_27_code 18 = .ok (.invokevirtual 109, 3) := by decide +kernel
theorem dX12_nextToken_21 : decode prog_14_method_27_code 21 = .ok (.bipush 10, 2) := by decide +kernel
theorem dX12_nextToken_23 : decode prog_14_method_27_code 23 = .ok (.if_icmp .ne 16, 3) := by decide +kernel
theorem dX12_nextToken_26 : decode prog_14_method_27_code 26 = .ok (.aload_n 0, 1) := by decide +kernel
theorem dX12_nextToken_27 : decode prog_14_method_27_code 27 = .ok (.dup, 1) := by decide +kernel
theorem dX12_nextToken_28 : decode prog_14_method_27_code 28 = .ok (.getfield 106, 3) := by decide +kernel
theorem dX12_nextToken_31 : decode prog_14_method_27_code 31 = .ok (.iconst 1, 1) := by decide +kernel
theorem dX12_nextToken_32 : decode prog_14_method_27_code 32 = .ok (.iadd, 1) := by decide +kernel
theorem dX12_nextToken_33 : decode prog_14_method_27_code 33 = .ok (.putfield 106, 3) := by decide +kernel
theorem dX12_nextToken_36 : decode prog_14_method_27_code 36 = .ok (.goto (-36), 3) := by decide +kernel
theorem dX12_nextToken_39 : decode prog_14_method_27_code 39 = .ok (.aload_n 0, 1) := by decide +kernel
theorem dX12_nextToken_40 : decode prog_14_method_27_code 40 = .ok (.aload_n 0, 1) := by decide +kernel
theorem dX12_nextToken_41 : decode prog_14_method_27_code 41 = .ok (.getfield 106, 3) := by decide +kernel
theorem dX12_nextToken_44 : decode prog_14_method_27_code 44 = .ok (.putfield 112, 3) := by decide +kernel
theorem dX12_nextToken_47 : decode prog_14_method_27_code 47 = .ok (.aload_n 0, 1) := by decide +kernel
theorem dX12_nextToken_48 : decode prog_14_method_27_code 48 = .ok (.aload_n 0, 1) := by decide +kernel
theorem dX12_nextToken_49 : decode prog_14_method_27_code 49 = .ok (.getfield 106, 3) := by decide +kernel
theorem dX12_nextToken_52 : decode prog_14_method_27_code 52 = .ok (.invokevirtual 109, 3) := by decide +kernel
theorem dX12_nextToken_55 : decode prog_14_method_27_code 55 = .ok (.istore_n 1, 1) := by decide +kernel
theorem dX12_nextToken_56 : decode prog_14_method_27_code 56 = .ok (.iload_n 1, 1) := by decide +kernel
theorem dX12_nextToken_57 : decode prog_14_method_27_code 57 = .ok (.ifCond .ge 11, 3) := by decide +kernel
theorem dX12_nextToken_60 : decode prog_14_method_27_code 60 = .ok (.aload_n 0, 1) := by decide +kernel
theorem dX12_nextToken_61 : decode prog_14_method_27_code 61 = .ok (.iconst 0, 1) := by decide +kernel
theorem dX12_nextToken_62 : decode prog_14_method_27_code 62 = .ok (.putfield 115, 3) := by decide +kernel
theorem dX12_nextToken_65 : decode prog_14_method_27_code 65 = .ok (.goto 245, 3) := by decide +kernel
theorem dX12_nextToken_68 : decode prog_14_method_27_code 68 = .ok (.iload_n 1, 1) := by decide +kernel
theorem dX12_nextToken_69 : decode prog_14_method_27_code 69 = .ok (.invokestatic 118, 3) := by decide +kernel
theorem dX12_nextToken_72 : decode prog_14_method_27_code 72 = .ok (.ifCond .eq 79, 3) := by decide +kernel
theorem dX12_nextToken_75 : decode prog_14_method_27_code 75 = .ok (.aload_n 0, 1) := by decide +kernel
theorem dX12_nextToken_76 : decode prog_14_method_27_code 76 = .ok (.iconst 1, 1) := by decide +kernel
theorem dX12_nextToken_77 : decode prog_14_method_27_code 77 = .ok (.putfield 115, 3) := by decide +kernel
theorem dX12_nextToken_80 : decode prog_14_method_27_code 80 = .ok (.aload_n 0, 1) := by decide +kernel
theorem dX12_nextToken_81 : decode prog_14_method_27_code 81 = .ok (.iconst 0, 1) := by decide +kernel
theorem dX12_nextToken_82 : decode prog_14_method_27_code 82 = .ok (.putfield 121, 3) := by decide +kernel
theorem dX12_nextToken_85 : decode prog_14_method_27_code 85 = .ok (.aload_n 0, 1) := by decide +kernel
theorem dX12_nextToken_86 : decode prog_14_method_27_code 86 = .ok (.aload_n 0, 1) := by decide +kernel
theorem dX12_nextToken_87 : decode prog_14_method_27_code 87 = .ok (.getfield 106, 3) := by decide +kernel
theorem dX12_nextToken_90 : decode prog_14_method_27_code 90 = .ok (.invokevirtual 109, 3) := by decide +kernel
theorem dX12_nextToken_93 : decode prog_14_method_27_code 93 = .ok (.invokestatic 118, 3) := by decide +kernel
theorem dX12_nextToken_96 : decode prog_14_method_27_code 96 = .ok (.ifCond .eq 214, 3) := by decide +kernel
theorem dX12_nextToken_99 : decode prog_14_method_27_code 99 = .ok (.aload_n 0, 1) := by decide +kernel
theorem dX12_nextToken_100 : decode prog_14_method_27_code 100 = .ok (.aload_n 0, 1) := by decide +kernel
theorem dX12_nextToken_101 : decode prog_14_method_27_code 101 = .ok (.getfield 121, 3) := by decide +kernel
theorem dX12_nextToken_104 : decode prog_14_method_27_code 104 = .ok (.ldc 124, 2) := by decide +kernel
theorem dX12_nextToken_106 : decode prog_14_method_27_code 106 = .ok (.if_icmp .le 10, 3) := by decide +kernel
theorem dX12_nextToken_109 : decode prog_14_method_27_code 109 = .ok (.aload_n 0, 1) := by decide +kernel
theorem dX12_nextToken_110 : decode prog_14_method_27_code 110 = .ok (.getfield 121, 3) := by decide +kernel
theorem dX12_nextToken_113 : decode prog_14_method_27_code 113 = .ok (.goto 22, 3) := by decide +kernel
theorem dX12_nextToken_116 : decode prog_14_method_27_code 116 = .ok (.bipush 10, 2) := by decide +kernel
theorem dX12_nextToken_118 : decode prog_14_method_27_code 118 = .ok (.aload_n 0, 1) := by decide +kernel
theorem dX12_nextToken_119 : decode prog_14_method_27_code 119 = .ok (.getfield 121, 3) := by decide +kernel
theorem dX12_nextToken_122 : decode prog_14_method_27_code 122 = .ok (.imul, 1) := by decide +kernel
theorem dX12_nextToken_123 : decode prog_14_method_27_code 123 = .ok (.aload_n 0, 1) := by decide +kernel
theorem dX12_nextToken_124 : decode prog_14_method_27_code 124 = .ok (.aload_n 0, 1) := by decide +kernel
theorem dX12_nextToken_125 : decode prog_14_method_27_code 125 = .ok (.getfield 106, 3) := by decide +kernel
theorem dX12_nextToken_128 : decode prog_14_method_27_code 128 = .ok (.invokevirtual 109, 3) := by decide +kernel
theorem dX12_nextToken_131 : decode prog_14_method_27_code 131 = .ok (.iadd, 1) := by decide +kernel
theorem dX12_nextToken_132 : decode prog_14_method_27_code 132 = .ok (.bipush 48, 2) := by decide +kernel
theorem dX12_nextToken_134 : decode prog_14_method_27_code 134 = .ok (.isub, 1) := by decide +kernel
theorem dX12_nextToken_135 : decode prog_14_method_27_code 135 = .ok (.putfield 121, 3) := by decide +kernel
theorem dX12_nextToken_138 : decode prog_14_method_27_code 138 = .ok (.aload_n 0, 1) := by decide +kernel
theorem dX12_nextToken_139 : decode prog_14_method_27_code 139 = .ok (.dup, 1) := by decide +kernel
theorem dX12_nextToken_140 : decode prog_14_method_27_code 140 = .ok (.getfield 106, 3) := by decide +kernel
theorem dX12_nextToken_143 : decode prog_14_method_27_code 143 = .ok (.iconst 1, 1) := by decide +kernel
theorem dX12_nextToken_144 : decode prog_14_method_27_code 144 = .ok (.iadd, 1) := by decide +kernel
theorem dX12_nextToken_145 : decode prog_14_method_27_code 145 = .ok (.putfield 106, 3) := by decide +kernel
theorem dX12_nextToken_148 : decode prog_14_method_27_code 148 = .ok (.goto (-63), 3) := by decide +kernel
theorem dX12_nextToken_151 : decode prog_14_method_27_code 151 = .ok (.iload_n 1, 1) := by decide +kernel
theorem dX12_nextToken_152 : decode prog_14_method_27_code 152 = .ok (.invokestatic 125, 3) := by decide +kernel
theorem dX12_nextToken_155 : decode prog_14_method_27_code 155 = .ok (.ifCond .eq 79, 3) := by decide +kernel
theorem dX12_nextToken_158 : decode prog_14_method_27_code 158 = .ok (.aload_n 0, 1) := by decide +kernel
theorem dX12_nextToken_159 : decode prog_14_method_27_code 159 = .ok (.iconst 2, 1) := by decide +kernel
theorem dX12_nextToken_160 : decode prog_14_method_27_code 160 = .ok (.putfield 115, 3) := by decide +kernel
theorem dX12_nextToken_163 : decode prog_14_method_27_code 163 = .ok (.aload_n 0, 1) := by decide +kernel
theorem dX12_nextToken_164 : decode prog_14_method_27_code 164 = .ok (.lconst 0, 1) := by decide +kernel
theorem dX12_nextToken_165 : decode prog_14_method_27_code 165 = .ok (.putfield 128, 3) := by decide +kernel
theorem dX12_nextToken_168 : decode prog_14_method_27_code 168 = .ok (.aload_n 0, 1) := by decide +kernel
theorem dX12_nextToken_169 : decode prog_14_method_27_code 169 = .ok (.aload_n 0, 1) := by decide +kernel
theorem dX12_nextToken_170 : decode prog_14_method_27_code 170 = .ok (.getfield 106, 3) := by decide +kernel
theorem dX12_nextToken_173 : decode prog_14_method_27_code 173 = .ok (.invokevirtual 109, 3) := by decide +kernel
theorem dX12_nextToken_176 : decode prog_14_method_27_code 176 = .ok (.invokestatic 125, 3) := by decide +kernel
theorem dX12_nextToken_179 : decode prog_14_method_27_code 179 = .ok (.ifCond .eq 131, 3) := by decide +kernel
theorem dX12_nextToken_182 : decode prog_14_method_27_code 182 = .ok (.aload_n 0, 1) := by decide +kernel
theorem dX12_nextToken_183 : decode prog_14_method_27_code 183 = .ok (.aload_n 0, 1) := by decide +kernel
theorem dX12_nextToken_184 : decode prog_14_method_27_code 184 = .ok (.getfield 128, 3) := by decide +kernel
theorem dX12_nextToken_187 : decode prog_14_method_27_code 187 = .ok (.bipush 48, 2) := by decide +kernel
theorem dX12_nextToken_189 : decode prog_14_method_27_code 189 = .ok (.lshr, 1) := by decide +kernel
theorem dX12_nextToken_190 : decode prog_14_method_27_code 190 = .ok (.lconst 0, 1) := by decide +kernel
theorem dX12_nextToken_191 : decode prog_14_method_27_code 191 = .ok (.lcmp, 1) := by decide +kernel
theorem dX12_nextToken_192 : decode prog_14_method_27_code 192 = .ok (.ifCond .eq 9, 3) := by decide +kernel
theorem dX12_nextToken_195 : decode prog_14_method_27_code 195 = .ok (.ldc2_w 132, 3) := by decide +kernel
theorem dX12_nextToken_198 : decode prog_14_method_27_code 198 = .ok (.goto 20, 3) := by decide +kernel
theorem dX12_nextToken_201 : decode prog_14_method_27_code 201 = .ok (.aload_n 0, 1) := by decide +kernel
theorem dX12_nextToken_202 : decode prog_14_method_27_code 202 = .ok (.getfield 128, 3) := by decide +kernel
theorem dX12_nextToken_205 : decode prog_14_method_27_code 205 = .ok (.bipush 8, 2) := by decide +kernel
theorem dX12_nextToken_207 : decode prog_14_method_27_code 207 = .ok (.lshl, 1) := by decide +kernel
theorem dX12_nextToken_208 : decode prog_14_method_27_code 208 = .ok (.aload_n 0, 1) := by decide +kernel
theorem dX12_nextToken_209 : decode prog_14_method_27_code 209 = .ok (.aload_n 0, 1) := by decide +kernel
theorem dX12_nextToken_210 : decode prog_14_method_27_code 210 = .ok (.getfield 106, 3) := by decide +kernel
theorem dX12_nextToken_213 : decode prog_14_method_27_code 213 = .ok (.invokevirtual 109, 3) := by decide +kernel
theorem dX12_nextToken_216 : decode prog_14_method_27_code 216 = .ok (.i2l, 1) := by decide +kernel
theorem dX12_nextToken_217 : decode prog_14_method_27_code 217 = .ok (.lor, 1) := by decide +kernel
theorem dX12_nextToken_218 : decode prog_14_method_27_code 218 = .ok (.putfield 128, 3) := by decide +kernel
theorem dX12_nextToken_221 : decode prog_14_method_27_code 221 = .ok (.aload_n 0, 1) := by decide +kernel
theorem dX12_nextToken_222 : decode prog_14_method_27_code 222 = .ok (.dup, 1) := by decide +kernel
theorem dX12_nextToken_223 : decode prog_14_method_27_code 223 = .ok (.getfield 106, 3) := by decide +kernel
theorem dX12_nextToken_226 : decode prog_14_method_27_code 226 = .ok (.iconst 1, 1) := by decide +kernel
theorem dX12_nextToken_227 : decode prog_14_method_27_code 227 = .ok (.iadd, 1) := by decide +kernel
theorem dX12_nextToken_228 : decode prog_14_method_27_code 228 = .ok (.putfield 106, 3) := by decide +kernel
theorem dX12_nextToken_231 : decode prog_14_method_27_code 231 = .ok (.goto (-63), 3) := by decide +kernel
theorem dX12_nextToken_234 : decode prog_14_method_27_code 234 = .ok (.aload_n 0, 1) := by decide +kernel
theorem dX12_nextToken_235 : decode prog_14_method_27_code 235 = .ok (.iload_n 1, 1) := by decide +kernel
theorem dX12_nextToken_236 : decode prog_14_method_27_code 236 = .ok (.invokestatic 134, 3) := by decide +kernel
theorem dX12_nextToken_239 : decode prog_14_method_27_code 239 = .ok (.ifCond .eq 7, 3) := by decide +kernel
theorem dX12_nextToken_242 : decode prog_14_method_27_code 242 = .ok (.iload_n 1, 1) := by decide +kernel
theorem dX12_nextToken_243 : decode prog_14_method_27_code 243 = .ok (.goto 4, 3) := by decide +kernel
theorem dX12_nextToken_246 : decode prog_14_method_27_code 246 = .ok (.iconst 3, 1) := by decide +kernel
theorem dX12_nextToken_247 : decode prog_14_method_27_code 247 = .ok (.putfield 115, 3) := by decide +kernel
theorem dX12_nextToken_250 : decode prog_14_method_27_code 250 = .ok (.aload_n 0, 1) := by decide +kernel
theorem dX12_nextToken_251 : decode prog_14_method_27_code 251 = .ok (.dup, 1) := by decide +kernel
theorem dX12_nextToken_252 : decode prog_14_method_27_code 252 = .ok (.getfield 106, 3) := by decide +kernel
theorem dX12_nextToken_255 : decode prog_14_method_27_code 255 = .ok (.iconst 1, 1) := by decide +kernel
theorem dX12_nextToken_256 : decode prog_14_method_27_code 256 = .ok (.iadd, 1) := by decide +kernel
theorem dX12_nextToken_257 : decode prog_14_method_27_code 257 = .ok (.putfield 106, 3) := by decide +kernel
theorem dX12_nextToken_260 : decode prog_14_method_27_code 260 = .ok (.iload_n 1, 1) := by decide +kernel
theorem dX12_nextToken_261 : decode prog_14_method_27_code 261 = .ok (.bipush 60, 2) := by decide +kernel
theorem dX12_nextToken_263 : decode prog_14_method_27_code 263 = .ok (.if_icmp .eq 9, 3) := by decide +kernel
theorem dX12_nextToken_266 : decode prog_14_method_27_code 266 = .ok (.iload_n 1, 1) := by decide +kernel
theorem dX12_nextToken_267 : decode prog_14_method_27_code 267 = .ok (.bipush 62, 2) := by decide +kernel
theorem dX12_nextToken_269 : decode prog_14_method_27_code 269 = .ok (.if_icmp .ne 41, 3) := by decide +kernel
theorem dX12_nextToken_272 : decode prog_14_method_27_code 272 = .ok (.aload_n 0, 1) := by decide +kernel
theorem dX12_nextToken_273 : decode prog_14_method_27_code 273 = .ok (.aload_n 0, 1) := by decide +kernel
theorem dX12_nextToken_274 : decode prog_14_method_27_code 274 = .ok (.getfield 106, 3) := by decide +kernel
theorem dX12_nextToken_277 : decode prog_14_method_27_code 277 = .ok (.invokevirtual 109, 3) := by decide +kernel
theorem dX12_nextToken_280 : decode prog_14_method_27_code 280 = .ok (.bipush 61, 2) := by decide +kernel
theorem dX12_nextToken_282 : decode prog_14_method_27_code 282 = .ok (.if_icmp .ne 28, 3) := by decide +kernel
theorem dX12_nextToken_285 : decode prog_14_method_27_code 285 = .ok (.aload_n 0, 1) := by decide +kernel
theorem dX12_nextToken_286 : decode prog_14_method_27_code 286 = .ok (.iload_n 1, 1) := by decide +kernel
theorem dX12_nextToken_287 : decode prog_14_method_27_code 287 = .ok (.bipush 60, 2) := by decide +kernel
theorem dX12_nextToken_289 : decode prog_14_method_27_code 289 = .ok (.if_icmp .ne 7, 3) := by decide +kernel
theorem dX12_nextToken_292 : decode prog_14_method_27_code 292 = .ok (.iconst 4, 1) := by decide +kernel
theorem dX12_nextToken_293 : decode prog_14_method_27_code 293 = .ok (.goto 4, 3) := by decide +kernel
theorem dX12_nextToken_296 : decode prog_14_method_27_code 296 = .ok (.iconst 5, 1) := by decide +kernel
theorem dX12_nextToken_297 : decode prog_14_method_27_code 297 = .ok (.putfield 115, 3) := by decide +kernel
theorem dX12_nextToken_300 : decode prog_14_method_27_code 300 = .ok (.aload_n 0, 1) := by decide +kernel
theorem dX12_nextToken_301 : decode prog_14_method_27_code 301 = .ok (.dup, 1) := by decide +kernel
theorem dX12_nextToken_302 : decode prog_14_method_27_code 302 = .ok (.getfield 106, 3) := by decide +kernel
theorem dX12_nextToken_305 : decode prog_14_method_27_code 305 = .ok (.iconst 1, 1) := by decide +kernel
theorem dX12_nextToken_306 : decode prog_14_method_27_code 306 = .ok (.iadd, 1) := by decide +kernel
theorem dX12_nextToken_307 : decode prog_14_method_27_code 307 = .ok (.putfield 106, 3) := by decide +kernel
theorem dX12_nextToken_310 : decode prog_14_method_27_code 310 = .ok (.return_, 1) := by decide +kernel
def wvR (t : Nat → Int) (s : Nat) : Nat → Int
  | 0 => 0
  | k + 1 => if 281474976710656 ≤ wvR t s k then 1152921504606846976 else wvR t s k * 256 + t (s + k)
theorem wvR_b {t : Nat → Int} {s : Nat} : ∀ k : Nat, (∀ i, i < k → 0 ≤ t (s + i) ∧ t (s + i) < 256) → 0 ≤ wvR t s k ∧ wvR t s k ≤ 1152921504606846976 := by
  intro k
  induction k with
  | zero => intro _; simp [wvR]
  | succ k ih =>
    intro h
    have h1 := ih (fun i hi => h i (by omega))
    have h2 := h k (by omega)
    show 0 ≤ (if 281474976710656 ≤ wvR t s k then 1152921504606846976 else wvR t s k * 256 + t (s + k)) ∧ (if 281474976710656 ≤ wvR t s k then 1152921504606846976 else wvR t s k * 256 + t (s + k)) ≤ 1152921504606846976
    split <;> omega
theorem lshr48 {w : Int} (h : 0 ≤ w ∧ w ≤ 1152921504606846976) : lshrI w 48 = w / 281474976710656 := by
  obtain ⟨v, rfl⟩ : ∃ v : Nat, w = (v : Int) := ⟨w.toNat, by omega⟩
  rw [lshr_48 (by omega)]
  omega
def snR (t : Nat → Int) (l s : Nat) : Int := if eqP t l s then (if t s = 60 then 4 else 5) else if sgP (t s) ∨ t s = 58 then t s else 3
def CuR (J : CI) (t : Nat → Int) (l s : Nat) : Prop := J 306 7 = ((tkF t l s).1 : Int) ∧ J 306 8 = (s : Int) ∧ (l ≤ s → J 306 9 = 0) ∧ (s < l → ltP (t s) → J 306 9 = 2 ∧ J 306 11 = wvR t s (eR (lB t l) l s - s)) ∧ (s < l → dgP (t s) → J 306 9 = 1 ∧ J 306 10 = nuR t s (eR (dB t l) l s - s)) ∧ (s < l → ¬ ltP (t s) → ¬ dgP (t s) → J 306 9 = snR t l s)
def FcR (I J : CI) : Prop := (∀ c, c ≠ 306 → J c = I c) ∧ ∀ k, (k < 7 ∨ 11 < k) → J 306 k = I 306 k
theorem FcR.rf {I : CI} : FcR I I := ⟨fun _ _ => rfl, fun _ _ => rfl⟩
theorem FcR.u {I J : CI} {q : Nat} {v : Int} (h : FcR I J) (hq : 7 ≤ q ∧ q ≤ 11) : FcR I (uI J 306 q v) := ⟨fun c hc => by funext i; rw [uI_o (Or.inl hc), h.1 c hc], fun i hi => by rw [uI_o (by omega)]; exact h.2 i hi⟩
theorem FcR.tr {I J K : CI} (h : FcR I J) (h2 : FcR J K) : FcR I K := ⟨fun c hc => (h2.1 c hc).trans (h.1 c hc), fun i hi => (h2.2 i hi).trans (h.2 i hi)⟩
theorem TpR.f {I J : CI} {t : Nat → Int} {l : Nat} (h : TpR I t l) (f : FcR I J) : TpR J t l := ⟨(f.1 310 (by decide)).trans h.1, (f.2 4 (by omega)).trans h.2.1, h.2.2⟩
theorem lp_nx1 {t : Nat → Int} {l E : Nat} (cs : CS S R) (hn : 1 ≤ n) (hT : TpR I t l) (hK : ∀ J, J 306 7 = (E : Int) → FcR I J → WP n 0 0 mX12_nextToken Post 39 [(0, .ref (S.2.1 306))] [] 0 0 S J R) : ∀ (d q : Nat) (J : CI), q ≤ l → l - q = d → J 306 7 = (q : Int) → FcR I J → eR (kB t l) l q = E → WP n 0 0 mX12_nextToken Post 0 [(0, .ref (S.2.1 306))] [] 0 0 S J R := by
  intro d
  induction d using Nat.strongRecOn with
  | ind d ih =>
    intro q J h1 h2 j7 hF hE
    have hTJ := TpR.f hT hF
    have l3 := hTJ.2.2.1
    refine x_aload_n dX12_nextToken_0 rfl ?_
    refine x_aload_n dX12_nextToken_1 rfl ?_
    refine x_getIv (z := (q : Int)) dX12_nextToken_2 gf_RX12_106 (k_ob_306 cs) (fun _ _ => rfl) (by first | exact j7 | exact j10 | exact j11 | (rw [uI_o (by omega)]; exact j7)) ?_
    refine x_callV1 (mc1 := 0) (ms1 := 0) dX12_nextToken_5 cv_RX12_109 (ci := 12) (k_ob_306 cs) rfl (Nat.le_of_ble_eq_true rfl) (n1 := n - 1) (by omega) (by omega) (by omega) ?_
    refine sp_X12_byteAt (p := q) cs hTJ (by omega) (fun r5 hr5 hg5 => ?_)
    refine x_bipush dX12_nextToken_8 (by decide) ?_
    refine x_icmp_eq 26 dX12_nextToken_10 (by decide) ⟨(by omega), (by omega)⟩ (fun w10 => ?_) (fun w10 => ?_)
    · refine x_aload_n dX12_nextToken_26 rfl ?_
      refine x_dup dX12_nextToken_27 rfl ?_
      refine x_getIv (z := (q : Int)) dX12_nextToken_28 gf_RX12_106 (k_ob_306 cs) (fun _ _ => rfl) (by first | exact j7 | exact j10 | exact j11 | (rw [uI_o (by omega)]; exact j7)) ?_
      refine x_iconst dX12_nextToken_31 ?_
      refine x_iadd dX12_nextToken_32 ?_
      refine x_putI dX12_nextToken_33 gf_RX12_106 (k_ob_306 cs) rfl ?_
      refine x_goto 0 dX12_nextToken_36 (by decide) ?_
      refine x_sub [0] rfl ?_
      have e9 := eR_go (b := kB t l) (l := l) (p := q) (kB_t.mpr ⟨by omega, by omega⟩) (by omega)
      exact ih _ (by omega) (q + 1) _ (by omega) rfl (by rw [uI_s]; omega) (hF.u (by omega)) (by rw [← hE]; exact e9.symm)
    · refine x_aload_n dX12_nextToken_13 rfl ?_
      refine x_aload_n dX12_nextToken_14 rfl ?_
      refine x_getIv (z := (q : Int)) dX12_nextToken_15 gf_RX12_106 (k_ob_306 cs) (fun _ _ => rfl) (by first | exact j7 | exact j10 | exact j11 | (rw [uI_o (by omega)]; exact j7)) ?_
      refine x_callV1 (mc1 := 0) (ms1 := 0) dX12_nextToken_18 cv_RX12_109 (ci := 12) (k_ob_306 cs) rfl (Nat.le_of_ble_eq_true rfl) (n1 := n - 1) (by omega) (by omega) (by omega) ?_
      refine sp_X12_byteAt (p := q) cs hTJ (by omega) (fun r18 hr18 hg18 => ?_)
      refine x_bipush dX12_nextToken_21 (by decide) ?_
      refine x_icmp_ne 39 dX12_nextToken_23 (by decide) ⟨(by omega), (by omega)⟩ (fun w23 => ?_) (fun w23 => ?_)
      · have e : q = E := by
          rw [← hE]
          exact (eR_stop (kB_f.mpr (by omega))).symm
        subst e
        exact hK J j7 hF
      · refine x_aload_n dX12_nextToken_26 rfl ?_
        refine x_dup dX12_nextToken_27 rfl ?_
        refine x_getIv (z := (q : Int)) dX12_nextToken_28 gf_RX12_106 (k_ob_306 cs) (fun _ _ => rfl) (by first | exact j7 | exact j10 | exact j11 | (rw [uI_o (by omega)]; exact j7)) ?_
        refine x_iconst dX12_nextToken_31 ?_
        refine x_iadd dX12_nextToken_32 ?_
        refine x_putI dX12_nextToken_33 gf_RX12_106 (k_ob_306 cs) rfl ?_
        refine x_goto 0 dX12_nextToken_36 (by decide) ?_
        refine x_sub [0] rfl ?_
        have e9 := eR_go (b := kB t l) (l := l) (p := q) (kB_t.mpr ⟨by omega, by omega⟩) (by omega)
        exact ih _ (by omega) (q + 1) _ (by omega) rfl (by rw [uI_s]; omega) (hF.u (by omega)) (by rw [← hE]; exact e9.symm)
theorem lp_nxN {t : Nat → Int} {l s : Nat} {x1 : Int} (cs : CS S R) (hn : 1 ≤ n) (hT : TpR I t l) (hp : ∀ J, J 306 7 = ((eR (dB t l) l s : Nat) : Int) → J 306 8 = I 306 8 → J 306 9 = I 306 9 → J 306 10 = nuR t s (eR (dB t l) l s - s) → FcR I J → Post none S J R) : ∀ (d q : Nat) (J : CI), s + q ≤ l → l - (s + q) = d → J 306 7 = ((s + q : Nat) : Int) → J 306 8 = I 306 8 → J 306 9 = I 306 9 → J 306 10 = nuR t s q → FcR I J → (∀ i, i < q → dgP (t (s + i))) → eR (dB t l) l (s + q) = eR (dB t l) l s → WP n 0 0 mX12_nextToken Post 85 [(0, .ref (S.2.1 306)), (1, .int (iI x1))] [] 0 0 S J R := by
  intro d
  induction d using Nat.strongRecOn with
  | ind d ih =>
    intro q J h1 h2 j7 j8 j9 j10 hF hD hE
    have hTJ := TpR.f hT hF
    have l3 := hTJ.2.2.1
    have hnu := nu_rel q hD
    refine x_aload_n dX12_nextToken_85 rfl ?_
    refine x_aload_n dX12_nextToken_86 rfl ?_
    refine x_getIv (z := ((s + q : Nat) : Int)) dX12_nextToken_87 gf_RX12_106 (k_ob_306 cs) (fun _ _ => rfl) (by first | exact j7 | exact j10 | exact j11 | (rw [uI_o (by omega)]; exact j7)) ?_
    refine x_callV1 (mc1 := 0) (ms1 := 0) dX12_nextToken_90 cv_RX12_109 (ci := 12) (k_ob_306 cs) rfl (Nat.le_of_ble_eq_true rfl) (n1 := n - 1) (by omega) (by omega) (by omega) ?_
    refine sp_X12_byteAt (p := s + q) cs hTJ (by omega) (fun r90 hr90 hg90 => ?_)
    refine x_callS1 (mc1 := 0) (ms1 := 0) dX12_nextToken_93 cv_RX12_118 (Nat.le_of_ble_eq_true rfl) (n1 := n - 1) (by omega) (by omega) (by omega) ?_
    refine sp_X12_isFigure (by omega) (fun r93 hr93 => ?_)
    refine x_if_eq 310 dX12_nextToken_96 (by decide) (by omega) (fun w96 => ?_) (fun w96 => ?_)
    · have e : eR (dB t l) l s = s + q := hE.symm.trans (eR_stop (dB_f.mpr (by omega)))
      exact x_return dX12_nextToken_310 rfl (by omega) (by omega) (hp J (by rw [e]; exact j7) j8 j9 (by rw [e, show s + q - s = q by omega]; exact j10) hF)
    · refine x_aload_n dX12_nextToken_99 rfl ?_
      refine x_aload_n dX12_nextToken_100 rfl ?_
      refine x_getIv (z := nuR t s q) dX12_nextToken_101 gf_RX12_121 (k_ob_306 cs) (fun _ _ => rfl) (by first | exact j7 | exact j10 | exact j11 | (rw [uI_o (by omega)]; exact j7)) ?_
      refine x_ldc (z := 99999) dX12_nextToken_104 (bw_in (lwt_7 (List.mem_of_getElem? (i := 96) (by decide +kernel))) (by decide +kernel)) ?_
      refine x_icmp_le 116 dX12_nextToken_106 (by decide) ⟨(by omega), (by omega)⟩ (fun w106 => ?_) (fun w106 => ?_)
      · refine x_bipush dX12_nextToken_116 (by decide) ?_
        refine x_aload_n dX12_nextToken_118 rfl ?_
        refine x_getIv (z := nuR t s q) dX12_nextToken_119 gf_RX12_121 (k_ob_306 cs) (fun _ _ => rfl) (by first | exact j7 | exact j10 | exact j11 | (rw [uI_o (by omega)]; exact j7)) ?_
        refine x_imul dX12_nextToken_122 ?_
        refine x_aload_n dX12_nextToken_123 rfl ?_
        refine x_aload_n dX12_nextToken_124 rfl ?_
        refine x_getIv (z := ((s + q : Nat) : Int)) dX12_nextToken_125 gf_RX12_106 (k_ob_306 cs) (fun _ _ => rfl) (by first | exact j7 | exact j10 | exact j11 | (rw [uI_o (by omega)]; exact j7)) ?_
        refine x_callV1 (mc1 := 0) (ms1 := 0) dX12_nextToken_128 cv_RX12_109 (ci := 12) (k_ob_306 cs) rfl (Nat.le_of_ble_eq_true rfl) (n1 := n - 1) (by omega) (by omega) (by omega) ?_
        refine sp_X12_byteAt (p := s + q) cs hTJ (by omega) (fun r128 hr128 hg128 => ?_)
        refine x_iadd dX12_nextToken_131 ?_
        refine x_bipush dX12_nextToken_132 (by decide) ?_
        refine x_isub dX12_nextToken_134 ?_
        refine x_putI dX12_nextToken_135 gf_RX12_121 (k_ob_306 cs) rfl ?_
        refine x_aload_n dX12_nextToken_138 rfl ?_
        refine x_dup dX12_nextToken_139 rfl ?_
        refine x_getIv (z := ((s + q : Nat) : Int)) dX12_nextToken_140 gf_RX12_106 (k_ob_306 cs) (fun _ _ => rfl) (by first | exact j7 | exact j10 | exact j11 | (rw [uI_o (by omega)]; exact j7)) ?_
        refine x_iconst dX12_nextToken_143 ?_
        refine x_iadd dX12_nextToken_144 ?_
        refine x_putI dX12_nextToken_145 gf_RX12_106 (k_ob_306 cs) rfl ?_
        refine x_goto 85 dX12_nextToken_148 (by decide) ?_
        refine x_sub [0, 1] rfl ?_
        refine ih _ (by omega) (q + 1) _ (by omega) rfl (by rw [uI_s]; omega) (by rw [uI_o (by omega), uI_o (by omega)]; exact j8) (by rw [uI_o (by omega), uI_o (by omega)]; exact j9) ?_ ((hF.u (by omega)).u (by omega)) ?_ ?_
        · rw [uI_o (by omega), uI_s]
          show _ = if 99999 < nuR t s q then nuR t s q else 10 * nuR t s q + t (s + q) - 48
          split <;> omega
        · intro i hi
          by_cases e : i = q
          · subst e; omega
          · exact hD i (by omega)
        · have e9 := eR_go (b := dB t l) (l := l) (p := s + q) (dB_t.mpr ⟨by omega, by omega⟩) (by omega)
          rw [← hE]; exact e9.symm
      · refine x_aload_n dX12_nextToken_109 rfl ?_
        refine x_getIv (z := nuR t s q) dX12_nextToken_110 gf_RX12_121 (k_ob_306 cs) (fun _ _ => rfl) (by first | exact j7 | exact j10 | exact j11 | (rw [uI_o (by omega)]; exact j7)) ?_
        refine x_goto 135 dX12_nextToken_113 (by decide) ?_
        refine x_putI dX12_nextToken_135 gf_RX12_121 (k_ob_306 cs) rfl ?_
        refine x_aload_n dX12_nextToken_138 rfl ?_
        refine x_dup dX12_nextToken_139 rfl ?_
        refine x_getIv (z := ((s + q : Nat) : Int)) dX12_nextToken_140 gf_RX12_106 (k_ob_306 cs) (fun _ _ => rfl) (by first | exact j7 | exact j10 | exact j11 | (rw [uI_o (by omega)]; exact j7)) ?_
        refine x_iconst dX12_nextToken_143 ?_
        refine x_iadd dX12_nextToken_144 ?_
        refine x_putI dX12_nextToken_145 gf_RX12_106 (k_ob_306 cs) rfl ?_
        refine x_goto 85 dX12_nextToken_148 (by decide) ?_
        refine x_sub [0, 1] rfl ?_
        refine ih _ (by omega) (q + 1) _ (by omega) rfl (by rw [uI_s]; omega) (by rw [uI_o (by omega), uI_o (by omega)]; exact j8) (by rw [uI_o (by omega), uI_o (by omega)]; exact j9) ?_ ((hF.u (by omega)).u (by omega)) ?_ ?_
        · rw [uI_o (by omega), uI_s]
          show _ = if 99999 < nuR t s q then nuR t s q else 10 * nuR t s q + t (s + q) - 48
          split <;> omega
        · intro i hi
          by_cases e : i = q
          · subst e; omega
          · exact hD i (by omega)
        · have e9 := eR_go (b := dB t l) (l := l) (p := s + q) (dB_t.mpr ⟨by omega, by omega⟩) (by omega)
          rw [← hE]; exact e9.symm
theorem lp_nxW {t : Nat → Int} {l s : Nat} {x1 : Int} (cs : CS S R) (hn : 1 ≤ n) (hT : TpR I t l) (hp : ∀ J, J 306 7 = ((eR (lB t l) l s : Nat) : Int) → J 306 8 = I 306 8 → J 306 9 = I 306 9 → J 306 11 = wvR t s (eR (lB t l) l s - s) → FcR I J → Post none S J R) : ∀ (d q : Nat) (J : CI), s + q ≤ l → l - (s + q) = d → J 306 7 = ((s + q : Nat) : Int) → J 306 8 = I 306 8 → J 306 9 = I 306 9 → J 306 11 = wvR t s q → FcR I J → eR (lB t l) l (s + q) = eR (lB t l) l s → WP n 0 0 mX12_nextToken Post 168 [(0, .ref (S.2.1 306)), (1, .int (iI x1))] [] 0 0 S J R := by
  intro d
  induction d using Nat.strongRecOn with
  | ind d ih =>
    intro q J h1 h2 j7 j8 j9 j11 hF hE
    have hTJ := TpR.f hT hF
    have l3 := hTJ.2.2.1
    have hw := wvR_b (t := t) (s := s) q (fun i hi => hTJ.2.2.2 (s + i) (by omega))
    refine x_aload_n dX12_nextToken_168 rfl ?_
    refine x_aload_n dX12_nextToken_169 rfl ?_
    refine x_getIv (z := ((s + q : Nat) : Int)) dX12_nextToken_170 gf_RX12_106 (k_ob_306 cs) (fun _ _ => rfl) (by first | exact j7 | exact j10 | exact j11 | (rw [uI_o (by omega)]; exact j7)) ?_
    refine x_callV1 (mc1 := 0) (ms1 := 0) dX12_nextToken_173 cv_RX12_109 (ci := 12) (k_ob_306 cs) rfl (Nat.le_of_ble_eq_true rfl) (n1 := n - 1) (by omega) (by omega) (by omega) ?_
    refine sp_X12_byteAt (p := s + q) cs hTJ (by omega) (fun r173 hr173 hg173 => ?_)
    refine x_callS1 (mc1 := 0) (ms1 := 0) dX12_nextToken_176 cv_RX12_125 (Nat.le_of_ble_eq_true rfl) (n1 := n - 1) (by omega) (by omega) (by omega) ?_
    refine sp_X12_isLetterByte (by omega) (fun r176 hr176 => ?_)
    refine x_if_eq 310 dX12_nextToken_179 (by decide) (by omega) (fun w179 => ?_) (fun w179 => ?_)
    · have e : eR (lB t l) l s = s + q := hE.symm.trans (eR_stop (lB_f.mpr (by omega)))
      exact x_return dX12_nextToken_310 rfl (by omega) (by omega) (hp J (by rw [e]; exact j7) j8 j9 (by rw [e, show s + q - s = q by omega]; exact j11) hF)
    · refine x_aload_n dX12_nextToken_182 rfl ?_
      refine x_aload_n dX12_nextToken_183 rfl ?_
      refine x_getL dX12_nextToken_184 gf_RX12_128 (k_ob_306 cs) (fun _ _ => rfl) ?_
      rw [j11]
      refine x_bipush dX12_nextToken_187 (by decide) ?_
      refine x_lshr dX12_nextToken_189 ?_
      rw [lshr48 (by omega)]
      refine x_lconst0 dX12_nextToken_190 ?_
      refine x_lcif_eq 201 dX12_nextToken_191 dX12_nextToken_192 (by decide) (by omega) (fun w191 => ?_) (fun w191 => ?_)
      · refine x_aload_n dX12_nextToken_201 rfl ?_
        refine x_getL dX12_nextToken_202 gf_RX12_128 (k_ob_306 cs) (fun _ _ => rfl) ?_
        rw [j11]
        refine x_bipush dX12_nextToken_205 (by decide) ?_
        refine x_lshl dX12_nextToken_207 ?_
        refine x_aload_n dX12_nextToken_208 rfl ?_
        refine x_aload_n dX12_nextToken_209 rfl ?_
        refine x_getIv (z := ((s + q : Nat) : Int)) dX12_nextToken_210 gf_RX12_106 (k_ob_306 cs) (fun _ _ => rfl) (by first | exact j7 | exact j10 | exact j11 | (rw [uI_o (by omega)]; exact j7)) ?_
        refine x_callV1 (mc1 := 0) (ms1 := 0) dX12_nextToken_213 cv_RX12_109 (ci := 12) (k_ob_306 cs) rfl (Nat.le_of_ble_eq_true rfl) (n1 := n - 1) (by omega) (by omega) (by omega) ?_
        refine sp_X12_byteAt (p := s + q) cs hTJ (by omega) (fun r213 hr213 hg213 => ?_)
        refine x_i2l dX12_nextToken_216 (by omega) ?_
        refine x_lor dX12_nextToken_217 ?_
        try rw [wd_step (by omega) (by omega)]
        refine x_putL dX12_nextToken_218 gf_RX12_128 (k_ob_306 cs) rfl ?_
        refine x_aload_n dX12_nextToken_221 rfl ?_
        refine x_dup dX12_nextToken_222 rfl ?_
        refine x_getIv (z := ((s + q : Nat) : Int)) dX12_nextToken_223 gf_RX12_106 (k_ob_306 cs) (fun _ _ => rfl) (by first | exact j7 | exact j10 | exact j11 | (rw [uI_o (by omega)]; exact j7)) ?_
        refine x_iconst dX12_nextToken_226 ?_
        refine x_iadd dX12_nextToken_227 ?_
        refine x_putI dX12_nextToken_228 gf_RX12_106 (k_ob_306 cs) rfl ?_
        refine x_goto 168 dX12_nextToken_231 (by decide) ?_
        refine x_sub [0, 1] rfl ?_
        refine ih _ (by omega) (q + 1) _ (by omega) rfl (by rw [uI_s]; omega) (by rw [uI_o (by omega), uI_o (by omega)]; exact j8) (by rw [uI_o (by omega), uI_o (by omega)]; exact j9) ?_ ((hF.u (by omega)).u (by omega)) ?_
        · rw [uI_o (by omega), uI_s]
          show _ = if 281474976710656 ≤ wvR t s q then 1152921504606846976 else wvR t s q * 256 + t (s + q)
          split <;> omega
        · have e9 := eR_go (b := lB t l) (l := l) (p := s + q) (lB_t.mpr ⟨by omega, by omega⟩) (by omega)
          rw [← hE]; exact e9.symm
      · refine x_ldc2 (z := 1152921504606846976) dX12_nextToken_195 (bw_in (lwt_7 (List.mem_of_getElem? (i := 100) (by decide +kernel))) (by decide +kernel)) ?_
        refine x_goto 218 dX12_nextToken_198 (by decide) ?_
        try rw [wd_step (by omega) (by omega)]
        refine x_putL dX12_nextToken_218 gf_RX12_128 (k_ob_306 cs) rfl ?_
        refine x_aload_n dX12_nextToken_221 rfl ?_
        refine x_dup dX12_nextToken_222 rfl ?_
        refine x_getIv (z := ((s + q : Nat) : Int)) dX12_nextToken_223 gf_RX12_106 (k_ob_306 cs) (fun _ _ => rfl) (by first | exact j7 | exact j10 | exact j11 | (rw [uI_o (by omega)]; exact j7)) ?_
        refine x_iconst dX12_nextToken_226 ?_
        refine x_iadd dX12_nextToken_227 ?_
        refine x_putI dX12_nextToken_228 gf_RX12_106 (k_ob_306 cs) rfl ?_
        refine x_goto 168 dX12_nextToken_231 (by decide) ?_
        refine x_sub [0, 1] rfl ?_
        refine ih _ (by omega) (q + 1) _ (by omega) rfl (by rw [uI_s]; omega) (by rw [uI_o (by omega), uI_o (by omega)]; exact j8) (by rw [uI_o (by omega), uI_o (by omega)]; exact j9) ?_ ((hF.u (by omega)).u (by omega)) ?_
        · rw [uI_o (by omega), uI_s]
          show _ = if 281474976710656 ≤ wvR t s q then 1152921504606846976 else wvR t s q * 256 + t (s + q)
          split <;> omega
        · have e9 := eR_go (b := lB t l) (l := l) (p := s + q) (lB_t.mpr ⟨by omega, by omega⟩) (by omega)
          rw [← hE]; exact e9.symm
end Next
