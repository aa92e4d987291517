section Hg2s
variable {n mc ms : Nat} {M : Md} {pc : Nat} {lv : List (Nat × Value)} {st : List Value} {k j : Nat} {Post : PT} {S : Sh} {I : CI} {R : CR} {A : Nat → Int} {tx : Nat → Nat → Int}
theorem dX12_layHung_0 : decode prog_14_method_134_code 0 = .ok (.aload_n 0, 1) := by decide +kernel
theorem dX12_layHung_1 : decode prog_14_method_134_code 1 = .ok (.iconst 0, 1) := by decide +kernel
theorem dX12_layHung_2 : decode prog_14_method_134_code 2 = .ok (.putfield 467, 3) := by decide +kernel
theorem dX12_layHung_5 : decode prog_14_method_134_code 5 = .ok (.iconst 0, 1) := by decide +kernel
theorem dX12_layHung_6 : decode prog_14_method_134_code 6 = .ok (.istore_n 2, 1) := by decide +kernel
theorem dX12_layHung_7 : decode prog_14_method_134_code 7 = .ok (.iload_n 2, 1) := by decide +kernel
theorem dX12_layHung_8 : decode prog_14_method_134_code 8 = .ok (.bipush 48, 2) := by decide +kernel
theorem dX12_layHung_10 : decode prog_14_method_134_code 10 = .ok (.if_icmp .ge 16, 3) := by decide +kernel
theorem dX12_layHung_13 : decode prog_14_method_134_code 13 = .ok (.aload_n 0, 1) := by decide +kernel
theorem dX12_layHung_14 : decode prog_14_method_134_code 14 = .ok (.getfield 68, 3) := by decide +kernel
theorem dX12_layHung_17 : decode prog_14_method_134_code 17 = .ok (.iload_n 2, 1) := by decide +kernel
theorem dX12_layHung_18 : decode prog_14_method_134_code 18 = .ok (.iconst 0, 1) := by decide +kernel
theorem dX12_layHung_19 : decode prog_14_method_134_code 19 = .ok (.iastore, 1) := by decide +kernel
theorem dX12_layHung_20 : decode prog_14_method_134_code 20 = .ok (.iinc 2 1, 3) := by decide +kernel
theorem dX12_layHung_23 : decode prog_14_method_134_code 23 = .ok (.goto (-16), 3) := by decide +kernel
theorem dX12_layHung_26 : decode prog_14_method_134_code 26 = .ok (.aload_n 0, 1) := by decide +kernel
theorem dX12_layHung_27 : decode prog_14_method_134_code 27 = .ok (.getfield 7, 3) := by decide +kernel
theorem dX12_layHung_30 : decode prog_14_method_134_code 30 = .ok (.iconst 4, 1) := by decide +kernel
theorem dX12_layHung_31 : decode prog_14_method_134_code 31 = .ok (.iaload, 1) := by decide +kernel
theorem dX12_layHung_32 : decode prog_14_method_134_code 32 = .ok (.ifCond .ne 8, 3) := by decide +kernel
theorem dX12_layHung_35 : decode prog_14_method_134_code 35 = .ok (.aload_n 0, 1) := by decide +kernel
theorem dX12_layHung_36 : decode prog_14_method_134_code 36 = .ok (.invokevirtual 470, 3) := by decide +kernel
theorem dX12_layHung_39 : decode prog_14_method_134_code 39 = .ok (.return_, 1) := by decide +kernel
theorem dX12_layHung_40 : decode prog_14_method_134_code 40 = .ok (.iconst 0, 1) := by decide +kernel
theorem dX12_layHung_41 : decode prog_14_method_134_code 41 = .ok (.istore_n 2, 1) := by decide +kernel
theorem dX12_layHung_42 : decode prog_14_method_134_code 42 = .ok (.iconst 0, 1) := by decide +kernel
theorem dX12_layHung_43 : decode prog_14_method_134_code 43 = .ok (.istore_n 3, 1) := by decide +kernel
theorem dX12_layHung_44 : decode prog_14_method_134_code 44 = .ok (.aload_n 0, 1) := by decide +kernel
theorem dX12_layHung_45 : decode prog_14_method_134_code 45 = .ok (.getfield 62, 3) := by decide +kernel
theorem dX12_layHung_48 : decode prog_14_method_134_code 48 = .ok (.iconst 0, 1) := by decide +kernel
theorem dX12_layHung_49 : decode prog_14_method_134_code 49 = .ok (.iconst (-1), 1) := by decide +kernel
theorem dX12_layHung_50 : decode prog_14_method_134_code 50 = .ok (.iastore, 1) := by decide +kernel
theorem dX12_layHung_51 : decode prog_14_method_134_code 51 = .ok (.iload_n 2, 1) := by decide +kernel
theorem dX12_layHung_52 : decode prog_14_method_134_code 52 = .ok (.ifCond .lt 191, 3) := by decide +kernel
theorem dX12_layHung_55 : decode prog_14_method_134_code 55 = .ok (.aload_n 0, 1) := by decide +kernel
theorem dX12_layHung_56 : decode prog_14_method_134_code 56 = .ok (.getfield 62, 3) := by decide +kernel
theorem dX12_layHung_59 : decode prog_14_method_134_code 59 = .ok (.iload_n 2, 1) := by decide +kernel
theorem dX12_layHung_60 : decode prog_14_method_134_code 60 = .ok (.iaload, 1) := by decide +kernel
theorem dX12_layHung_61 : decode prog_14_method_134_code 61 = .ok (.ifCond .lt 16, 3) := by decide +kernel
theorem dX12_layHung_64 : decode prog_14_method_134_code 64 = .ok (.iload_n 3, 1) := by decide +kernel
theorem dX12_layHung_65 : decode prog_14_method_134_code 65 = .ok (.iconst 1, 1) := by decide +kernel
theorem dX12_layHung_66 : decode prog_14_method_134_code 66 = .ok (.aload_n 0, 1) := by decide +kernel
theorem dX12_layHung_67 : decode prog_14_method_134_code 67 = .ok (.getfield 62, 3) := by decide +kernel
theorem dX12_layHung_70 : decode prog_14_method_134_code 70 = .ok (.iload_n 2, 1) := by decide +kernel
theorem dX12_layHung_71 : decode prog_14_method_134_code 71 = .ok (.iaload, 1) := by decide +kernel
theorem dX12_layHung_72 : decode prog_14_method_134_code 72 = .ok (.ishl, 1) := by decide +kernel
theorem dX12_layHung_73 : decode prog_14_method_134_code 73 = .ok (.iconst (-1), 1) := by decide +kernel
theorem dX12_layHung_74 : decode prog_14_method_134_code 74 = .ok (.ixor, 1) := by decide +kernel
theorem dX12_layHung_75 : decode prog_14_method_134_code 75 = .ok (.iand, 1) := by decide +kernel
theorem dX12_layHung_76 : decode prog_14_method_134_code 76 = .ok (.istore_n 3, 1) := by decide +kernel
theorem dX12_layHung_77 : decode prog_14_method_134_code 77 = .ok (.aload_n 0, 1) := by decide +kernel
theorem dX12_layHung_78 : decode prog_14_method_134_code 78 = .ok (.getfield 62, 3) := by decide +kernel
theorem dX12_layHung_81 : decode prog_14_method_134_code 81 = .ok (.iload_n 2, 1) := by decide +kernel
theorem dX12_layHung_82 : decode prog_14_method_134_code 82 = .ok (.dup2, 1) := by decide +kernel
theorem dX12_layHung_83 : decode prog_14_method_134_code 83 = .ok (.iaload, 1) := by decide +kernel
theorem dX12_layHung_84 : decode prog_14_method_134_code 84 = .ok (.iconst 1, 1) := by decide +kernel
theorem dX12_layHung_85 : decode prog_14_method_134_code 85 = .ok (.iadd, 1) := by decide +kernel
theorem dX12_layHung_86 : decode prog_14_method_134_code 86 = .ok (.iastore, 1) := by decide +kernel
theorem dX12_layHung_87 : decode prog_14_method_134_code 87 = .ok (.aload_n 0, 1) := by decide +kernel
theorem dX12_layHung_88 : decode prog_14_method_134_code 88 = .ok (.getfield 62, 3) := by decide +kernel
theorem dX12_layHung_91 : decode prog_14_method_134_code 91 = .ok (.iload_n 2, 1) := by decide +kernel
theorem dX12_layHung_92 : decode prog_14_method_134_code 92 = .ok (.iaload, 1) := by decide +kernel
theorem dX12_layHung_93 : decode prog_14_method_134_code 93 = .ok (.aload_n 0, 1) := by decide +kernel
theorem dX12_layHung_94 : decode prog_14_method_134_code 94 = .ok (.getfield 7, 3) := by decide +kernel
theorem dX12_layHung_97 : decode prog_14_method_134_code 97 = .ok (.iconst 0, 1) := by decide +kernel
theorem dX12_layHung_98 : decode prog_14_method_134_code 98 = .ok (.iaload, 1) := by decide +kernel
theorem dX12_layHung_99 : decode prog_14_method_134_code 99 = .ok (.if_icmp .ge 73, 3) := by decide +kernel
theorem dX12_layHung_102 : decode prog_14_method_134_code 102 = .ok (.iload_n 3, 1) := by decide +kernel
theorem dX12_layHung_103 : decode prog_14_method_134_code 103 = .ok (.aload_n 0, 1) := by decide +kernel
theorem dX12_layHung_104 : decode prog_14_method_134_code 104 = .ok (.getfield 62, 3) := by decide +kernel
theorem dX12_layHung_107 : decode prog_14_method_134_code 107 = .ok (.iload_n 2, 1) := by decide +kernel
theorem dX12_layHung_108 : decode prog_14_method_134_code 108 = .ok (.iaload, 1) := by decide +kernel
theorem dX12_layHung_109 : decode prog_14_method_134_code 109 = .ok (.invokestatic 259, 3) := by decide +kernel
theorem dX12_layHung_112 : decode prog_14_method_134_code 112 = .ok (.ifCond .ne 47, 3) := by decide +kernel
theorem dX12_layHung_115 : decode prog_14_method_134_code 115 = .ok (.aload_n 0, 1) := by decide +kernel
theorem dX12_layHung_116 : decode prog_14_method_134_code 116 = .ok (.aload_n 0, 1) := by decide +kernel
theorem dX12_layHung_117 : decode prog_14_method_134_code 117 = .ok (.getfield 62, 3) := by decide +kernel
theorem dX12_layHung_120 : decode prog_14_method_134_code 120 = .ok (.iload_n 2, 1) := by decide +kernel
theorem dX12_layHung_121 : decode prog_14_method_134_code 121 = .ok (.iaload, 1) := by decide +kernel
theorem dX12_layHung_122 : decode prog_14_method_134_code 122 = .ok (.invokevirtual 89, 3) := by decide +kernel
theorem dX12_layHung_125 : decode prog_14_method_134_code 125 = .ok (.ifCond .eq 34, 3) := by decide +kernel
theorem dX12_layHung_128 : decode prog_14_method_134_code 128 = .ok (.aload_n 0, 1) := by decide +kernel
theorem dX12_layHung_129 : decode prog_14_method_134_code 129 = .ok (.getfield 7, 3) := by decide +kernel
theorem dX12_layHung_132 : decode prog_14_method_134_code 132 = .ok (.bipush 52, 2) := by decide +kernel
theorem dX12_layHung_134 : decode prog_14_method_134_code 134 = .ok (.aload_n 0, 1) := by decide +kernel
theorem dX12_layHung_135 : decode prog_14_method_134_code 135 = .ok (.getfield 62, 3) := by decide +kernel
theorem dX12_layHung_138 : decode prog_14_method_134_code 138 = .ok (.iload_n 2, 1) := by decide +kernel
theorem dX12_layHung_139 : decode prog_14_method_134_code 139 = .ok (.iaload, 1) := by decide +kernel
theorem dX12_layHung_140 : decode prog_14_method_134_code 140 = .ok (.iadd, 1) := by decide +kernel
theorem dX12_layHung_141 : decode prog_14_method_134_code 141 = .ok (.iaload, 1) := by decide +kernel
theorem dX12_layHung_142 : decode prog_14_method_134_code 142 = .ok (.aload_n 0, 1) := by decide +kernel
theorem dX12_layHung_143 : decode prog_14_method_134_code 143 = .ok (.getfield 7, 3) := by decide +kernel
theorem dX12_layHung_146 : decode prog_14_method_134_code 146 = .ok (.bipush 68, 2) := by decide +kernel
theorem dX12_layHung_148 : decode prog_14_method_134_code 148 = .ok (.iload_n 2, 1) := by decide +kernel
theorem dX12_layHung_149 : decode prog_14_method_134_code 149 = .ok (.iadd, 1) := by decide +kernel
theorem dX12_layHung_150 : decode prog_14_method_134_code 150 = .ok (.iaload, 1) := by decide +kernel
theorem dX12_layHung_151 : decode prog_14_method_134_code 151 = .ok (.isub, 1) := by decide +kernel
theorem dX12_layHung_152 : decode prog_14_method_134_code 152 = .ok (.invokestatic 473, 3) := by decide +kernel
theorem dX12_layHung_155 : decode prog_14_method_134_code 155 = .ok (.iload_n 1, 1) := by decide +kernel
theorem dX12_layHung_156 : decode prog_14_method_134_code 156 = .ok (.if_icmp .le 16, 3) := by decide +kernel
theorem dX12_layHung_159 : decode prog_14_method_134_code 159 = .ok (.aload_n 0, 1) := by decide +kernel
theorem dX12_layHung_160 : decode prog_14_method_134_code 160 = .ok (.getfield 62, 3) := by decide +kernel
theorem dX12_layHung_163 : decode prog_14_method_134_code 163 = .ok (.iload_n 2, 1) := by decide +kernel
theorem dX12_layHung_164 : decode prog_14_method_134_code 164 = .ok (.dup2, 1) := by decide +kernel
theorem dX12_layHung_165 : decode prog_14_method_134_code 165 = .ok (.iaload, 1) := by decide +kernel
theorem dX12_layHung_166 : decode prog_14_method_134_code 166 = .ok (.iconst 1, 1) := by decide +kernel
theorem dX12_layHung_167 : decode prog_14_method_134_code 167 = .ok (.iadd, 1) := by decide +kernel
theorem dX12_layHung_168 : decode prog_14_method_134_code 168 = .ok (.iastore, 1) := by decide +kernel
theorem dX12_layHung_169 : decode prog_14_method_134_code 169 = .ok (.goto (-82), 3) := by decide +kernel
theorem dX12_layHung_172 : decode prog_14_method_134_code 172 = .ok (.aload_n 0, 1) := by decide +kernel
theorem dX12_layHung_173 : decode prog_14_method_134_code 173 = .ok (.getfield 62, 3) := by decide +kernel
theorem dX12_layHung_176 : decode prog_14_method_134_code 176 = .ok (.iload_n 2, 1) := by decide +kernel
theorem dX12_layHung_177 : decode prog_14_method_134_code 177 = .ok (.iaload, 1) := by decide +kernel
theorem dX12_layHung_178 : decode prog_14_method_134_code 178 = .ok (.aload_n 0, 1) := by decide +kernel
theorem dX12_layHung_179 : decode prog_14_method_134_code 179 = .ok (.getfield 7, 3) := by decide +kernel
theorem dX12_layHung_182 : decode prog_14_method_134_code 182 = .ok (.iconst 0, 1) := by decide +kernel
theorem dX12_layHung_183 : decode prog_14_method_134_code 183 = .ok (.iaload, 1) := by decide +kernel
theorem dX12_layHung_184 : decode prog_14_method_134_code 184 = .ok (.if_icmp .lt 16, 3) := by decide +kernel
theorem dX12_layHung_187 : decode prog_14_method_134_code 187 = .ok (.aload_n 0, 1) := by decide +kernel
theorem dX12_layHung_188 : decode prog_14_method_134_code 188 = .ok (.getfield 62, 3) := by decide +kernel
theorem dX12_layHung_191 : decode prog_14_method_134_code 191 = .ok (.iload_n 2, 1) := by decide +kernel
theorem dX12_layHung_192 : decode prog_14_method_134_code 192 = .ok (.iconst (-1), 1) := by decide +kernel
theorem dX12_layHung_193 : decode prog_14_method_134_code 193 = .ok (.iastore, 1) := by decide +kernel
theorem dX12_layHung_194 : decode prog_14_method_134_code 194 = .ok (.iinc 2 (-1), 3) := by decide +kernel
theorem dX12_layHung_197 : decode prog_14_method_134_code 197 = .ok (.goto (-146), 3) := by decide +kernel
theorem dX12_layHung_200 : decode prog_14_method_134_code 200 = .ok (.iload_n 3, 1) := by decide +kernel
theorem dX12_layHung_201 : decode prog_14_method_134_code 201 = .ok (.iconst 1, 1) := by decide +kernel
theorem dX12_layHung_202 : decode prog_14_method_134_code 202 = .ok (.aload_n 0, 1) := by decide +kernel
theorem dX12_layHung_203 : decode prog_14_method_134_code 203 = .ok (.getfield 62, 3) := by decide +kernel
theorem dX12_layHung_206 : decode prog_14_method_134_code 206 = .ok (.iload_n 2, 1) := by decide +kernel
theorem dX12_layHung_207 : decode prog_14_method_134_code 207 = .ok (.iaload, 1) := by decide +kernel
theorem dX12_layHung_208 : decode prog_14_method_134_code 208 = .ok (.ishl, 1) := by decide +kernel
theorem dX12_layHung_209 : decode prog_14_method_134_code 209 = .ok (.ior, 1) := by decide +kernel
theorem dX12_layHung_210 : decode prog_14_method_134_code 210 = .ok (.istore_n 3, 1) := by decide +kernel
theorem dX12_layHung_211 : decode prog_14_method_134_code 211 = .ok (.iload_n 2, 1) := by decide +kernel
theorem dX12_layHung_212 : decode prog_14_method_134_code 212 = .ok (.aload_n 0, 1) := by decide +kernel
theorem dX12_layHung_213 : decode prog_14_method_134_code 213 = .ok (.getfield 7, 3) := by decide +kernel
theorem dX12_layHung_216 : decode prog_14_method_134_code 216 = .ok (.iconst 4, 1) := by decide +kernel
theorem dX12_layHung_217 : decode prog_14_method_134_code 217 = .ok (.iaload, 1) := by decide +kernel
theorem dX12_layHung_218 : decode prog_14_method_134_code 218 = .ok (.iconst 1, 1) := by decide +kernel
theorem dX12_layHung_219 : decode prog_14_method_134_code 219 = .ok (.isub, 1) := by decide +kernel
theorem dX12_layHung_220 : decode prog_14_method_134_code 220 = .ok (.if_icmp .ne 10, 3) := by decide +kernel
theorem dX12_layHung_223 : decode prog_14_method_134_code 223 = .ok (.aload_n 0, 1) := by decide +kernel
theorem dX12_layHung_224 : decode prog_14_method_134_code 224 = .ok (.invokevirtual 470, 3) := by decide +kernel
theorem dX12_layHung_227 : decode prog_14_method_134_code 227 = .ok (.goto (-176), 3) := by decide +kernel
theorem dX12_layHung_230 : decode prog_14_method_134_code 230 = .ok (.iinc 2 1, 3) := by decide +kernel
theorem dX12_layHung_233 : decode prog_14_method_134_code 233 = .ok (.aload_n 0, 1) := by decide +kernel
theorem dX12_layHung_234 : decode prog_14_method_134_code 234 = .ok (.getfield 62, 3) := by decide +kernel
theorem dX12_layHung_237 : decode prog_14_method_134_code 237 = .ok (.iload_n 2, 1) := by decide +kernel
theorem dX12_layHung_238 : decode prog_14_method_134_code 238 = .ok (.iconst (-1), 1) := by decide +kernel
theorem dX12_layHung_239 : decode prog_14_method_134_code 239 = .ok (.iastore, 1) := by decide +kernel
theorem dX12_layHung_240 : decode prog_14_method_134_code 240 = .ok (.goto (-189), 3) := by decide +kernel
theorem dX12_layHung_243 : decode prog_14_method_134_code 243 = .ok (.return_, 1) := by decide +kernel
theorem lp_find {k s v : Nat} {e : Int} {J0 : CI} (cs : CS S R) (hb : BA A) (hn : 3 ≤ n) (hA : J0 307 = A) (hk : k < 6) (hs : s < 256) (he : 0 ≤ e ∧ e ≤ 9) (hK : ∀ (J : CI) (i : Nat), (∀ c q, (c ≠ 320 ∨ q ≠ k) → J c q = J0 c q) → J 320 k = (i : Int) → v ≤ i → (i : Int) ≤ A 0 → (∀ z, v ≤ z → z < i → ¬ (sdN (ftA A e k) s).testBit z = true) → ((i : Int) < A 0 → (sdN (ftA A e k) s).testBit i = true) → WP n 0 0 mX12_layHung Post 172 [(0, .ref (S.2.1 306)), (1, .int (iI e)), (2, .int (iI (k : Int))), (3, .int (iI (s : Int)))] [] 0 0 S J R) : ∀ (d i : Nat) (J : CI), v ≤ i → i + d = (A 0).toNat → (∀ c q, (c ≠ 320 ∨ q ≠ k) → J c q = J0 c q) → J 320 k = (i : Int) → (∀ z, v ≤ z → z < i → ¬ (sdN (ftA A e k) s).testBit z = true) → WP n 0 0 mX12_layHung Post 87 [(0, .ref (S.2.1 306)), (1, .int (iI e)), (2, .int (iI (k : Int))), (3, .int (iI (s : Int)))] [] 0 0 S J R := by
  have b0 := hb.1.1
  have bh := hb.2.2.2.1 k hk
  intro d
  induction d using Nat.strongRecOn with
  | ind d ih =>
    intro i J h1 h2 hF oJ hno
    have aJ : J 307 = A := by
      rw [← hA]; funext q; exact hF 307 q (by omega)
    have hft := ftA_tb hb (e := e) (h := k) (s := s) (i := i)
    refine x_aload_n dX12_layHung_87 rfl ?_
    refine x_getR (b := 320) dX12_layHung_88 gf_RX12_62 (k_ob_306 cs) (fun _ _ => rfl) (k_r_306_33 cs) ?_
    refine x_iload_n dX12_layHung_91 rfl ?_
    refine x_iaload dX12_layHung_92 (k_ar_320 cs) (by omega) (by omega) ?_
    rw [show J 320 ((k : Int)).toNat = (i : Int) from oJ]
    refine x_aload_n dX12_layHung_93 rfl ?_
    refine x_getR (b := 307) dX12_layHung_94 gf_RX12_7 (k_ob_306 cs) (fun _ _ => rfl) (k_r_306_0 cs) ?_
    refine x_iconst dX12_layHung_97 ?_
    refine x_ald7 (kk := 0) (v := A 0) dX12_layHung_98 cs (by omega) (by omega) (by rw [aJ]; repeat (first | rfl | rw [upA_s] | rw [upA_o (by omega)])) ?_
    refine x_icmp_ge 172 dX12_layHung_99 (by decide) ⟨(by omega), (by omega)⟩ (fun w99 => ?_) (fun w99 => ?_)
    · refine x_sub [0, 1, 2, 3] rfl ?_
      first
      | exact hK J i hF oJ h1 (by omega) hno (fun h9 => by exfalso; omega)
      | (refine hK J i hF oJ h1 (by omega) hno (fun h9 => hft.mpr ⟨⟨h9, ?_, ?_, ?_⟩, ?_⟩)
         · rcases hr122 with ⟨_, u⟩ | ⟨u, _⟩
           · exact u
           · omega
         · split at w156 <;> omega
         · split at w156 <;> omega
         · rcases hr109 with ⟨u, _⟩ | ⟨_, u⟩
           · omega
           · exact u)
    · have bq9 := hb.1.2.2.2.2.2.1 i (by omega)
      have bw9 := (hb.2.2.1 i (by omega)).2.2.1
      refine x_iload_n dX12_layHung_102 rfl ?_
      refine x_aload_n dX12_layHung_103 rfl ?_
      refine x_getR (b := 320) dX12_layHung_104 gf_RX12_62 (k_ob_306 cs) (fun _ _ => rfl) (k_r_306_33 cs) ?_
      refine x_iload_n dX12_layHung_107 rfl ?_
      refine x_iaload dX12_layHung_108 (k_ar_320 cs) (by omega) (by omega) ?_
      rw [show J 320 ((k : Int)).toNat = (i : Int) from oJ]
      refine x_callS2 (mc1 := 0) (ms1 := 0) dX12_layHung_109 cv_RX12_259 (Nat.le_of_ble_eq_true rfl) (n1 := n - 1) (by omega) (by omega) (by omega) ?_
      refine sp_X12_has (x := s) (k := i) (by omega) (by omega) (fun r109 hr109 => ?_)
      refine x_if_ne 159 dX12_layHung_112 (by decide) (by omega) (fun w112 => ?_) (fun w112 => ?_)
      · refine x_aload_n dX12_layHung_159 rfl ?_
        refine x_getR (b := 320) dX12_layHung_160 gf_RX12_62 (k_ob_306 cs) (fun _ _ => rfl) (k_r_306_33 cs) ?_
        refine x_iload_n dX12_layHung_163 rfl ?_
        refine x_dup2 dX12_layHung_164 rfl rfl ?_
        refine x_iaload dX12_layHung_165 (k_ar_320 cs) (by omega) (by omega) ?_
        rw [show J 320 ((k : Int)).toNat = (i : Int) from oJ]
        refine x_iconst dX12_layHung_166 ?_
        refine x_iadd dX12_layHung_167 ?_
        refine x_iastore dX12_layHung_168 (k_ar_320 cs) (by omega) (by omega) ?_
        refine x_goto 87 dX12_layHung_169 (by decide) ?_
        refine x_sub [0, 1, 2, 3] rfl ?_
        rw [show (k : Int) = (k : Int) from rfl]
        have hnf : ¬ (sdN (ftA A e k) s).testBit i = true := by
          rw [hft]
          intro g
          obtain ⟨⟨g1, g2, g3, g4⟩, g5⟩ := g
          first
          | (rcases hr109 with ⟨_, u⟩ | ⟨u, _⟩
             · rw [g5] at u; cases u
             · omega)
          | (rcases hr122 with ⟨_, u⟩ | ⟨_, u⟩
             · omega
             · exact u g2)
          | (split at w156 <;> omega)
        refine ih (d - 1) (by omega) (i + 1) _ (by omega) (by omega) (fun c q hc => by rw [uI_o (by omega)]; exact hF c q hc) (by rw [uI_x rfl (by omega)]; rfl) (fun z g1 g2 => ?_)
        by_cases hz : z = i
        · rw [hz]; exact hnf
        · exact hno z g1 (by omega)
      · refine x_aload_n dX12_layHung_115 rfl ?_
        refine x_aload_n dX12_layHung_116 rfl ?_
        refine x_getR (b := 320) dX12_layHung_117 gf_RX12_62 (k_ob_306 cs) (fun _ _ => rfl) (k_r_306_33 cs) ?_
        refine x_iload_n dX12_layHung_120 rfl ?_
        refine x_iaload dX12_layHung_121 (k_ar_320 cs) (by omega) (by omega) ?_
        rw [show J 320 ((k : Int)).toNat = (i : Int) from oJ]
        refine x_callV1 (mc1 := 0) (ms1 := 0) dX12_layHung_122 cv_RX12_89 (ci := 12) (k_ob_306 cs) rfl (Nat.le_of_ble_eq_true rfl) (n1 := n - 1) (by omega) (by omega) (by omega) ?_
        refine sp_X12_isPawned (q := i) cs aJ (by omega) (by have := bq9.1; rw [show 6 + 6 + 3 * i = 12 + 3 * i by omega] at this; omega) (by omega) (fun r122 hr122 => ?_)
        refine x_if_eq 159 dX12_layHung_125 (by decide) (by omega) (fun w125 => ?_) (fun w125 => ?_)
        · refine x_aload_n dX12_layHung_159 rfl ?_
          refine x_getR (b := 320) dX12_layHung_160 gf_RX12_62 (k_ob_306 cs) (fun _ _ => rfl) (k_r_306_33 cs) ?_
          refine x_iload_n dX12_layHung_163 rfl ?_
          refine x_dup2 dX12_layHung_164 rfl rfl ?_
          refine x_iaload dX12_layHung_165 (k_ar_320 cs) (by omega) (by omega) ?_
          rw [show J 320 ((k : Int)).toNat = (i : Int) from oJ]
          refine x_iconst dX12_layHung_166 ?_
          refine x_iadd dX12_layHung_167 ?_
          refine x_iastore dX12_layHung_168 (k_ar_320 cs) (by omega) (by omega) ?_
          refine x_goto 87 dX12_layHung_169 (by decide) ?_
          refine x_sub [0, 1, 2, 3] rfl ?_
          rw [show (k : Int) = (k : Int) from rfl]
          have hnf : ¬ (sdN (ftA A e k) s).testBit i = true := by
            rw [hft]
            intro g
            obtain ⟨⟨g1, g2, g3, g4⟩, g5⟩ := g
            first
            | (rcases hr109 with ⟨_, u⟩ | ⟨u, _⟩
               · rw [g5] at u; cases u
               · omega)
            | (rcases hr122 with ⟨_, u⟩ | ⟨_, u⟩
               · omega
               · exact u g2)
            | (split at w156 <;> omega)
          refine ih (d - 1) (by omega) (i + 1) _ (by omega) (by omega) (fun c q hc => by rw [uI_o (by omega)]; exact hF c q hc) (by rw [uI_x rfl (by omega)]; rfl) (fun z g1 g2 => ?_)
          by_cases hz : z = i
          · rw [hz]; exact hnf
          · exact hno z g1 (by omega)
        · refine x_aload_n dX12_layHung_128 rfl ?_
          refine x_getR (b := 307) dX12_layHung_129 gf_RX12_7 (k_ob_306 cs) (fun _ _ => rfl) (k_r_306_0 cs) ?_
          refine x_bipush dX12_layHung_132 (by decide) ?_
          refine x_aload_n dX12_layHung_134 rfl ?_
          refine x_getR (b := 320) dX12_layHung_135 gf_RX12_62 (k_ob_306 cs) (fun _ _ => rfl) (k_r_306_33 cs) ?_
          refine x_iload_n dX12_layHung_138 rfl ?_
          refine x_iaload dX12_layHung_139 (k_ar_320 cs) (by omega) (by omega) ?_
          rw [show J 320 ((k : Int)).toNat = (i : Int) from oJ]
          refine x_iadd dX12_layHung_140 ?_
          refine x_ald7 (kk := 52 + i) (v := A (52 + i)) dX12_layHung_141 cs (by omega) (by omega) (by rw [aJ]; repeat (first | rfl | rw [upA_s] | rw [upA_o (by omega)])) ?_
          refine x_aload_n dX12_layHung_142 rfl ?_
          refine x_getR (b := 307) dX12_layHung_143 gf_RX12_7 (k_ob_306 cs) (fun _ _ => rfl) (k_r_306_0 cs) ?_
          refine x_bipush dX12_layHung_146 (by decide) ?_
          refine x_iload_n dX12_layHung_148 rfl ?_
          refine x_iadd dX12_layHung_149 ?_
          refine x_ald7 (kk := 68 + k) (v := A (68 + k)) dX12_layHung_150 cs (by omega) (by omega) (by rw [aJ]; repeat (first | rfl | rw [upA_s] | rw [upA_o (by omega)])) ?_
          refine x_isub dX12_layHung_151 ?_
          refine x_callS1 (mc1 := 0) (ms1 := 0) dX12_layHung_152 cv_RX12_473 (Nat.le_of_ble_eq_true rfl) (n1 := n - 1) (by omega) (by omega) (by omega) ?_
          refine sp_X12_size (by omega) ?_
          refine x_iload_n dX12_layHung_155 rfl ?_
          refine x_icmp_le 172 dX12_layHung_156 (by decide) ⟨(by split <;> omega), (by omega)⟩ (fun w156 => ?_) (fun w156 => ?_)
          · refine x_sub [0, 1, 2, 3] rfl ?_
            first
            | exact hK J i hF oJ h1 (by omega) hno (fun h9 => by exfalso; omega)
            | (refine hK J i hF oJ h1 (by omega) hno (fun h9 => hft.mpr ⟨⟨h9, ?_, ?_, ?_⟩, ?_⟩)
               · rcases hr122 with ⟨_, u⟩ | ⟨u, _⟩
                 · exact u
                 · omega
               · split at w156 <;> omega
               · split at w156 <;> omega
               · rcases hr109 with ⟨u, _⟩ | ⟨_, u⟩
                 · omega
                 · exact u)
          · refine x_aload_n dX12_layHung_159 rfl ?_
            refine x_getR (b := 320) dX12_layHung_160 gf_RX12_62 (k_ob_306 cs) (fun _ _ => rfl) (k_r_306_33 cs) ?_
            refine x_iload_n dX12_layHung_163 rfl ?_
            refine x_dup2 dX12_layHung_164 rfl rfl ?_
            refine x_iaload dX12_layHung_165 (k_ar_320 cs) (by omega) (by omega) ?_
            rw [show J 320 ((k : Int)).toNat = (i : Int) from oJ]
            refine x_iconst dX12_layHung_166 ?_
            refine x_iadd dX12_layHung_167 ?_
            refine x_iastore dX12_layHung_168 (k_ar_320 cs) (by omega) (by omega) ?_
            refine x_goto 87 dX12_layHung_169 (by decide) ?_
            refine x_sub [0, 1, 2, 3] rfl ?_
            rw [show (k : Int) = (k : Int) from rfl]
            have hnf : ¬ (sdN (ftA A e k) s).testBit i = true := by
              rw [hft]
              intro g
              obtain ⟨⟨g1, g2, g3, g4⟩, g5⟩ := g
              first
              | (rcases hr109 with ⟨_, u⟩ | ⟨u, _⟩
                 · rw [g5] at u; cases u
                 · omega)
              | (rcases hr122 with ⟨_, u⟩ | ⟨_, u⟩
                 · omega
                 · exact u g2)
              | (split at w156 <;> omega)
            refine ih (d - 1) (by omega) (i + 1) _ (by omega) (by omega) (fun c q hc => by rw [uI_o (by omega)]; exact hF c q hc) (by rw [uI_x rfl (by omega)]; rfl) (fun z g1 g2 => ?_)
            by_cases hz : z = i
            · rw [hz]; exact hnf
            · exact hno z g1 (by omega)
def Fhg (I J : CI) : Prop := (∀ c, c ≠ 306 → c ≠ 320 → c ≠ 321 → c ≠ 322 → J c = I c) ∧ ∀ q, q ≠ 36 → J 306 q = I 306 q
theorem Fhg.rf : Fhg I I := ⟨fun _ _ _ _ _ => rfl, fun _ _ => rfl⟩
theorem Fhg.tr {J K : CI} (h : Fhg I J) (h2 : Fhg J K) : Fhg I K := ⟨fun c a b d e => (h2.1 c a b d e).trans (h.1 c a b d e), fun q a => (h2.2 q a).trans (h.2 q a)⟩
theorem Fnt.hg {J : CI} (h : Fnt I J) : Fhg I J := ⟨fun c a _ d e => h.1 c a d e, h.2⟩
theorem fhg_320 {J K : CI} (h : Fhg I J) (h2 : ∀ c, c ≠ 320 → K c = J c) : Fhg I K := ⟨fun c a b d e => (h2 c b).trans (h.1 c a b d e), fun q a => by rw [h2 306 (by omega)]; exact h.2 q a⟩
theorem sd_off {s u : Nat} (hs : s < 256) (hu : u < 8) (h : s.testBit u = false) : sdN (s ||| 2 ^ u) (2 ^ u) = s ∧ s ||| 2 ^ u < 256 := by
  have : ∀ s < 256, ∀ u < 8, s.testBit u = false → sdN (s ||| 2 ^ u) (2 ^ u) = s ∧ s ||| 2 ^ u < 256 := by decide +kernel
  exact this s hs u hu h
abbrev hgL (S : Sh) (e k s : Int) : List (Nat × Value) := [(0, .ref (S.2.1 306)), (1, .int (iI e)), (2, .int (iI k)), (3, .int (iI s))]
theorem lp_lev {H : Nat} {e : Int} (cs : CS S R) (hb : BA A) (hn : 3 ≤ n) (hH : A 4 = (H : Int)) (h6 : H ≤ 6) (he : 0 ≤ e ∧ e ≤ 9) (hA : I 307 = A) : ∀ (f k s : Nat) (pre : List Nat), k + f + 1 = H → pre.length = k → s < 256 → (∀ h, h < k → pre.getD h 0 < 8) → ∀ (d v us : Nat) (L : List (List Nat)) (J : CI), v + d = 8 → (v : Int) ≤ A 0 → ((v = 0 ∧ us = s) ∨ (0 < v ∧ s.testBit (v - 1) = false ∧ us = s ||| 2 ^ (v - 1))) → (∀ h, h < k → J 320 h = ((pre.getD h 0 : Nat) : Int)) → J 320 k = (v : Int) - 1 → Fhg I J → NoteR J H L → L.length + (flt (bk (ftA A e) f k s pre) d v).length ≤ 900000 → (∀ J2, Fhg I J2 → (∀ h, h < k → J2 320 h = ((pre.getD h 0 : Nat) : Int)) → NoteR J2 H (L ++ flt (bk (ftA A e) f k s pre) d v) → WP n 0 0 mX12_layHung Post 51 (hgL S e ((k : Int) - 1) (s : Int)) [] 0 0 S J2 R) → WP n 0 0 mX12_layHung Post 51 (hgL S e (k : Int) (us : Int)) [] 0 0 S J R := by
  have b0 := hb.1.1
  intro f
  induction f with
  | zero =>
    intro k s pre hkH hpl hs hp8 d
    induction d using Nat.strongRecOn with
    | ind d ih =>
      intro v us L J hvd hv0 hus hpre hu hF hN hlen hK
      have aJ : J 307 = A := by rw [hF.1 307 (by omega) (by omega) (by omega) (by omega)]; exact hA
      have h77 : WP n 0 0 mX12_layHung Post 77 (hgL S e (k : Int) (s : Int)) [] 0 0 S J R := by
        show WP _ _ _ _ _ 77 [(0, _), (1, _), (2, _), (3, _)] [] 0 0 _ _ _
        refine x_aload_n dX12_layHung_77 rfl ?_
        refine x_getR (b := 320) dX12_layHung_78 gf_RX12_62 (k_ob_306 cs) (fun _ _ => rfl) (k_r_306_33 cs) ?_
        refine x_iload_n dX12_layHung_81 rfl ?_
        refine x_dup2 dX12_layHung_82 rfl rfl ?_
        refine x_iaload dX12_layHung_83 (k_ar_320 cs) (by omega) (by omega) ?_
        rw [show J 320 ((k : Int)).toNat = (v : Int) - 1 from hu]
        refine x_iconst dX12_layHung_84 ?_
        refine x_iadd dX12_layHung_85 ?_
        refine x_iastore dX12_layHung_86 (k_ar_320 cs) (by omega) (by omega) ?_
        refine x_sub [0, 1, 2, 3] rfl ?_
        refine lp_find (J0 := uI J 320 ((k : Int)).toNat ((v : Int) - 1 + 1)) (k := k) (s := s) (v := v) (e := e) cs hb hn (by rw [uI_row (by omega)]; exact aJ) (by omega) hs he (fun J2 i hF2 o2 hvi hi0 hno hyes => ?_) ((A 0).toNat - v) v _ (Nat.le_refl _) (by omega) (fun _ _ _ => rfl) (by rw [uI_x rfl (by omega)]; omega) (fun z g1 g2 => by omega)
        have c2 : ∀ c, c ≠ 320 → J2 c = J c := fun c hc => by funext q; rw [hF2 c q (Or.inl hc), uI_row hc]
        have p2 : ∀ h, h < k → J2 320 h = ((pre.getD h 0 : Nat) : Int) := fun h hh => by rw [hF2 320 h (by omega), uI_o (by omega)]; exact hpre h hh
        have a2 : J2 307 = A := by rw [c2 307 (by omega)]; exact aJ
        have n2 : NoteR J2 H L := NoteR.w hN (by rw [c2 306 (by omega)]) (c2 321 (by omega)) (c2 322 (by omega))
        have F2 : Fhg I J2 := fhg_320 hF c2
        refine x_aload_n dX12_layHung_172 rfl ?_
        refine x_getR (b := 320) dX12_layHung_173 gf_RX12_62 (k_ob_306 cs) (fun _ _ => rfl) (k_r_306_33 cs) ?_
        refine x_iload_n dX12_layHung_176 rfl ?_
        refine x_iaload dX12_layHung_177 (k_ar_320 cs) (by omega) (by omega) ?_
        rw [show J2 320 ((k : Int)).toNat = (i : Int) from o2]
        refine x_aload_n dX12_layHung_178 rfl ?_
        refine x_getR (b := 307) dX12_layHung_179 gf_RX12_7 (k_ob_306 cs) (fun _ _ => rfl) (k_r_306_0 cs) ?_
        refine x_iconst dX12_layHung_182 ?_
        refine x_ald7 (kk := 0) (v := A 0) dX12_layHung_183 cs (by omega) (by omega) (by rw [a2]; repeat (first | rfl | rw [upA_s] | rw [upA_o (by omega)])) ?_
        refine x_icmp_lt 200 dX12_layHung_184 (by decide) ⟨(by omega), (by omega)⟩ (fun w184 => ?_) (fun w184 => ?_)
        · have hyi := hyes (by omega)
          have hti := (ftA_tb hb).mp hyi
          have hor := bc_or hs (show i < 8 by omega) hti.2
          have hfl : flt (bk (ftA A e) 0 k s pre) d v = cpp (ftA A e) 0 (k + 1) (s ||| 2 ^ i) (pre ++ [i]) ++ flt (bk (ftA A e) 0 k s pre) (8 - (i + 1)) (i + 1) := by
            rw [flt_skip (i - v) d v (by omega) (fun z g1 g2 => if_neg (hno z g1 (by omega))), show v + (i - v) = i by omega, show d - (i - v) = (8 - (i + 1)) + 1 by omega]
            show bk (ftA A e) 0 k s pre i ++ _ = _
            congr 1
            exact if_pos hyi
          rw [hfl, List.length_append] at hlen
          have hgx : ∀ h, h < k + 1 → (pre ++ [i]).getD h 0 = if h = k then i else pre.getD h 0 := fun h hh => by have h9 := gd_pre (pre := pre) (i := i) (k := h) (by omega); rw [hpl] at h9; exact h9
          refine x_iload_n dX12_layHung_200 rfl ?_
          refine x_iconst dX12_layHung_201 ?_
          refine x_aload_n dX12_layHung_202 rfl ?_
          refine x_getR (b := 320) dX12_layHung_203 gf_RX12_62 (k_ob_306 cs) (fun _ _ => rfl) (k_r_306_33 cs) ?_
          refine x_iload_n dX12_layHung_206 rfl ?_
          refine x_iaload dX12_layHung_207 (k_ar_320 cs) (by omega) (by omega) ?_
          rw [show J2 320 ((k : Int)).toNat = (i : Int) from o2]
          refine x_ishl dX12_layHung_208 ?_
          refine x_ior dX12_layHung_209 ?_
          refine x_istore_n (lv2 := [(3, _), (0, _), (1, _), (2, _)]) dX12_layHung_210 (by decide) rfl ?_
          refine x_iload_n dX12_layHung_211 rfl ?_
          refine x_aload_n dX12_layHung_212 rfl ?_
          refine x_getR (b := 307) dX12_layHung_213 gf_RX12_7 (k_ob_306 cs) (fun _ _ => rfl) (k_r_306_0 cs) ?_
          refine x_iconst dX12_layHung_216 ?_
          refine x_ald7 (kk := 4) (v := A 4) dX12_layHung_217 cs (by omega) (by omega) (by rw [a2]; repeat (first | rfl | rw [upA_s] | rw [upA_o (by omega)])) ?_
          refine x_iconst dX12_layHung_218 ?_
          refine x_isub dX12_layHung_219 ?_
          refine x_icmp_ne 230 dX12_layHung_220 (by decide) ⟨(by omega), (by omega)⟩ (fun w220 => ?_) (fun w220 => ?_)
          · exfalso; omega
          · refine x_aload_n dX12_layHung_223 rfl ?_
            refine x_callV0 (mc1 := 0) (ms1 := 0) dX12_layHung_224 cv_RX12_470 (ci := 12) (k_ob_306 cs) rfl (Nat.le_of_ble_eq_true rfl) (n1 := n - 1) (by omega) (by omega) (by omega) ?_
            refine sp_X12_noteHung (H := H) (L := L) (x := pre ++ [i]) (A := A) cs a2 hH h6 (fun h hh => ?_) (by omega) n2 (fun J4 f4 n4 => ?_)
            · rw [hgx h (by omega)]
              by_cases hhk : h = k
              · rw [if_pos hhk, hhk]; exact ⟨o2, by omega⟩
              · rw [if_neg hhk]; exact ⟨p2 h (by omega), hp8 h (by omega)⟩
            refine x_goto 51 dX12_layHung_227 (by decide) ?_
            refine x_sub [1, 2, 3, 0] rfl ?_
            first
            | (skip
               rw [show (k : Int) + -1 = (k : Int) - 1 by omega]
               have hnil : flt (bk (ftA A e) 0 k s pre) d v = [] := flt_nil (fun z g1 g2 => if_neg (fun g => by
                 by_cases hz : z < i
                 · exact hno z g1 hz g
                 · have g9 := (ftA_tb hb).mp g
                   omega))
               refine hK _ (fhg_320 F2 (fun c hc => uI_row hc)) (fun h hh => by rw [uI_o (by omega)]; exact p2 h hh) ?_
               rw [hnil, List.append_nil]
               exact NoteR.w n2 (by rw [uI_row (by omega)]) (uI_row (by omega)) (uI_row (by omega)))
            | (skip
               rw [shl1_n (by omega), orI_n (by omega) (by have := pw7 (show i < 8 by omega); omega)]
               refine ih (8 - (i + 1)) (by omega) (i + 1) (s ||| 2 ^ i) (L ++ [pre ++ [i]]) J4 (by omega) (by omega) (Or.inr ⟨by omega, hti.2, rfl⟩) (fun h hh => by rw [f4.1 320 (by omega) (by omega) (by omega)]; exact p2 h hh) (by rw [f4.1 320 (by omega) (by omega) (by omega), o2]; omega) (Fhg.tr F2 (Fnt.hg f4)) n4 (by rw [List.length_append]; exact (by have h9 : (cpp (ftA A e) 0 (k + 1) (s ||| 2 ^ i) (pre ++ [i])).length = 1 := rfl; have h8 : ([pre ++ [i]] : List (List Nat)).length = 1 := rfl; omega)) (fun J5 F5 p5 n5 => ?_)
               refine hK J5 F5 p5 ?_
               rw [hfl, ← List.append_assoc]
               exact n5)
        · refine x_aload_n dX12_layHung_187 rfl ?_
          refine x_getR (b := 320) dX12_layHung_188 gf_RX12_62 (k_ob_306 cs) (fun _ _ => rfl) (k_r_306_33 cs) ?_
          refine x_iload_n dX12_layHung_191 rfl ?_
          refine x_iconst dX12_layHung_192 ?_
          refine x_iastore dX12_layHung_193 (k_ar_320 cs) (by omega) (by omega) ?_
          refine x_iinc (lv2 := [(2, _), (0, _), (1, _), (3, _)]) dX12_layHung_194 rfl (by decide) rfl ?_
          refine x_goto 51 dX12_layHung_197 (by decide) ?_
          refine x_sub [1, 2, 0, 3] rfl ?_
          first
          | (skip
             rw [show (k : Int) + -1 = (k : Int) - 1 by omega]
             have hnil : flt (bk (ftA A e) 0 k s pre) d v = [] := flt_nil (fun z g1 g2 => if_neg (fun g => by
               by_cases hz : z < i
               · exact hno z g1 hz g
               · have g9 := (ftA_tb hb).mp g
                 omega))
             refine hK _ (fhg_320 F2 (fun c hc => uI_row hc)) (fun h hh => by rw [uI_o (by omega)]; exact p2 h hh) ?_
             rw [hnil, List.append_nil]
             exact NoteR.w n2 (by rw [uI_row (by omega)]) (uI_row (by omega)) (uI_row (by omega)))
          | (skip
             rw [shl1_n (by omega), orI_n (by omega) (by have := pw7 (show i < 8 by omega); omega)]
             refine ih (8 - (i + 1)) (by omega) (i + 1) (s ||| 2 ^ i) (L ++ [pre ++ [i]]) J4 (by omega) (by omega) (Or.inr ⟨by omega, hti.2, rfl⟩) (fun h hh => by rw [f4.1 320 (by omega) (by omega) (by omega)]; exact p2 h hh) (by rw [f4.1 320 (by omega) (by omega) (by omega), o2]; omega) (Fhg.tr F2 (Fnt.hg f4)) n4 (by rw [List.length_append]; exact (by have h9 : (cpp (ftA A e) 0 (k + 1) (s ||| 2 ^ i) (pre ++ [i])).length = 1 := rfl; have h8 : ([pre ++ [i]] : List (List Nat)).length = 1 := rfl; omega)) (fun J5 F5 p5 n5 => ?_)
             refine hK J5 F5 p5 ?_
             rw [hfl, ← List.append_assoc]
             exact n5)
      show WP _ _ _ _ _ 51 [(0, _), (1, _), (2, _), (3, _)] [] 0 0 _ _ _
      refine x_iload_n dX12_layHung_51 rfl ?_
      refine x_if_lt 243 dX12_layHung_52 (by decide) (by omega) (fun w52 => ?_) (fun w52 => ?_)
      · exfalso; omega
      · refine x_aload_n dX12_layHung_55 rfl ?_
        refine x_getR (b := 320) dX12_layHung_56 gf_RX12_62 (k_ob_306 cs) (fun _ _ => rfl) (k_r_306_33 cs) ?_
        refine x_iload_n dX12_layHung_59 rfl ?_
        refine x_iaload dX12_layHung_60 (k_ar_320 cs) (by omega) (by omega) ?_
        rw [show J 320 ((k : Int)).toNat = (v : Int) - 1 from hu]
        refine x_if_lt 77 dX12_layHung_61 (by decide) (by omega) (fun w61 => ?_) (fun w61 => ?_)
        · refine x_sub [0, 1, 2, 3] rfl ?_
          first
          | (obtain rfl : us = s := by
               rcases hus with g | g
               · exact g.2
               · exfalso; omega
             exact h77)
          | (rcases hus with g | ⟨g1, g2, rfl⟩
             · exfalso; omega
             · have hv8 : v - 1 < 8 := by omega
               have hoff := sd_off hs hv8 g2
               have hpw := pw7 hv8
               rw [show (v : Int) - 1 = ((v - 1 : Nat) : Int) by omega, shl1_n (by omega), andnot_n (by omega) (by omega), hoff.1]
               exact h77)
        · refine x_iload_n dX12_layHung_64 rfl ?_
          refine x_iconst dX12_layHung_65 ?_
          refine x_aload_n dX12_layHung_66 rfl ?_
          refine x_getR (b := 320) dX12_layHung_67 gf_RX12_62 (k_ob_306 cs) (fun _ _ => rfl) (k_r_306_33 cs) ?_
          refine x_iload_n dX12_layHung_70 rfl ?_
          refine x_iaload dX12_layHung_71 (k_ar_320 cs) (by omega) (by omega) ?_
          rw [show J 320 ((k : Int)).toNat = (v : Int) - 1 from hu]
          refine x_ishl dX12_layHung_72 ?_
          refine x_iconst dX12_layHung_73 ?_
          refine x_ixor dX12_layHung_74 ?_
          refine x_iand dX12_layHung_75 ?_
          refine x_istore_n (lv2 := [(3, _), (0, _), (1, _), (2, _)]) dX12_layHung_76 (by decide) rfl ?_
          refine x_sub [1, 2, 3, 0] rfl ?_
          first
          | (obtain rfl : us = s := by
               rcases hus with g | g
               · exact g.2
               · exfalso; omega
             exact h77)
          | (rcases hus with g | ⟨g1, g2, rfl⟩
             · exfalso; omega
             · have hv8 : v - 1 < 8 := by omega
               have hoff := sd_off hs hv8 g2
               have hpw := pw7 hv8
               rw [show (v : Int) - 1 = ((v - 1 : Nat) : Int) by omega, shl1_n (by omega), andnot_n (by omega) (by omega), hoff.1]
               exact h77)
  | succ f ihf =>
    intro k s pre hkH hpl hs hp8 d
    induction d using Nat.strongRecOn with
    | ind d ih =>
      intro v us L J hvd hv0 hus hpre hu hF hN hlen hK
      have aJ : J 307 = A := by rw [hF.1 307 (by omega) (by omega) (by omega) (by omega)]; exact hA
      have h77 : WP n 0 0 mX12_layHung Post 77 (hgL S e (k : Int) (s : Int)) [] 0 0 S J R := by
        show WP _ _ _ _ _ 77 [(0, _), (1, _), (2, _), (3, _)] [] 0 0 _ _ _
        refine x_aload_n dX12_layHung_77 rfl ?_
        refine x_getR (b := 320) dX12_layHung_78 gf_RX12_62 (k_ob_306 cs) (fun _ _ => rfl) (k_r_306_33 cs) ?_
        refine x_iload_n dX12_layHung_81 rfl ?_
        refine x_dup2 dX12_layHung_82 rfl rfl ?_
        refine x_iaload dX12_layHung_83 (k_ar_320 cs) (by omega) (by omega) ?_
        rw [show J 320 ((k : Int)).toNat = (v : Int) - 1 from hu]
        refine x_iconst dX12_layHung_84 ?_
        refine x_iadd dX12_layHung_85 ?_
        refine x_iastore dX12_layHung_86 (k_ar_320 cs) (by omega) (by omega) ?_
        refine x_sub [0, 1, 2, 3] rfl ?_
        refine lp_find (J0 := uI J 320 ((k : Int)).toNat ((v : Int) - 1 + 1)) (k := k) (s := s) (v := v) (e := e) cs hb hn (by rw [uI_row (by omega)]; exact aJ) (by omega) hs he (fun J2 i hF2 o2 hvi hi0 hno hyes => ?_) ((A 0).toNat - v) v _ (Nat.le_refl _) (by omega) (fun _ _ _ => rfl) (by rw [uI_x rfl (by omega)]; omega) (fun z g1 g2 => by omega)
        have c2 : ∀ c, c ≠ 320 → J2 c = J c := fun c hc => by funext q; rw [hF2 c q (Or.inl hc), uI_row hc]
        have p2 : ∀ h, h < k → J2 320 h = ((pre.getD h 0 : Nat) : Int) := fun h hh => by rw [hF2 320 h (by omega), uI_o (by omega)]; exact hpre h hh
        have a2 : J2 307 = A := by rw [c2 307 (by omega)]; exact aJ
        have n2 : NoteR J2 H L := NoteR.w hN (by rw [c2 306 (by omega)]) (c2 321 (by omega)) (c2 322 (by omega))
        have F2 : Fhg I J2 := fhg_320 hF c2
        refine x_aload_n dX12_layHung_172 rfl ?_
        refine x_getR (b := 320) dX12_layHung_173 gf_RX12_62 (k_ob_306 cs) (fun _ _ => rfl) (k_r_306_33 cs) ?_
        refine x_iload_n dX12_layHung_176 rfl ?_
        refine x_iaload dX12_layHung_177 (k_ar_320 cs) (by omega) (by omega) ?_
        rw [show J2 320 ((k : Int)).toNat = (i : Int) from o2]
        refine x_aload_n dX12_layHung_178 rfl ?_
        refine x_getR (b := 307) dX12_layHung_179 gf_RX12_7 (k_ob_306 cs) (fun _ _ => rfl) (k_r_306_0 cs) ?_
        refine x_iconst dX12_layHung_182 ?_
        refine x_ald7 (kk := 0) (v := A 0) dX12_layHung_183 cs (by omega) (by omega) (by rw [a2]; repeat (first | rfl | rw [upA_s] | rw [upA_o (by omega)])) ?_
        refine x_icmp_lt 200 dX12_layHung_184 (by decide) ⟨(by omega), (by omega)⟩ (fun w184 => ?_) (fun w184 => ?_)
        · have hyi := hyes (by omega)
          have hti := (ftA_tb hb).mp hyi
          have hor := bc_or hs (show i < 8 by omega) hti.2
          have hfl : flt (bk (ftA A e) (f + 1) k s pre) d v = cpp (ftA A e) (f + 1) (k + 1) (s ||| 2 ^ i) (pre ++ [i]) ++ flt (bk (ftA A e) (f + 1) k s pre) (8 - (i + 1)) (i + 1) := by
            rw [flt_skip (i - v) d v (by omega) (fun z g1 g2 => if_neg (hno z g1 (by omega))), show v + (i - v) = i by omega, show d - (i - v) = (8 - (i + 1)) + 1 by omega]
            show bk (ftA A e) (f + 1) k s pre i ++ _ = _
            congr 1
            exact if_pos hyi
          rw [hfl, List.length_append] at hlen
          have hgx : ∀ h, h < k + 1 → (pre ++ [i]).getD h 0 = if h = k then i else pre.getD h 0 := fun h hh => by have h9 := gd_pre (pre := pre) (i := i) (k := h) (by omega); rw [hpl] at h9; exact h9
          refine x_iload_n dX12_layHung_200 rfl ?_
          refine x_iconst dX12_layHung_201 ?_
          refine x_aload_n dX12_layHung_202 rfl ?_
          refine x_getR (b := 320) dX12_layHung_203 gf_RX12_62 (k_ob_306 cs) (fun _ _ => rfl) (k_r_306_33 cs) ?_
          refine x_iload_n dX12_layHung_206 rfl ?_
          refine x_iaload dX12_layHung_207 (k_ar_320 cs) (by omega) (by omega) ?_
          rw [show J2 320 ((k : Int)).toNat = (i : Int) from o2]
          refine x_ishl dX12_layHung_208 ?_
          refine x_ior dX12_layHung_209 ?_
          refine x_istore_n (lv2 := [(3, _), (0, _), (1, _), (2, _)]) dX12_layHung_210 (by decide) rfl ?_
          refine x_iload_n dX12_layHung_211 rfl ?_
          refine x_aload_n dX12_layHung_212 rfl ?_
          refine x_getR (b := 307) dX12_layHung_213 gf_RX12_7 (k_ob_306 cs) (fun _ _ => rfl) (k_r_306_0 cs) ?_
          refine x_iconst dX12_layHung_216 ?_
          refine x_ald7 (kk := 4) (v := A 4) dX12_layHung_217 cs (by omega) (by omega) (by rw [a2]; repeat (first | rfl | rw [upA_s] | rw [upA_o (by omega)])) ?_
          refine x_iconst dX12_layHung_218 ?_
          refine x_isub dX12_layHung_219 ?_
          refine x_icmp_ne 230 dX12_layHung_220 (by decide) ⟨(by omega), (by omega)⟩ (fun w220 => ?_) (fun w220 => ?_)
          · refine x_iinc (lv2 := [(2, _), (3, _), (0, _), (1, _)]) dX12_layHung_230 rfl (by decide) rfl ?_
            refine x_aload_n dX12_layHung_233 rfl ?_
            refine x_getR (b := 320) dX12_layHung_234 gf_RX12_62 (k_ob_306 cs) (fun _ _ => rfl) (k_r_306_33 cs) ?_
            refine x_iload_n dX12_layHung_237 rfl ?_
            refine x_iconst dX12_layHung_238 ?_
            refine x_iastore dX12_layHung_239 (k_ar_320 cs) (by omega) (by omega) ?_
            refine x_goto 51 dX12_layHung_240 (by decide) ?_
            refine x_sub [2, 3, 0, 1] rfl ?_
            first
            | (skip
               rw [show (k : Int) + -1 = (k : Int) - 1 by omega]
               have hnil : flt (bk (ftA A e) (f + 1) k s pre) d v = [] := flt_nil (fun z g1 g2 => if_neg (fun g => by
                 by_cases hz : z < i
                 · exact hno z g1 hz g
                 · have g9 := (ftA_tb hb).mp g
                   omega))
               refine hK _ (fhg_320 F2 (fun c hc => uI_row hc)) (fun h hh => by rw [uI_o (by omega)]; exact p2 h hh) ?_
               rw [hnil, List.append_nil]
               exact NoteR.w n2 (by rw [uI_row (by omega)]) (uI_row (by omega)) (uI_row (by omega)))
            | (skip
               rw [shl1_n (by omega), orI_n (by omega) (by have := pw7 (show i < 8 by omega); omega), show (k : Int) + 1 = ((k + 1 : Nat) : Int) from rfl]
               have hcp : cpp (ftA A e) (f + 1) (k + 1) (s ||| 2 ^ i) (pre ++ [i]) = flt (bk (ftA A e) f (k + 1) (s ||| 2 ^ i) (pre ++ [i])) 8 0 := rfl
               refine ihf (k + 1) (s ||| 2 ^ i) (pre ++ [i]) (by omega) (by rw [List.length_append, List.length_singleton, hpl]) hor.2.1 (fun h hh => ?_) 8 0 (s ||| 2 ^ i) L _ (by omega) (by omega) (Or.inl ⟨rfl, rfl⟩) (fun h hh => ?_) ?_ (fhg_320 F2 (fun c hc => uI_row hc)) (NoteR.w n2 (by rw [uI_row (by omega)]) (uI_row (by omega)) (uI_row (by omega))) (by rw [← hcp]; omega) (fun J5 F5 p5 n5 => ?_)
               · rw [hgx h hh]
                 split
                 · omega
                 · exact hp8 h (by omega)
               · rw [uI_o (by omega), hgx h hh]
                 by_cases hhk : h = k
                 · rw [if_pos hhk, hhk]; exact o2
                 · rw [if_neg hhk]; exact p2 h (by omega)
               · rw [uI_x rfl (by omega)]; rfl
               rw [show ((k + 1 : Nat) : Int) - 1 = (k : Int) by omega]
               rw [← hcp] at n5
               refine ih (8 - (i + 1)) (by omega) (i + 1) (s ||| 2 ^ i) (L ++ cpp (ftA A e) (f + 1) (k + 1) (s ||| 2 ^ i) (pre ++ [i])) J5 (by omega) (by omega) (Or.inr ⟨by omega, hti.2, rfl⟩) (fun h hh => by rw [p5 h (by omega), hgx h (by omega), if_neg (by omega)]) (by rw [p5 k (by omega), hgx k (by omega), if_pos rfl]; omega) F5 n5 (by rw [List.length_append]; omega) (fun J6 F6 p6 n6 => ?_)
               refine hK J6 F6 p6 ?_
               rw [hfl, ← List.append_assoc]
               exact n6)
          · exfalso; omega
        · refine x_aload_n dX12_layHung_187 rfl ?_
          refine x_getR (b := 320) dX12_layHung_188 gf_RX12_62 (k_ob_306 cs) (fun _ _ => rfl) (k_r_306_33 cs) ?_
          refine x_iload_n dX12_layHung_191 rfl ?_
          refine x_iconst dX12_layHung_192 ?_
          refine x_iastore dX12_layHung_193 (k_ar_320 cs) (by omega) (by omega) ?_
          refine x_iinc (lv2 := [(2, _), (0, _), (1, _), (3, _)]) dX12_layHung_194 rfl (by decide) rfl ?_
          refine x_goto 51 dX12_layHung_197 (by decide) ?_
          refine x_sub [1, 2, 0, 3] rfl ?_
          first
          | (skip
             rw [show (k : Int) + -1 = (k : Int) - 1 by omega]
             have hnil : flt (bk (ftA A e) (f + 1) k s pre) d v = [] := flt_nil (fun z g1 g2 => if_neg (fun g => by
               by_cases hz : z < i
               · exact hno z g1 hz g
               · have g9 := (ftA_tb hb).mp g
                 omega))
             refine hK _ (fhg_320 F2 (fun c hc => uI_row hc)) (fun h hh => by rw [uI_o (by omega)]; exact p2 h hh) ?_
             rw [hnil, List.append_nil]
             exact NoteR.w n2 (by rw [uI_row (by omega)]) (uI_row (by omega)) (uI_row (by omega)))
          | (skip
             rw [shl1_n (by omega), orI_n (by omega) (by have := pw7 (show i < 8 by omega); omega), show (k : Int) + 1 = ((k + 1 : Nat) : Int) from rfl]
             have hcp : cpp (ftA A e) (f + 1) (k + 1) (s ||| 2 ^ i) (pre ++ [i]) = flt (bk (ftA A e) f (k + 1) (s ||| 2 ^ i) (pre ++ [i])) 8 0 := rfl
             refine ihf (k + 1) (s ||| 2 ^ i) (pre ++ [i]) (by omega) (by rw [List.length_append, List.length_singleton, hpl]) hor.2.1 (fun h hh => ?_) 8 0 (s ||| 2 ^ i) L _ (by omega) (by omega) (Or.inl ⟨rfl, rfl⟩) (fun h hh => ?_) ?_ (fhg_320 F2 (fun c hc => uI_row hc)) (NoteR.w n2 (by rw [uI_row (by omega)]) (uI_row (by omega)) (uI_row (by omega))) (by rw [← hcp]; omega) (fun J5 F5 p5 n5 => ?_)
             · rw [hgx h hh]
               split
               · omega
               · exact hp8 h (by omega)
             · rw [uI_o (by omega), hgx h hh]
               by_cases hhk : h = k
               · rw [if_pos hhk, hhk]; exact o2
               · rw [if_neg hhk]; exact p2 h (by omega)
             · rw [uI_x rfl (by omega)]; rfl
             rw [show ((k + 1 : Nat) : Int) - 1 = (k : Int) by omega]
             rw [← hcp] at n5
             refine ih (8 - (i + 1)) (by omega) (i + 1) (s ||| 2 ^ i) (L ++ cpp (ftA A e) (f + 1) (k + 1) (s ||| 2 ^ i) (pre ++ [i])) J5 (by omega) (by omega) (Or.inr ⟨by omega, hti.2, rfl⟩) (fun h hh => by rw [p5 h (by omega), hgx h (by omega), if_neg (by omega)]) (by rw [p5 k (by omega), hgx k (by omega), if_pos rfl]; omega) F5 n5 (by rw [List.length_append]; omega) (fun J6 F6 p6 n6 => ?_)
             refine hK J6 F6 p6 ?_
             rw [hfl, ← List.append_assoc]
             exact n6)
      show WP _ _ _ _ _ 51 [(0, _), (1, _), (2, _), (3, _)] [] 0 0 _ _ _
      refine x_iload_n dX12_layHung_51 rfl ?_
      refine x_if_lt 243 dX12_layHung_52 (by decide) (by omega) (fun w52 => ?_) (fun w52 => ?_)
      · exfalso; omega
      · refine x_aload_n dX12_layHung_55 rfl ?_
        refine x_getR (b := 320) dX12_layHung_56 gf_RX12_62 (k_ob_306 cs) (fun _ _ => rfl) (k_r_306_33 cs) ?_
        refine x_iload_n dX12_layHung_59 rfl ?_
        refine x_iaload dX12_layHung_60 (k_ar_320 cs) (by omega) (by omega) ?_
        rw [show J 320 ((k : Int)).toNat = (v : Int) - 1 from hu]
        refine x_if_lt 77 dX12_layHung_61 (by decide) (by omega) (fun w61 => ?_) (fun w61 => ?_)
        · refine x_sub [0, 1, 2, 3] rfl ?_
          first
          | (obtain rfl : us = s := by
               rcases hus with g | g
               · exact g.2
               · exfalso; omega
             exact h77)
          | (rcases hus with g | ⟨g1, g2, rfl⟩
             · exfalso; omega
             · have hv8 : v - 1 < 8 := by omega
               have hoff := sd_off hs hv8 g2
               have hpw := pw7 hv8
               rw [show (v : Int) - 1 = ((v - 1 : Nat) : Int) by omega, shl1_n (by omega), andnot_n (by omega) (by omega), hoff.1]
               exact h77)
        · refine x_iload_n dX12_layHung_64 rfl ?_
          refine x_iconst dX12_layHung_65 ?_
          refine x_aload_n dX12_layHung_66 rfl ?_
          refine x_getR (b := 320) dX12_layHung_67 gf_RX12_62 (k_ob_306 cs) (fun _ _ => rfl) (k_r_306_33 cs) ?_
          refine x_iload_n dX12_layHung_70 rfl ?_
          refine x_iaload dX12_layHung_71 (k_ar_320 cs) (by omega) (by omega) ?_
          rw [show J 320 ((k : Int)).toNat = (v : Int) - 1 from hu]
          refine x_ishl dX12_layHung_72 ?_
          refine x_iconst dX12_layHung_73 ?_
          refine x_ixor dX12_layHung_74 ?_
          refine x_iand dX12_layHung_75 ?_
          refine x_istore_n (lv2 := [(3, _), (0, _), (1, _), (2, _)]) dX12_layHung_76 (by decide) rfl ?_
          refine x_sub [1, 2, 3, 0] rfl ?_
          first
          | (obtain rfl : us = s := by
               rcases hus with g | g
               · exact g.2
               · exfalso; omega
             exact h77)
          | (rcases hus with g | ⟨g1, g2, rfl⟩
             · exfalso; omega
             · have hv8 : v - 1 < 8 := by omega
               have hoff := sd_off hs hv8 g2
               have hpw := pw7 hv8
               rw [show (v : Int) - 1 = ((v - 1 : Nat) : Int) by omega, shl1_n (by omega), andnot_n (by omega) (by omega), hoff.1]
               exact h77)
end Hg2s
