section Ref24
variable {n mc ms : Nat} {M : Md} {pc : Nat} {lv : List (Nat × Value)} {st : List Value} {k j : Nat} {Post : PT} {S : Sh} {I : CI} {R : CR} {A : Nat → Int} {tx : Nat → Nat → Int}
theorem cst_d (p : Nat) : cstA A tx p p = -1 := by
  have h0 : cstK A tx p p 0 = -1 := if_pos rfl
  have := cst_neg h0 (A 0).toNat
  rw [Nat.zero_add] at this
  exact this
theorem cst_r (hN : BN A) : ∀ p r, -1 ≤ cstA A tx p r ∧ cstA A tx p r ≤ 79992 := fun p r => by
  have h1 := cstK_b (A := A) (tx := tx) (p := p) (r := r) (A 0).toNat
  have h2 := hN.1
  unfold cstA
  omega
def RF (J : CI) (f : Nat → Int) : Prop := ∀ i, i < 6 → (0 ≤ J 317 i ∧ J 317 i ≤ 8) ∧ ((f i = 10000000 ∧ J 316 i = 1000000) ∨ (f i < 10000000 ∧ J 316 i = f i / 8 ∧ J 317 i = f i % 8 + 1))
def Fy (I J : CI) : Prop := ∀ c, c ≠ 312 → c ≠ 313 → c ≠ 314 → c ≠ 316 → c ≠ 317 → J c = I c
theorem Fy.rf {I : CI} : Fy I I := fun _ _ _ _ _ _ => rfl
theorem Fy.tr {I J K : CI} (h : Fy I J) (h2 : Fy J K) : Fy I K := fun c h1 h3 h4 h5 h6 => (h2 c h1 h3 h4 h5 h6).trans (h c h1 h3 h4 h5 h6)
theorem FD.y {I J : CI} (h : FD I J) : Fy I J := fun c h1 h2 h3 _ _ => h c h1 h2 h3
theorem RF_fd {J K : CI} {f : Nat → Int} (h : FD J K) (hR : RF J f) : RF K f := fun i hi => by
  rw [h 316 (by omega) (by omega) (by omega), h 317 (by omega) (by omega) (by omega)]; exact hR i hi
theorem dX12_isNearer_0 : decode prog_14_method_114_code 0 = .ok (.iload_n 2, 1) := by decide +kernel
theorem dX12_isNearer_1 : decode prog_14_method_114_code 1 = .ok (.aload_n 0, 1) := by decide +kernel
theorem dX12_isNearer_2 : decode prog_14_method_114_code 2 = .ok (.getfield 50, 3) := by decide +kernel
theorem dX12_isNearer_5 : decode prog_14_method_114_code 5 = .ok (.iload_n 1, 1) := by decide +kernel
theorem dX12_isNearer_6 : decode prog_14_method_114_code 6 = .ok (.iaload, 1) := by decide +kernel
theorem dX12_isNearer_7 : decode prog_14_method_114_code 7 = .ok (.if_icmp .lt 23, 3) := by decide +kernel
theorem dX12_isNearer_10 : decode prog_14_method_114_code 10 = .ok (.iload_n 2, 1) := by decide +kernel
theorem dX12_isNearer_11 : decode prog_14_method_114_code 11 = .ok (.aload_n 0, 1) := by decide +kernel
theorem dX12_isNearer_12 : decode prog_14_method_114_code 12 = .ok (.getfield 50, 3) := by decide +kernel
theorem dX12_isNearer_15 : decode prog_14_method_114_code 15 = .ok (.iload_n 1, 1) := by decide +kernel
theorem dX12_isNearer_16 : decode prog_14_method_114_code 16 = .ok (.iaload, 1) := by decide +kernel
theorem dX12_isNearer_17 : decode prog_14_method_114_code 17 = .ok (.if_icmp .ne 17, 3) := by decide +kernel
theorem dX12_isNearer_20 : decode prog_14_method_114_code 20 = .ok (.iload_n 3, 1) := by decide +kernel
theorem dX12_isNearer_21 : decode prog_14_method_114_code 21 = .ok (.aload_n 0, 1) := by decide +kernel
theorem dX12_isNearer_22 : decode prog_14_method_114_code 22 = .ok (.getfield 53, 3) := by decide +kernel
theorem dX12_isNearer_25 : decode prog_14_method_114_code 25 = .ok (.iload_n 1, 1) := by decide +kernel
theorem dX12_isNearer_26 : decode prog_14_method_114_code 26 = .ok (.iaload, 1) := by decide +kernel
theorem dX12_isNearer_27 : decode prog_14_method_114_code 27 = .ok (.if_icmp .ge 7, 3) := by decide +kernel
theorem dX12_isNearer_30 : decode prog_14_method_114_code 30 = .ok (.iconst 1, 1) := by decide +kernel
theorem dX12_isNearer_31 : decode prog_14_method_114_code 31 = .ok (.goto 4, 3) := by decide +kernel
theorem dX12_isNearer_34 : decode prog_14_method_114_code 34 = .ok (.iconst 0, 1) := by decide +kernel
theorem dX12_isNearer_35 : decode prog_14_method_114_code 35 = .ok (.ireturn, 1) := by decide +kernel
theorem sp_X12_isNearer {p : Nat} {cost w : Int} (cs : CS S R) (hp6 : p < 6) (h1 : Rg (I 316 p)) (h2 : Rg (I 317 p)) (hc : Rg cost) (hw : Rg w) (hp : ∀ r, (r = 1 ∧ (cost < I 316 p ∨ (cost = I 316 p ∧ w < I 317 p)) ∨ r = 0 ∧ ¬ (cost < I 316 p ∨ (cost = I 316 p ∧ w < I 317 p))) → Post (some (.int (iI r))) S I R) : Call n 0 0 mX12_isNearer [.ref (S.2.1 306), .int (iI (p : Int)), .int (iI cost), .int (iI w)] S I R Post := by
  refine Call.of (by decide +kernel) (Nat.le_of_ble_eq_true rfl) ?_
  show WP _ _ _ _ _ 0 [(0, _), (1, _), (2, _), (3, _)] [] 0 0 _ _ _
  refine x_iload_n dX12_isNearer_0 rfl ?_
  refine x_aload_n dX12_isNearer_1 rfl ?_
  refine x_getR (b := 316) dX12_isNearer_2 gf_RX12_50 (k_ob_306 cs) (fun _ _ => rfl) (k_r_306_26 cs) ?_
  refine x_iload_n dX12_isNearer_5 rfl ?_
  refine x_iaload dX12_isNearer_6 (k_ar_316 cs) (by omega) (by omega) ?_
  rw [tN]
  refine x_icmp_lt 30 dX12_isNearer_7 (by decide) ⟨(by omega), (by omega)⟩ (fun w7 => ?_) (fun w7 => ?_)
  · refine x_iconst dX12_isNearer_30 ?_
    refine x_goto 35 dX12_isNearer_31 (by decide) ?_
    exact x_zreturn (by omega) dX12_isNearer_35 rfl (by omega) (by omega) (by first | exact hp 1 (Or.inl ⟨rfl, by omega⟩) | exact hp 0 (Or.inr ⟨rfl, by omega⟩))
  · refine x_iload_n dX12_isNearer_10 rfl ?_
    refine x_aload_n dX12_isNearer_11 rfl ?_
    refine x_getR (b := 316) dX12_isNearer_12 gf_RX12_50 (k_ob_306 cs) (fun _ _ => rfl) (k_r_306_26 cs) ?_
    refine x_iload_n dX12_isNearer_15 rfl ?_
    refine x_iaload dX12_isNearer_16 (k_ar_316 cs) (by omega) (by omega) ?_
    rw [tN]
    refine x_icmp_ne 34 dX12_isNearer_17 (by decide) ⟨(by omega), (by omega)⟩ (fun w17 => ?_) (fun w17 => ?_)
    · refine x_iconst dX12_isNearer_34 ?_
      exact x_zreturn (by omega) dX12_isNearer_35 rfl (by omega) (by omega) (by first | exact hp 1 (Or.inl ⟨rfl, by omega⟩) | exact hp 0 (Or.inr ⟨rfl, by omega⟩))
    · refine x_iload_n dX12_isNearer_20 rfl ?_
      refine x_aload_n dX12_isNearer_21 rfl ?_
      refine x_getR (b := 317) dX12_isNearer_22 gf_RX12_53 (k_ob_306 cs) (fun _ _ => rfl) (k_r_306_27 cs) ?_
      refine x_iload_n dX12_isNearer_25 rfl ?_
      refine x_iaload dX12_isNearer_26 (k_ar_317 cs) (by omega) (by omega) ?_
      rw [tN]
      refine x_icmp_ge 34 dX12_isNearer_27 (by decide) ⟨(by omega), (by omega)⟩ (fun w27 => ?_) (fun w27 => ?_)
      · refine x_iconst dX12_isNearer_34 ?_
        exact x_zreturn (by omega) dX12_isNearer_35 rfl (by omega) (by omega) (by first | exact hp 1 (Or.inl ⟨rfl, by omega⟩) | exact hp 0 (Or.inr ⟨rfl, by omega⟩))
      · refine x_iconst dX12_isNearer_30 ?_
        refine x_goto 35 dX12_isNearer_31 (by decide) ?_
        exact x_zreturn (by omega) dX12_isNearer_35 rfl (by omega) (by omega) (by first | exact hp 1 (Or.inl ⟨rfl, by omega⟩) | exact hp 0 (Or.inr ⟨rfl, by omega⟩))
theorem dX12_layFar_0 : decode prog_14_method_115_code 0 = .ok (.iconst 0, 1) := by decide +kernel
theorem dX12_layFar_1 : decode prog_14_method_115_code 1 = .ok (.istore_n 2, 1) := by decide +kernel
theorem dX12_layFar_2 : decode prog_14_method_115_code 2 = .ok (.iload_n 2, 1) := by decide +kernel
theorem dX12_layFar_3 : decode prog_14_method_115_code 3 = .ok (.bipush 6, 2) := by decide +kernel
theorem dX12_layFar_5 : decode prog_14_method_115_code 5 = .ok (.if_icmp .ge 43, 3) := by decide +kernel
theorem dX12_layFar_8 : decode prog_14_method_115_code 8 = .ok (.aload_n 0, 1) := by decide +kernel
theorem dX12_layFar_9 : decode prog_14_method_115_code 9 = .ok (.getfield 50, 3) := by decide +kernel
theorem dX12_layFar_12 : decode prog_14_method_115_code 12 = .ok (.iload_n 2, 1) := by decide +kernel
theorem dX12_layFar_13 : decode prog_14_method_115_code 13 = .ok (.iload_n 2, 1) := by decide +kernel
theorem dX12_layFar_14 : decode prog_14_method_115_code 14 = .ok (.iload_n 1, 1) := by decide +kernel
theorem dX12_layFar_15 : decode prog_14_method_115_code 15 = .ok (.if_icmp .ne 7, 3) := by decide +kernel
theorem dX12_layFar_18 : decode prog_14_method_115_code 18 = .ok (.iconst 0, 1) := by decide +kernel
theorem dX12_layFar_19 : decode prog_14_method_115_code 19 = .ok (.goto 6, 3) := by decide +kernel
theorem dX12_layFar_22 : decode prog_14_method_115_code 22 = .ok (.ldc_w 423, 3) := by decide +kernel
theorem dX12_layFar_25 : decode prog_14_method_115_code 25 = .ok (.iastore, 1) := by decide +kernel
theorem dX12_layFar_26 : decode prog_14_method_115_code 26 = .ok (.aload_n 0, 1) := by decide +kernel
theorem dX12_layFar_27 : decode prog_14_method_115_code 27 = .ok (.getfield 53, 3) := by decide +kernel
theorem dX12_layFar_30 : decode prog_14_method_115_code 30 = .ok (.iload_n 2, 1) := by decide +kernel
theorem dX12_layFar_31 : decode prog_14_method_115_code 31 = .ok (.iload_n 2, 1) := by decide +kernel
theorem dX12_layFar_32 : decode prog_14_method_115_code 32 = .ok (.iload_n 1, 1) := by decide +kernel
theorem dX12_layFar_33 : decode prog_14_method_115_code 33 = .ok (.if_icmp .ne 7, 3) := by decide +kernel
theorem dX12_layFar_36 : decode prog_14_method_115_code 36 = .ok (.iconst 1, 1) := by decide +kernel
theorem dX12_layFar_37 : decode prog_14_method_115_code 37 = .ok (.goto 4, 3) := by decide +kernel
theorem dX12_layFar_40 : decode prog_14_method_115_code 40 = .ok (.iconst 0, 1) := by decide +kernel
theorem dX12_layFar_41 : decode prog_14_method_115_code 41 = .ok (.iastore, 1) := by decide +kernel
theorem dX12_layFar_42 : decode prog_14_method_115_code 42 = .ok (.iinc 2 1, 3) := by decide +kernel
theorem dX12_layFar_45 : decode prog_14_method_115_code 45 = .ok (.goto (-43), 3) := by decide +kernel
theorem dX12_layFar_48 : decode prog_14_method_115_code 48 = .ok (.iconst 0, 1) := by decide +kernel
theorem dX12_layFar_49 : decode prog_14_method_115_code 49 = .ok (.istore_n 2, 1) := by decide +kernel
theorem dX12_layFar_50 : decode prog_14_method_115_code 50 = .ok (.iload_n 2, 1) := by decide +kernel
theorem dX12_layFar_51 : decode prog_14_method_115_code 51 = .ok (.bipush 6, 2) := by decide +kernel
theorem dX12_layFar_53 : decode prog_14_method_115_code 53 = .ok (.if_icmp .ge 140, 3) := by decide +kernel
theorem dX12_layFar_56 : decode prog_14_method_115_code 56 = .ok (.iconst 0, 1) := by decide +kernel
theorem dX12_layFar_57 : decode prog_14_method_115_code 57 = .ok (.istore_n 3, 1) := by decide +kernel
theorem dX12_layFar_58 : decode prog_14_method_115_code 58 = .ok (.iload_n 3, 1) := by decide +kernel
theorem dX12_layFar_59 : decode prog_14_method_115_code 59 = .ok (.bipush 6, 2) := by decide +kernel
theorem dX12_layFar_61 : decode prog_14_method_115_code 61 = .ok (.if_icmp .ge 126, 3) := by decide +kernel
theorem dX12_layFar_64 : decode prog_14_method_115_code 64 = .ok (.iconst 0, 1) := by decide +kernel
theorem dX12_layFar_65 : decode prog_14_method_115_code 65 = .ok (.istore 4, 2) := by decide +kernel
theorem dX12_layFar_67 : decode prog_14_method_115_code 67 = .ok (.iload 4, 2) := by decide +kernel
theorem dX12_layFar_69 : decode prog_14_method_115_code 69 = .ok (.bipush 6, 2) := by decide +kernel
theorem dX12_layFar_71 : decode prog_14_method_115_code 71 = .ok (.if_icmp .ge 110, 3) := by decide +kernel
theorem dX12_layFar_74 : decode prog_14_method_115_code 74 = .ok (.iload_n 3, 1) := by decide +kernel
theorem dX12_layFar_75 : decode prog_14_method_115_code 75 = .ok (.iload 4, 2) := by decide +kernel
theorem dX12_layFar_77 : decode prog_14_method_115_code 77 = .ok (.if_icmp .eq 98, 3) := by decide +kernel
theorem dX12_layFar_80 : decode prog_14_method_115_code 80 = .ok (.aload_n 0, 1) := by decide +kernel
theorem dX12_layFar_81 : decode prog_14_method_115_code 81 = .ok (.getfield 50, 3) := by decide +kernel
theorem dX12_layFar_84 : decode prog_14_method_115_code 84 = .ok (.iload 4, 2) := by decide +kernel
theorem dX12_layFar_86 : decode prog_14_method_115_code 86 = .ok (.iaload, 1) := by decide +kernel
theorem dX12_layFar_87 : decode prog_14_method_115_code 87 = .ok (.ldc_w 423, 3) := by decide +kernel
theorem dX12_layFar_90 : decode prog_14_method_115_code 90 = .ok (.if_icmp .eq 85, 3) := by decide +kernel
theorem dX12_layFar_93 : decode prog_14_method_115_code 93 = .ok (.aload_n 0, 1) := by decide +kernel
theorem dX12_layFar_94 : decode prog_14_method_115_code 94 = .ok (.iload_n 3, 1) := by decide +kernel
theorem dX12_layFar_95 : decode prog_14_method_115_code 95 = .ok (.iload 4, 2) := by decide +kernel
theorem dX12_layFar_97 : decode prog_14_method_115_code 97 = .ok (.invokevirtual 420, 3) := by decide +kernel
theorem dX12_layFar_100 : decode prog_14_method_115_code 100 = .ok (.iconst (-1), 1) := by decide +kernel
theorem dX12_layFar_101 : decode prog_14_method_115_code 101 = .ok (.if_icmp .eq 74, 3) := by decide +kernel
theorem dX12_layFar_104 : decode prog_14_method_115_code 104 = .ok (.aload_n 0, 1) := by decide +kernel
theorem dX12_layFar_105 : decode prog_14_method_115_code 105 = .ok (.iload_n 3, 1) := by decide +kernel
theorem dX12_layFar_106 : decode prog_14_method_115_code 106 = .ok (.aload_n 0, 1) := by decide +kernel
theorem dX12_layFar_107 : decode prog_14_method_115_code 107 = .ok (.getfield 50, 3) := by decide +kernel
theorem dX12_layFar_110 : decode prog_14_method_115_code 110 = .ok (.iload 4, 2) := by decide +kernel
theorem dX12_layFar_112 : decode prog_14_method_115_code 112 = .ok (.iaload, 1) := by decide +kernel
theorem dX12_layFar_113 : decode prog_14_method_115_code 113 = .ok (.aload_n 0, 1) := by decide +kernel
theorem dX12_layFar_114 : decode prog_14_method_115_code 114 = .ok (.iload_n 3, 1) := by decide +kernel
theorem dX12_layFar_115 : decode prog_14_method_115_code 115 = .ok (.iload 4, 2) := by decide +kernel
theorem dX12_layFar_117 : decode prog_14_method_115_code 117 = .ok (.invokevirtual 420, 3) := by decide +kernel
theorem dX12_layFar_120 : decode prog_14_method_115_code 120 = .ok (.iadd, 1) := by decide +kernel
theorem dX12_layFar_121 : decode prog_14_method_115_code 121 = .ok (.aload_n 0, 1) := by decide +kernel
theorem dX12_layFar_122 : decode prog_14_method_115_code 122 = .ok (.getfield 53, 3) := by decide +kernel
theorem dX12_layFar_125 : decode prog_14_method_115_code 125 = .ok (.iload 4, 2) := by decide +kernel
theorem dX12_layFar_127 : decode prog_14_method_115_code 127 = .ok (.iaload, 1) := by decide +kernel
theorem dX12_layFar_128 : decode prog_14_method_115_code 128 = .ok (.iconst 1, 1) := by decide +kernel
theorem dX12_layFar_129 : decode prog_14_method_115_code 129 = .ok (.iadd, 1) := by decide +kernel
theorem dX12_layFar_130 : decode prog_14_method_115_code 130 = .ok (.invokevirtual 424, 3) := by decide +kernel
theorem dX12_layFar_133 : decode prog_14_method_115_code 133 = .ok (.ifCond .ne 6, 3) := by decide +kernel
theorem dX12_layFar_136 : decode prog_14_method_115_code 136 = .ok (.goto 39, 3) := by decide +kernel
theorem dX12_layFar_139 : decode prog_14_method_115_code 139 = .ok (.aload_n 0, 1) := by decide +kernel
theorem dX12_layFar_140 : decode prog_14_method_115_code 140 = .ok (.getfield 50, 3) := by decide +kernel
theorem dX12_layFar_143 : decode prog_14_method_115_code 143 = .ok (.iload_n 3, 1) := by decide +kernel
theorem dX12_layFar_144 : decode prog_14_method_115_code 144 = .ok (.aload_n 0, 1) := by decide +kernel
theorem dX12_layFar_145 : decode prog_14_method_115_code 145 = .ok (.getfield 50, 3) := by decide +kernel
theorem dX12_layFar_148 : decode prog_14_method_115_code 148 = .ok (.iload 4, 2) := by decide +kernel
theorem dX12_layFar_150 : decode prog_14_method_115_code 150 = .ok (.iaload, 1) := by decide +kernel
theorem dX12_layFar_151 : decode prog_14_method_115_code 151 = .ok (.aload_n 0, 1) := by decide +kernel
theorem dX12_layFar_152 : decode prog_14_method_115_code 152 = .ok (.iload_n 3, 1) := by decide +kernel
theorem dX12_layFar_153 : decode prog_14_method_115_code 153 = .ok (.iload 4, 2) := by decide +kernel
theorem dX12_layFar_155 : decode prog_14_method_115_code 155 = .ok (.invokevirtual 420, 3) := by decide +kernel
theorem dX12_layFar_158 : decode prog_14_method_115_code 158 = .ok (.iadd, 1) := by decide +kernel
theorem dX12_layFar_159 : decode prog_14_method_115_code 159 = .ok (.iastore, 1) := by decide +kernel
theorem dX12_layFar_160 : decode prog_14_method_115_code 160 = .ok (.aload_n 0, 1) := by decide +kernel
theorem dX12_layFar_161 : decode prog_14_method_115_code 161 = .ok (.getfield 53, 3) := by decide +kernel
theorem dX12_layFar_164 : decode prog_14_method_115_code 164 = .ok (.iload_n 3, 1) := by decide +kernel
theorem dX12_layFar_165 : decode prog_14_method_115_code 165 = .ok (.aload_n 0, 1) := by decide +kernel
theorem dX12_layFar_166 : decode prog_14_method_115_code 166 = .ok (.getfield 53, 3) := by decide +kernel
theorem dX12_layFar_169 : decode prog_14_method_115_code 169 = .ok (.iload 4, 2) := by decide +kernel
theorem dX12_layFar_171 : decode prog_14_method_115_code 171 = .ok (.iaload, 1) := by decide +kernel
theorem dX12_layFar_172 : decode prog_14_method_115_code 172 = .ok (.iconst 1, 1) := by decide +kernel
theorem dX12_layFar_173 : decode prog_14_method_115_code 173 = .ok (.iadd, 1) := by decide +kernel
theorem dX12_layFar_174 : decode prog_14_method_115_code 174 = .ok (.iastore, 1) := by decide +kernel
theorem dX12_layFar_175 : decode prog_14_method_115_code 175 = .ok (.iinc 4 1, 3) := by decide +kernel
theorem dX12_layFar_178 : decode prog_14_method_115_code 178 = .ok (.goto (-111), 3) := by decide +kernel
theorem dX12_layFar_181 : decode prog_14_method_115_code 181 = .ok (.iinc 3 1, 3) := by decide +kernel
theorem dX12_layFar_184 : decode prog_14_method_115_code 184 = .ok (.goto (-126), 3) := by decide +kernel
theorem dX12_layFar_187 : decode prog_14_method_115_code 187 = .ok (.iinc 2 1, 3) := by decide +kernel
theorem dX12_layFar_190 : decode prog_14_method_115_code 190 = .ok (.goto (-140), 3) := by decide +kernel
theorem dX12_layFar_193 : decode prog_14_method_115_code 193 = .ok (.return_, 1) := by decide +kernel
theorem lp1_layFar {q : Nat} (cs : CS S R) (hA : I 307 = A) (hN : BN A) (hT : RTx (I 309) A tx) (hn : 7 ≤ n)  {p t : Nat} {F : Nat → Int} (hp6 : p < 6) (hG : GK (cstA A tx) q F) (hF : FB F) (hK : ∀ J, RF J (rlK (cstA A tx) F p 6) → Fy I J → WP n 0 0 mX12_layFar Post 181 [(0, .ref (S.2.1 306)), (1, .int (iI (q : Int))), (2, .int (iI (t : Int))), (3, .int (iI (p : Int)))] [] 0 0 S J R) : ∀ (d r : Nat) (J : CI), r ≤ 6 → 6 - r = d → RF J (rlK (cstA A tx) F p r) → Fy I J → WP n 0 0 mX12_layFar Post 67 [(0, .ref (S.2.1 306)), (1, .int (iI (q : Int))), (2, .int (iI (t : Int))), (3, .int (iI (p : Int))), (4, .int (iI (r : Int)))] [] 0 0 S J R := by
  have hc := cst_r (tx := tx) hN
  intro d
  induction d using Nat.strongRecOn with
  | ind d ih =>
    intro r J r1 r2 hR hY
    obtain ⟨g, hg⟩ : ∃ g, g = rlK (cstA A tx) F p r := ⟨_, rfl⟩
    have hGg : GK (cstA A tx) q g := by rw [hg]; exact GK_K hc hp6 hG hF r r1
    have hFg : FB g := by rw [hg]; exact rlK_b hc hF r
    rw [← hg] at hR
    have es : rlK (cstA A tx) F p (r + 1) = upA g p (if g p ≤ fbE (cstA A tx) g p r then g p else fbE (cstA A tx) g p r) := by rw [hg]; rfl
    have aJ : J 307 = A := by rw [hY 307 (by omega) (by omega) (by omega) (by omega) (by omega)]; exact hA
    have tJ : RTx (J 309) A tx := by rw [hY 309 (by omega) (by omega) (by omega) (by omega) (by omega)]; exact hT
    have gp := hR p hp6
    have gp2 : g p < 10000000 → _ := fun h => gk_d hc hGg hp6 h
    have gp3 := hFg p
    have gr3 := hFg r
    have hcr := hc p r
    have hfb : fbE (cstA A tx) g p r = if cstA A tx p r = -1 ∨ 10000000 ≤ g r then 10000000 else g r + cstA A tx p r * 8 + 1 := rfl
    refine x_iload dX12_layFar_67 rfl ?_
    refine x_bipush dX12_layFar_69 (by decide) ?_
    refine x_icmp_ge 181 dX12_layFar_71 (by decide) ⟨(by omega), (by omega)⟩ (fun w71 => ?_) (fun w71 => ?_)
    · refine x_sub [0, 1, 2, 3] rfl ?_
      obtain rfl : r = 6 := by omega
      exact hK J (by rw [← hg]; exact hR) hY
    · refine x_iload_n dX12_layFar_74 rfl ?_
      refine x_iload dX12_layFar_75 rfl ?_
      refine x_icmp_eq 175 dX12_layFar_77 (by decide) ⟨(by omega), (by omega)⟩ (fun w77 => ?_) (fun w77 => ?_)
      · refine x_iinc (lv2 := [(4, _), (0, _), (1, _), (2, _), (3, _)]) dX12_layFar_175 rfl (by decide) rfl ?_
        refine x_goto 67 dX12_layFar_178 (by decide) ?_
        refine x_sub [1, 2, 3, 4, 0] rfl ?_
        first
          | (have hle : g p ≤ fbE (cstA A tx) g p r := (by
               rw [hfb]
               first
                 | (rw [if_pos (Or.inl (by first | omega | (have e : p = r := (by omega); rw [← e]; exact cst_d p)))]; omega)
                 | (rw [if_pos (Or.inr (by omega))]; omega)
                 | (rw [if_neg (by omega)]; omega))
             have ek : rlK (cstA A tx) F p (r + 1) = g := (by rw [es, if_pos hle, upA_id])
             exact ih _ (by omega) (r + 1) J (by omega) rfl (by rw [ek]; exact hR) hY)
          | (have hle : g p ≤ fbE (cstA A tx) g p r := (by
               rw [hfb]
               first
                 | (rw [if_pos (Or.inl (by first | omega | (have e : p = r := (by omega); rw [← e]; exact cst_d p)))]; omega)
                 | (rw [if_pos (Or.inr (by omega))]; omega)
                 | (rw [if_neg (by omega)]; omega))
             have ek : rlK (cstA A tx) F p (r + 1) = g := (by rw [es, if_pos hle, upA_id])
             exact ih _ (by omega) (r + 1) J97 (by omega) rfl (by rw [ek]; exact RF_fd f97 hR) (Fy.tr hY (FD.y f97)))
          | (have hle : g p ≤ fbE (cstA A tx) g p r := (by
               rw [hfb]
               first
                 | (rw [if_pos (Or.inl (by first | omega | (have e : p = r := (by omega); rw [← e]; exact cst_d p)))]; omega)
                 | (rw [if_pos (Or.inr (by omega))]; omega)
                 | (rw [if_neg (by omega)]; omega))
             have ek : rlK (cstA A tx) F p (r + 1) = g := (by rw [es, if_pos hle, upA_id])
             exact ih _ (by omega) (r + 1) J117 (by omega) rfl (by rw [ek]; exact RF_fd f117 (RF_fd f97 hR)) (Fy.tr (Fy.tr hY (FD.y f97)) (FD.y f117)))
          | (rw [tN p]
             have hnw : fbE (cstA A tx) g p r = g r + cstA A tx p r * 8 + 1 := (by rw [hfb]; exact if_neg (by omega))
             have hlt : fbE (cstA A tx) g p r < g p := (by omega)
             have ek : rlK (cstA A tx) F p (r + 1) = upA g p (g r + cstA A tx p r * 8 + 1) := (by rw [es, if_neg (by omega), hnw])
             refine ih _ (by omega) (r + 1) _ (by omega) rfl (fun i hi => ?_) (fun c h1 h2 h3 h4 h5 => by rw [uI_row h5, uI_row h4, f155 c h1 h2 h3, f117 c h1 h2 h3, f97 c h1 h2 h3]; exact hY c h1 h2 h3 h4 h5)
             rw [ek]
             by_cases e : i = p
             · subst e
               rw [upA_s, uI_s, uI_row (by omega), uI_s]
               omega
             · rw [upA_o e]
               (repeat rw [uI_o (Or.inr e)])
               rw [f155 316 (by omega) (by omega) (by omega), f117 316 (by omega) (by omega) (by omega), f97 316 (by omega) (by omega) (by omega), f155 317 (by omega) (by omega) (by omega), f117 317 (by omega) (by omega) (by omega), f97 317 (by omega) (by omega) (by omega)]
               exact hR i hi)
      · have gr := hR r (by omega)
        have gr2 : g r < 10000000 → _ := fun h => gk_d hc hGg (by omega : r < 6) h
        refine x_aload_n dX12_layFar_80 rfl ?_
        refine x_getR (b := 316) dX12_layFar_81 gf_RX12_50 (k_ob_306 cs) (fun _ _ => rfl) (k_r_306_26 cs) ?_
        refine x_iload dX12_layFar_84 rfl ?_
        refine x_iaload dX12_layFar_86 (k_ar_316 cs) (by omega) (by omega) ?_
        rw [tN]
        refine x_ldcw (z := 1000000) dX12_layFar_87 (bw_in (lwt_9 (List.mem_of_getElem? (i := 2) (by decide +kernel))) (by decide +kernel)) ?_
        refine x_icmp_eq 175 dX12_layFar_90 (by decide) ⟨(by omega), (by omega)⟩ (fun w90 => ?_) (fun w90 => ?_)
        · refine x_iinc (lv2 := [(4, _), (0, _), (1, _), (2, _), (3, _)]) dX12_layFar_175 rfl (by decide) rfl ?_
          refine x_goto 67 dX12_layFar_178 (by decide) ?_
          refine x_sub [1, 2, 3, 4, 0] rfl ?_
          first
            | (have hle : g p ≤ fbE (cstA A tx) g p r := (by
                 rw [hfb]
                 first
                   | (rw [if_pos (Or.inl (by first | omega | (have e : p = r := (by omega); rw [← e]; exact cst_d p)))]; omega)
                   | (rw [if_pos (Or.inr (by omega))]; omega)
                   | (rw [if_neg (by omega)]; omega))
               have ek : rlK (cstA A tx) F p (r + 1) = g := (by rw [es, if_pos hle, upA_id])
               exact ih _ (by omega) (r + 1) J (by omega) rfl (by rw [ek]; exact hR) hY)
            | (have hle : g p ≤ fbE (cstA A tx) g p r := (by
                 rw [hfb]
                 first
                   | (rw [if_pos (Or.inl (by first | omega | (have e : p = r := (by omega); rw [← e]; exact cst_d p)))]; omega)
                   | (rw [if_pos (Or.inr (by omega))]; omega)
                   | (rw [if_neg (by omega)]; omega))
               have ek : rlK (cstA A tx) F p (r + 1) = g := (by rw [es, if_pos hle, upA_id])
               exact ih _ (by omega) (r + 1) J97 (by omega) rfl (by rw [ek]; exact RF_fd f97 hR) (Fy.tr hY (FD.y f97)))
            | (have hle : g p ≤ fbE (cstA A tx) g p r := (by
                 rw [hfb]
                 first
                   | (rw [if_pos (Or.inl (by first | omega | (have e : p = r := (by omega); rw [← e]; exact cst_d p)))]; omega)
                   | (rw [if_pos (Or.inr (by omega))]; omega)
                   | (rw [if_neg (by omega)]; omega))
               have ek : rlK (cstA A tx) F p (r + 1) = g := (by rw [es, if_pos hle, upA_id])
               exact ih _ (by omega) (r + 1) J117 (by omega) rfl (by rw [ek]; exact RF_fd f117 (RF_fd f97 hR)) (Fy.tr (Fy.tr hY (FD.y f97)) (FD.y f117)))
            | (rw [tN p]
               have hnw : fbE (cstA A tx) g p r = g r + cstA A tx p r * 8 + 1 := (by rw [hfb]; exact if_neg (by omega))
               have hlt : fbE (cstA A tx) g p r < g p := (by omega)
               have ek : rlK (cstA A tx) F p (r + 1) = upA g p (g r + cstA A tx p r * 8 + 1) := (by rw [es, if_neg (by omega), hnw])
               refine ih _ (by omega) (r + 1) _ (by omega) rfl (fun i hi => ?_) (fun c h1 h2 h3 h4 h5 => by rw [uI_row h5, uI_row h4, f155 c h1 h2 h3, f117 c h1 h2 h3, f97 c h1 h2 h3]; exact hY c h1 h2 h3 h4 h5)
               rw [ek]
               by_cases e : i = p
               · subst e
                 rw [upA_s, uI_s, uI_row (by omega), uI_s]
                 omega
               · rw [upA_o e]
                 (repeat rw [uI_o (Or.inr e)])
                 rw [f155 316 (by omega) (by omega) (by omega), f117 316 (by omega) (by omega) (by omega), f97 316 (by omega) (by omega) (by omega), f155 317 (by omega) (by omega) (by omega), f117 317 (by omega) (by omega) (by omega), f97 317 (by omega) (by omega) (by omega)]
                 exact hR i hi)
        · refine x_aload_n dX12_layFar_93 rfl ?_
          refine x_iload_n dX12_layFar_94 rfl ?_
          refine x_iload dX12_layFar_95 rfl ?_
          refine x_callV2 (mc1 := 0) (ms1 := 0) dX12_layFar_97 cv_RX12_420 (ci := 12) (k_ob_306 cs) rfl (Nat.le_of_ble_eq_true rfl) (n1 := n - 1) (by omega) (by omega) (by omega) ?_
          refine sp_X12_costOf cs aJ hN tJ ⟨by omega, by omega⟩ (by omega) (by omega) (fun J97 f97 => ?_)
          refine x_iconst dX12_layFar_100 ?_
          refine x_icmp_eq 175 dX12_layFar_101 (by decide) ⟨(by omega), (by omega)⟩ (fun w101 => ?_) (fun w101 => ?_)
          · refine x_iinc (lv2 := [(4, _), (0, _), (1, _), (2, _), (3, _)]) dX12_layFar_175 rfl (by decide) rfl ?_
            refine x_goto 67 dX12_layFar_178 (by decide) ?_
            refine x_sub [1, 2, 3, 4, 0] rfl ?_
            first
              | (have hle : g p ≤ fbE (cstA A tx) g p r := (by
                   rw [hfb]
                   first
                     | (rw [if_pos (Or.inl (by first | omega | (have e : p = r := (by omega); rw [← e]; exact cst_d p)))]; omega)
                     | (rw [if_pos (Or.inr (by omega))]; omega)
                     | (rw [if_neg (by omega)]; omega))
                 have ek : rlK (cstA A tx) F p (r + 1) = g := (by rw [es, if_pos hle, upA_id])
                 exact ih _ (by omega) (r + 1) J (by omega) rfl (by rw [ek]; exact hR) hY)
              | (have hle : g p ≤ fbE (cstA A tx) g p r := (by
                   rw [hfb]
                   first
                     | (rw [if_pos (Or.inl (by first | omega | (have e : p = r := (by omega); rw [← e]; exact cst_d p)))]; omega)
                     | (rw [if_pos (Or.inr (by omega))]; omega)
                     | (rw [if_neg (by omega)]; omega))
                 have ek : rlK (cstA A tx) F p (r + 1) = g := (by rw [es, if_pos hle, upA_id])
                 exact ih _ (by omega) (r + 1) J97 (by omega) rfl (by rw [ek]; exact RF_fd f97 hR) (Fy.tr hY (FD.y f97)))
              | (have hle : g p ≤ fbE (cstA A tx) g p r := (by
                   rw [hfb]
                   first
                     | (rw [if_pos (Or.inl (by first | omega | (have e : p = r := (by omega); rw [← e]; exact cst_d p)))]; omega)
                     | (rw [if_pos (Or.inr (by omega))]; omega)
                     | (rw [if_neg (by omega)]; omega))
                 have ek : rlK (cstA A tx) F p (r + 1) = g := (by rw [es, if_pos hle, upA_id])
                 exact ih _ (by omega) (r + 1) J117 (by omega) rfl (by rw [ek]; exact RF_fd f117 (RF_fd f97 hR)) (Fy.tr (Fy.tr hY (FD.y f97)) (FD.y f117)))
              | (rw [tN p]
                 have hnw : fbE (cstA A tx) g p r = g r + cstA A tx p r * 8 + 1 := (by rw [hfb]; exact if_neg (by omega))
                 have hlt : fbE (cstA A tx) g p r < g p := (by omega)
                 have ek : rlK (cstA A tx) F p (r + 1) = upA g p (g r + cstA A tx p r * 8 + 1) := (by rw [es, if_neg (by omega), hnw])
                 refine ih _ (by omega) (r + 1) _ (by omega) rfl (fun i hi => ?_) (fun c h1 h2 h3 h4 h5 => by rw [uI_row h5, uI_row h4, f155 c h1 h2 h3, f117 c h1 h2 h3, f97 c h1 h2 h3]; exact hY c h1 h2 h3 h4 h5)
                 rw [ek]
                 by_cases e : i = p
                 · subst e
                   rw [upA_s, uI_s, uI_row (by omega), uI_s]
                   omega
                 · rw [upA_o e]
                   (repeat rw [uI_o (Or.inr e)])
                   rw [f155 316 (by omega) (by omega) (by omega), f117 316 (by omega) (by omega) (by omega), f97 316 (by omega) (by omega) (by omega), f155 317 (by omega) (by omega) (by omega), f117 317 (by omega) (by omega) (by omega), f97 317 (by omega) (by omega) (by omega)]
                   exact hR i hi)
          · have gr4 := gr2 (by omega)
            refine x_aload_n dX12_layFar_104 rfl ?_
            refine x_iload_n dX12_layFar_105 rfl ?_
            refine x_aload_n dX12_layFar_106 rfl ?_
            refine x_getR (b := 316) dX12_layFar_107 gf_RX12_50 (k_ob_306 cs) (fun _ _ => rfl) (k_r_306_26 cs) ?_
            refine x_iload dX12_layFar_110 rfl ?_
            refine x_iaload dX12_layFar_112 (k_ar_316 cs) (by omega) (by omega) ?_
            rw [tN, f97 316 (by omega) (by omega) (by omega)]
            refine x_aload_n dX12_layFar_113 rfl ?_
            refine x_iload_n dX12_layFar_114 rfl ?_
            refine x_iload dX12_layFar_115 rfl ?_
            refine x_callV2 (mc1 := 0) (ms1 := 0) dX12_layFar_117 cv_RX12_420 (ci := 12) (k_ob_306 cs) rfl (Nat.le_of_ble_eq_true rfl) (n1 := n - 1) (by omega) (by omega) (by omega) ?_
            refine sp_X12_costOf cs (by rw [f97 307 (by omega) (by omega) (by omega)]; exact aJ) hN (by rw [f97 309 (by omega) (by omega) (by omega)]; exact tJ) ⟨by omega, by omega⟩ (by omega) (by omega) (fun J117 f117 => ?_)
            refine x_iadd dX12_layFar_120 ?_
            refine x_aload_n dX12_layFar_121 rfl ?_
            refine x_getR (b := 317) dX12_layFar_122 gf_RX12_53 (k_ob_306 cs) (fun _ _ => rfl) (k_r_306_27 cs) ?_
            refine x_iload dX12_layFar_125 rfl ?_
            refine x_iaload dX12_layFar_127 (k_ar_317 cs) (by omega) (by omega) ?_
            rw [tN, f117 317 (by omega) (by omega) (by omega), f97 317 (by omega) (by omega) (by omega)]
            refine x_iconst dX12_layFar_128 ?_
            refine x_iadd dX12_layFar_129 ?_
            refine x_callV3 (mc1 := 0) (ms1 := 0) dX12_layFar_130 cv_RX12_424 (ci := 12) (k_ob_306 cs) rfl (Nat.le_of_ble_eq_true rfl) (n1 := n - 1) (by omega) (by omega) (by omega) ?_
            refine sp_X12_isNearer cs hp6 (by rw [f117 316 (by omega) (by omega) (by omega), f97 316 (by omega) (by omega) (by omega)]; omega) (by rw [f117 317 (by omega) (by omega) (by omega), f97 317 (by omega) (by omega) (by omega)]; omega) (by omega) (by omega) (fun r130 hr130 => ?_)
            rw [f117 316 (by omega) (by omega) (by omega), f97 316 (by omega) (by omega) (by omega), f117 317 (by omega) (by omega) (by omega), f97 317 (by omega) (by omega) (by omega)] at hr130
            refine x_if_ne 139 dX12_layFar_133 (by decide) (by omega) (fun w133 => ?_) (fun w133 => ?_)
            · refine x_aload_n dX12_layFar_139 rfl ?_
              refine x_getR (b := 316) dX12_layFar_140 gf_RX12_50 (k_ob_306 cs) (fun _ _ => rfl) (k_r_306_26 cs) ?_
              refine x_iload_n dX12_layFar_143 rfl ?_
              refine x_aload_n dX12_layFar_144 rfl ?_
              refine x_getR (b := 316) dX12_layFar_145 gf_RX12_50 (k_ob_306 cs) (fun _ _ => rfl) (k_r_306_26 cs) ?_
              refine x_iload dX12_layFar_148 rfl ?_
              refine x_iaload dX12_layFar_150 (k_ar_316 cs) (by omega) (by omega) ?_
              rw [tN, f117 316 (by omega) (by omega) (by omega), f97 316 (by omega) (by omega) (by omega)]
              refine x_aload_n dX12_layFar_151 rfl ?_
              refine x_iload_n dX12_layFar_152 rfl ?_
              refine x_iload dX12_layFar_153 rfl ?_
              refine x_callV2 (mc1 := 0) (ms1 := 0) dX12_layFar_155 cv_RX12_420 (ci := 12) (k_ob_306 cs) rfl (Nat.le_of_ble_eq_true rfl) (n1 := n - 1) (by omega) (by omega) (by omega) ?_
              refine sp_X12_costOf cs (by rw [f117 307 (by omega) (by omega) (by omega), f97 307 (by omega) (by omega) (by omega)]; exact aJ) hN (by rw [f117 309 (by omega) (by omega) (by omega), f97 309 (by omega) (by omega) (by omega)]; exact tJ) ⟨by omega, by omega⟩ (by omega) (by omega) (fun J155 f155 => ?_)
              refine x_iadd dX12_layFar_158 ?_
              refine x_iastore dX12_layFar_159 (k_ar_316 cs) (by omega) (by omega) ?_
              refine x_aload_n dX12_layFar_160 rfl ?_
              refine x_getR (b := 317) dX12_layFar_161 gf_RX12_53 (k_ob_306 cs) (fun _ _ => rfl) (k_r_306_27 cs) ?_
              refine x_iload_n dX12_layFar_164 rfl ?_
              refine x_aload_n dX12_layFar_165 rfl ?_
              refine x_getR (b := 317) dX12_layFar_166 gf_RX12_53 (k_ob_306 cs) (fun _ _ => rfl) (k_r_306_27 cs) ?_
              refine x_iload dX12_layFar_169 rfl ?_
              refine x_iaload dX12_layFar_171 (k_ar_317 cs) (by omega) (by omega) ?_
              rw [tN r, uI_row (by omega), f155 317 (by omega) (by omega) (by omega), f117 317 (by omega) (by omega) (by omega), f97 317 (by omega) (by omega) (by omega)]
              refine x_iconst dX12_layFar_172 ?_
              refine x_iadd dX12_layFar_173 ?_
              refine x_iastore dX12_layFar_174 (k_ar_317 cs) (by omega) (by omega) ?_
              refine x_iinc (lv2 := [(4, _), (0, _), (1, _), (2, _), (3, _)]) dX12_layFar_175 rfl (by decide) rfl ?_
              refine x_goto 67 dX12_layFar_178 (by decide) ?_
              refine x_sub [1, 2, 3, 4, 0] rfl ?_
              first
                | (have hle : g p ≤ fbE (cstA A tx) g p r := (by
                     rw [hfb]
                     first
                       | (rw [if_pos (Or.inl (by first | omega | (have e : p = r := (by omega); rw [← e]; exact cst_d p)))]; omega)
                       | (rw [if_pos (Or.inr (by omega))]; omega)
                       | (rw [if_neg (by omega)]; omega))
                   have ek : rlK (cstA A tx) F p (r + 1) = g := (by rw [es, if_pos hle, upA_id])
                   exact ih _ (by omega) (r + 1) J (by omega) rfl (by rw [ek]; exact hR) hY)
                | (have hle : g p ≤ fbE (cstA A tx) g p r := (by
                     rw [hfb]
                     first
                       | (rw [if_pos (Or.inl (by first | omega | (have e : p = r := (by omega); rw [← e]; exact cst_d p)))]; omega)
                       | (rw [if_pos (Or.inr (by omega))]; omega)
                       | (rw [if_neg (by omega)]; omega))
                   have ek : rlK (cstA A tx) F p (r + 1) = g := (by rw [es, if_pos hle, upA_id])
                   exact ih _ (by omega) (r + 1) J97 (by omega) rfl (by rw [ek]; exact RF_fd f97 hR) (Fy.tr hY (FD.y f97)))
                | (have hle : g p ≤ fbE (cstA A tx) g p r := (by
                     rw [hfb]
                     first
                       | (rw [if_pos (Or.inl (by first | omega | (have e : p = r := (by omega); rw [← e]; exact cst_d p)))]; omega)
                       | (rw [if_pos (Or.inr (by omega))]; omega)
                       | (rw [if_neg (by omega)]; omega))
                   have ek : rlK (cstA A tx) F p (r + 1) = g := (by rw [es, if_pos hle, upA_id])
                   exact ih _ (by omega) (r + 1) J117 (by omega) rfl (by rw [ek]; exact RF_fd f117 (RF_fd f97 hR)) (Fy.tr (Fy.tr hY (FD.y f97)) (FD.y f117)))
                | (rw [tN p]
                   have hnw : fbE (cstA A tx) g p r = g r + cstA A tx p r * 8 + 1 := (by rw [hfb]; exact if_neg (by omega))
                   have hlt : fbE (cstA A tx) g p r < g p := (by omega)
                   have ek : rlK (cstA A tx) F p (r + 1) = upA g p (g r + cstA A tx p r * 8 + 1) := (by rw [es, if_neg (by omega), hnw])
                   refine ih _ (by omega) (r + 1) _ (by omega) rfl (fun i hi => ?_) (fun c h1 h2 h3 h4 h5 => by rw [uI_row h5, uI_row h4, f155 c h1 h2 h3, f117 c h1 h2 h3, f97 c h1 h2 h3]; exact hY c h1 h2 h3 h4 h5)
                   rw [ek]
                   by_cases e : i = p
                   · subst e
                     rw [upA_s, uI_s, uI_row (by omega), uI_s]
                     omega
                   · rw [upA_o e]
                     (repeat rw [uI_o (Or.inr e)])
                     rw [f155 316 (by omega) (by omega) (by omega), f117 316 (by omega) (by omega) (by omega), f97 316 (by omega) (by omega) (by omega), f155 317 (by omega) (by omega) (by omega), f117 317 (by omega) (by omega) (by omega), f97 317 (by omega) (by omega) (by omega)]
                     exact hR i hi)
            · refine x_goto 175 dX12_layFar_136 (by decide) ?_
              refine x_iinc (lv2 := [(4, _), (0, _), (1, _), (2, _), (3, _)]) dX12_layFar_175 rfl (by decide) rfl ?_
              refine x_goto 67 dX12_layFar_178 (by decide) ?_
              refine x_sub [1, 2, 3, 4, 0] rfl ?_
              first
                | (have hle : g p ≤ fbE (cstA A tx) g p r := (by
                     rw [hfb]
                     first
                       | (rw [if_pos (Or.inl (by first | omega | (have e : p = r := (by omega); rw [← e]; exact cst_d p)))]; omega)
                       | (rw [if_pos (Or.inr (by omega))]; omega)
                       | (rw [if_neg (by omega)]; omega))
                   have ek : rlK (cstA A tx) F p (r + 1) = g := (by rw [es, if_pos hle, upA_id])
                   exact ih _ (by omega) (r + 1) J (by omega) rfl (by rw [ek]; exact hR) hY)
                | (have hle : g p ≤ fbE (cstA A tx) g p r := (by
                     rw [hfb]
                     first
                       | (rw [if_pos (Or.inl (by first | omega | (have e : p = r := (by omega); rw [← e]; exact cst_d p)))]; omega)
                       | (rw [if_pos (Or.inr (by omega))]; omega)
                       | (rw [if_neg (by omega)]; omega))
                   have ek : rlK (cstA A tx) F p (r + 1) = g := (by rw [es, if_pos hle, upA_id])
                   exact ih _ (by omega) (r + 1) J97 (by omega) rfl (by rw [ek]; exact RF_fd f97 hR) (Fy.tr hY (FD.y f97)))
                | (have hle : g p ≤ fbE (cstA A tx) g p r := (by
                     rw [hfb]
                     first
                       | (rw [if_pos (Or.inl (by first | omega | (have e : p = r := (by omega); rw [← e]; exact cst_d p)))]; omega)
                       | (rw [if_pos (Or.inr (by omega))]; omega)
                       | (rw [if_neg (by omega)]; omega))
                   have ek : rlK (cstA A tx) F p (r + 1) = g := (by rw [es, if_pos hle, upA_id])
                   exact ih _ (by omega) (r + 1) J117 (by omega) rfl (by rw [ek]; exact RF_fd f117 (RF_fd f97 hR)) (Fy.tr (Fy.tr hY (FD.y f97)) (FD.y f117)))
                | (rw [tN p]
                   have hnw : fbE (cstA A tx) g p r = g r + cstA A tx p r * 8 + 1 := (by rw [hfb]; exact if_neg (by omega))
                   have hlt : fbE (cstA A tx) g p r < g p := (by omega)
                   have ek : rlK (cstA A tx) F p (r + 1) = upA g p (g r + cstA A tx p r * 8 + 1) := (by rw [es, if_neg (by omega), hnw])
                   refine ih _ (by omega) (r + 1) _ (by omega) rfl (fun i hi => ?_) (fun c h1 h2 h3 h4 h5 => by rw [uI_row h5, uI_row h4, f155 c h1 h2 h3, f117 c h1 h2 h3, f97 c h1 h2 h3]; exact hY c h1 h2 h3 h4 h5)
                   rw [ek]
                   by_cases e : i = p
                   · subst e
                     rw [upA_s, uI_s, uI_row (by omega), uI_s]
                     omega
                   · rw [upA_o e]
                     (repeat rw [uI_o (Or.inr e)])
                     rw [f155 316 (by omega) (by omega) (by omega), f117 316 (by omega) (by omega) (by omega), f97 316 (by omega) (by omega) (by omega), f155 317 (by omega) (by omega) (by omega), f117 317 (by omega) (by omega) (by omega), f97 317 (by omega) (by omega) (by omega)]
                     exact hR i hi)
theorem lp2_layFar {q : Nat} (cs : CS S R) (hA : I 307 = A) (hN : BN A) (hT : RTx (I 309) A tx) (hn : 7 ≤ n)  {t : Nat} {F : Nat → Int} (hG : GK (cstA A tx) q F) (hF : FB F) (hK : ∀ J, RF J (rlP (cstA A tx) F 6) → Fy I J → WP n 0 0 mX12_layFar Post 187 [(0, .ref (S.2.1 306)), (1, .int (iI (q : Int))), (2, .int (iI (t : Int)))] [] 0 0 S J R) : ∀ (d p : Nat) (J : CI), p ≤ 6 → 6 - p = d → RF J (rlP (cstA A tx) F p) → Fy I J → WP n 0 0 mX12_layFar Post 58 [(0, .ref (S.2.1 306)), (1, .int (iI (q : Int))), (2, .int (iI (t : Int))), (3, .int (iI (p : Int)))] [] 0 0 S J R := by
  have hc := cst_r (tx := tx) hN
  intro d
  induction d using Nat.strongRecOn with
  | ind d ih =>
    intro p J p1 p2 hR hY
    have aJ : J 307 = A := by rw [hY 307 (by omega) (by omega) (by omega) (by omega) (by omega)]; exact hA
    have tJ : RTx (J 309) A tx := by rw [hY 309 (by omega) (by omega) (by omega) (by omega) (by omega)]; exact hT
    refine x_iload_n dX12_layFar_58 rfl ?_
    refine x_bipush dX12_layFar_59 (by decide) ?_
    refine x_icmp_ge 187 dX12_layFar_61 (by decide) ⟨(by omega), (by omega)⟩ (fun w61 => ?_) (fun w61 => ?_)
    · refine x_sub [0, 1, 2] rfl ?_
      obtain rfl : p = 6 := by omega
      exact hK J hR hY
    · refine x_iconst dX12_layFar_64 ?_
      refine x_istore (lv2 := [(4, _), (0, _), (1, _), (2, _), (3, _)]) dX12_layFar_65 (by decide) rfl ?_
      refine x_sub [1, 2, 3, 4, 0] rfl ?_
      refine lp1_layFar (I := J) (q := q) (t := t) cs aJ hN tJ hn (by omega) (GK_P hc hG hF p (by omega)) (rlP_b hc hF p) (fun J1 h1 y1 => ?_) _ 0 J (by omega) rfl hR Fy.rf
      refine x_iinc (lv2 := [(3, _), (0, _), (1, _), (2, _)]) dX12_layFar_181 rfl (by decide) rfl ?_
      refine x_goto 58 dX12_layFar_184 (by decide) ?_
      refine x_sub [1, 2, 3, 0] rfl ?_
      exact ih _ (by omega) (p + 1) J1 (by omega) rfl h1 (Fy.tr hY y1)
theorem lp3_layFar {q : Nat} (cs : CS S R) (hA : I 307 = A) (hN : BN A) (hT : RTx (I 309) A tx) (hn : 7 ≤ n)  (hp : ∀ J, RF J (msr (cstA A tx) q) → Fy I J → Post none S J R) : ∀ (d t : Nat) (J : CI), t ≤ 6 → 6 - t = d → RF J (rlR (cstA A tx) (fr0 q) t) → Fy I J → WP n 0 0 mX12_layFar Post 50 [(0, .ref (S.2.1 306)), (1, .int (iI (q : Int))), (2, .int (iI (t : Int)))] [] 0 0 S J R := by
  have hc := cst_r (tx := tx) hN
  intro d
  induction d using Nat.strongRecOn with
  | ind d ih =>
    intro t J p1 p2 hR hY
    have aJ : J 307 = A := by rw [hY 307 (by omega) (by omega) (by omega) (by omega) (by omega)]; exact hA
    have tJ : RTx (J 309) A tx := by rw [hY 309 (by omega) (by omega) (by omega) (by omega) (by omega)]; exact hT
    refine x_iload_n dX12_layFar_50 rfl ?_
    refine x_bipush dX12_layFar_51 (by decide) ?_
    refine x_icmp_ge 193 dX12_layFar_53 (by decide) ⟨(by omega), (by omega)⟩ (fun w53 => ?_) (fun w53 => ?_)
    · exact x_return dX12_layFar_193 rfl (by omega) (by omega) (by obtain rfl : t = 6 := (by omega); rw [msr_6 hc] at hR; exact hp _ hR hY)
    · refine x_iconst dX12_layFar_56 ?_
      refine x_istore_n (lv2 := [(3, _), (0, _), (1, _), (2, _)]) dX12_layFar_57 (by decide) rfl ?_
      refine x_sub [1, 2, 3, 0] rfl ?_
      refine lp2_layFar (I := J) (q := q) (t := t) cs aJ hN tJ hn (GK_R hc t) (rlR_b hc (fr0_b q) t) (fun J1 h1 y1 => ?_) _ 0 J (by omega) rfl hR Fy.rf
      refine x_iinc (lv2 := [(2, _), (0, _), (1, _)]) dX12_layFar_187 rfl (by decide) rfl ?_
      refine x_goto 50 dX12_layFar_190 (by decide) ?_
      refine x_sub [1, 2, 0] rfl ?_
      exact ih _ (by omega) (t + 1) J1 (by omega) rfl h1 (Fy.tr hY y1)
theorem lp0_layFar {q : Nat} (cs : CS S R) (hq : q < 6) (hK : ∀ J, RF J (fr0 q) → Fy I J → WP n 0 0 mX12_layFar Post 48 [(0, .ref (S.2.1 306)), (1, .int (iI (q : Int)))] [] 0 0 S J R) : ∀ (d p : Nat) (J : CI), p ≤ 6 → 6 - p = d → (∀ i, i < p → J 316 i = (if i = q then 0 else 1000000) ∧ J 317 i = (if i = q then 1 else 0)) → Fy I J → WP n 0 0 mX12_layFar Post 2 [(0, .ref (S.2.1 306)), (1, .int (iI (q : Int))), (2, .int (iI (p : Int)))] [] 0 0 S J R := by
  intro d
  induction d using Nat.strongRecOn with
  | ind d ih =>
    intro p J p1 p2 hR hY
    refine x_iload_n dX12_layFar_2 rfl ?_
    refine x_bipush dX12_layFar_3 (by decide) ?_
    refine x_icmp_ge 48 dX12_layFar_5 (by decide) ⟨(by omega), (by omega)⟩ (fun w5 => ?_) (fun w5 => ?_)
    · refine x_sub [0, 1] rfl ?_
      obtain rfl : p = 6 := by omega
      refine hK J (fun i hi => ?_) hY
      obtain ⟨h1, h2⟩ := hR i hi
      unfold fr0
      by_cases e : i = q
      · rw [if_pos e] at h1 h2 ⊢; omega
      · rw [if_neg e] at h1 h2 ⊢; omega
    · refine x_aload_n dX12_layFar_8 rfl ?_
      refine x_getR (b := 316) dX12_layFar_9 gf_RX12_50 (k_ob_306 cs) (fun _ _ => rfl) (k_r_306_26 cs) ?_
      refine x_iload_n dX12_layFar_12 rfl ?_
      refine x_iload_n dX12_layFar_13 rfl ?_
      refine x_iload_n dX12_layFar_14 rfl ?_
      refine x_icmp_ne 22 dX12_layFar_15 (by decide) ⟨(by omega), (by omega)⟩ (fun w15 => ?_) (fun w15 => ?_)
      · refine x_ldcw (z := 1000000) dX12_layFar_22 (bw_in (lwt_9 (List.mem_of_getElem? (i := 2) (by decide +kernel))) (by decide +kernel)) ?_
        refine x_iastore dX12_layFar_25 (k_ar_316 cs) (by omega) (by omega) ?_
        refine x_aload_n dX12_layFar_26 rfl ?_
        refine x_getR (b := 317) dX12_layFar_27 gf_RX12_53 (k_ob_306 cs) (fun _ _ => rfl) (k_r_306_27 cs) ?_
        refine x_iload_n dX12_layFar_30 rfl ?_
        refine x_iload_n dX12_layFar_31 rfl ?_
        refine x_iload_n dX12_layFar_32 rfl ?_
        refine x_icmp_ne 40 dX12_layFar_33 (by decide) ⟨(by omega), (by omega)⟩ (fun w33 => ?_) (fun w33 => ?_)
        · refine x_iconst dX12_layFar_40 ?_
          refine x_iastore dX12_layFar_41 (k_ar_317 cs) (by omega) (by omega) ?_
          refine x_iinc (lv2 := [(2, _), (0, _), (1, _)]) dX12_layFar_42 rfl (by decide) rfl ?_
          refine x_goto 2 dX12_layFar_45 (by decide) ?_
          refine x_sub [1, 2, 0] rfl ?_
          rw [tN p]
          refine ih _ (by omega) (p + 1) _ (by omega) rfl (fun i hi => ?_) (fun c h1 h2 h3 h4 h5 => by rw [uI_row h5, uI_row h4]; exact hY c h1 h2 h3 h4 h5)
          by_cases e : i = p
          · subst e
            rw [uI_s, uI_row (by omega), uI_s]
            first
              | (rw [if_pos (by omega), if_pos (by omega)]; exact ⟨rfl, rfl⟩)
              | (rw [if_neg (by omega), if_neg (by omega)]; exact ⟨rfl, rfl⟩)
              | (exfalso; omega)
          · (repeat rw [uI_o (Or.inr e)])
            exact hR i (by omega)
        · refine x_iconst dX12_layFar_36 ?_
          refine x_goto 41 dX12_layFar_37 (by decide) ?_
          refine x_iastore dX12_layFar_41 (k_ar_317 cs) (by omega) (by omega) ?_
          refine x_iinc (lv2 := [(2, _), (0, _), (1, _)]) dX12_layFar_42 rfl (by decide) rfl ?_
          refine x_goto 2 dX12_layFar_45 (by decide) ?_
          refine x_sub [1, 2, 0] rfl ?_
          rw [tN p]
          refine ih _ (by omega) (p + 1) _ (by omega) rfl (fun i hi => ?_) (fun c h1 h2 h3 h4 h5 => by rw [uI_row h5, uI_row h4]; exact hY c h1 h2 h3 h4 h5)
          by_cases e : i = p
          · subst e
            rw [uI_s, uI_row (by omega), uI_s]
            first
              | (rw [if_pos (by omega), if_pos (by omega)]; exact ⟨rfl, rfl⟩)
              | (rw [if_neg (by omega), if_neg (by omega)]; exact ⟨rfl, rfl⟩)
              | (exfalso; omega)
          · (repeat rw [uI_o (Or.inr e)])
            exact hR i (by omega)
      · refine x_iconst dX12_layFar_18 ?_
        refine x_goto 25 dX12_layFar_19 (by decide) ?_
        refine x_iastore dX12_layFar_25 (k_ar_316 cs) (by omega) (by omega) ?_
        refine x_aload_n dX12_layFar_26 rfl ?_
        refine x_getR (b := 317) dX12_layFar_27 gf_RX12_53 (k_ob_306 cs) (fun _ _ => rfl) (k_r_306_27 cs) ?_
        refine x_iload_n dX12_layFar_30 rfl ?_
        refine x_iload_n dX12_layFar_31 rfl ?_
        refine x_iload_n dX12_layFar_32 rfl ?_
        refine x_icmp_ne 40 dX12_layFar_33 (by decide) ⟨(by omega), (by omega)⟩ (fun w33 => ?_) (fun w33 => ?_)
        · refine x_iconst dX12_layFar_40 ?_
          refine x_iastore dX12_layFar_41 (k_ar_317 cs) (by omega) (by omega) ?_
          refine x_iinc (lv2 := [(2, _), (0, _), (1, _)]) dX12_layFar_42 rfl (by decide) rfl ?_
          refine x_goto 2 dX12_layFar_45 (by decide) ?_
          refine x_sub [1, 2, 0] rfl ?_
          rw [tN p]
          refine ih _ (by omega) (p + 1) _ (by omega) rfl (fun i hi => ?_) (fun c h1 h2 h3 h4 h5 => by rw [uI_row h5, uI_row h4]; exact hY c h1 h2 h3 h4 h5)
          by_cases e : i = p
          · subst e
            rw [uI_s, uI_row (by omega), uI_s]
            first
              | (rw [if_pos (by omega), if_pos (by omega)]; exact ⟨rfl, rfl⟩)
              | (rw [if_neg (by omega), if_neg (by omega)]; exact ⟨rfl, rfl⟩)
              | (exfalso; omega)
          · (repeat rw [uI_o (Or.inr e)])
            exact hR i (by omega)
        · refine x_iconst dX12_layFar_36 ?_
          refine x_goto 41 dX12_layFar_37 (by decide) ?_
          refine x_iastore dX12_layFar_41 (k_ar_317 cs) (by omega) (by omega) ?_
          refine x_iinc (lv2 := [(2, _), (0, _), (1, _)]) dX12_layFar_42 rfl (by decide) rfl ?_
          refine x_goto 2 dX12_layFar_45 (by decide) ?_
          refine x_sub [1, 2, 0] rfl ?_
          rw [tN p]
          refine ih _ (by omega) (p + 1) _ (by omega) rfl (fun i hi => ?_) (fun c h1 h2 h3 h4 h5 => by rw [uI_row h5, uI_row h4]; exact hY c h1 h2 h3 h4 h5)
          by_cases e : i = p
          · subst e
            rw [uI_s, uI_row (by omega), uI_s]
            first
              | (rw [if_pos (by omega), if_pos (by omega)]; exact ⟨rfl, rfl⟩)
              | (rw [if_neg (by omega), if_neg (by omega)]; exact ⟨rfl, rfl⟩)
              | (exfalso; omega)
          · (repeat rw [uI_o (Or.inr e)])
            exact hR i (by omega)
theorem sp_X12_layFar {q : Nat} (cs : CS S R) (hA : I 307 = A) (hN : BN A) (hT : RTx (I 309) A tx) (hq : q < 6) (hn : 7 ≤ n) (hp : ∀ J, RF J (msr (cstA A tx) q) → Fy I J → Post none S J R) : Call n 0 0 mX12_layFar [.ref (S.2.1 306), .int (iI (q : Int))] S I R Post := by
  refine Call.of (by decide +kernel) (Nat.le_of_ble_eq_true rfl) ?_
  show WP _ _ _ _ _ 0 [(0, _), (1, _)] [] 0 0 _ _ _
  refine x_iconst dX12_layFar_0 ?_
  refine x_istore_n (lv2 := [(2, _), (0, _), (1, _)]) dX12_layFar_1 (by decide) rfl ?_
  refine x_sub [1, 2, 0] rfl ?_
  refine lp0_layFar cs hq (fun J h1 y1 => ?_) _ 0 I (by omega) rfl (fun i hi => by omega) Fy.rf
  refine x_iconst dX12_layFar_48 ?_
  refine x_istore_n (lv2 := [(2, _), (0, _), (1, _)]) dX12_layFar_49 (by decide) rfl ?_
  refine x_sub [1, 2, 0] rfl ?_
  exact lp3_layFar (I := J) (q := q) cs (by rw [y1 307 (by omega) (by omega) (by omega) (by omega) (by omega)]; exact hA) hN (by rw [y1 309 (by omega) (by omega) (by omega) (by omega) (by omega)]; exact hT) hn (fun J2 h2 y2 => hp J2 h2 (Fy.tr y1 y2)) _ 0 J (by omega) rfl h1 Fy.rf
end Ref24
