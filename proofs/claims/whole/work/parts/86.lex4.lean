section Lex4
variable {n mc ms : Nat} {M : Md} {pc : Nat} {lv : List (Nat × Value)} {st : List Value} {k j : Nat} {Post : PT} {S : Sh} {I : CI} {R : CR} {A : Nat → Int} {tx : Nat → Nat → Int}
theorem dX5_advance_0 : decode prog_7_method_7_code 0 = .ok (.aload_n 0, 1) := by decide +kernel
theorem dX5_advance_1 : decode prog_7_method_7_code 1 = .ok (.getfield 71, 3) := by decide +kernel
theorem dX5_advance_4 : decode prog_7_method_7_code 4 = .ok (.aload_n 0, 1) := by decide +kernel
theorem dX5_advance_5 : decode prog_7_method_7_code 5 = .ok (.getfield 28, 3) := by decide +kernel
theorem dX5_advance_8 : decode prog_7_method_7_code 8 = .ok (.if_icmp .ge 44, 3) := by decide +kernel
theorem dX5_advance_11 : decode prog_7_method_7_code 11 = .ok (.aload_n 0, 1) := by decide +kernel
theorem dX5_advance_12 : decode prog_7_method_7_code 12 = .ok (.getfield 9, 3) := by decide +kernel
theorem dX5_advance_15 : decode prog_7_method_7_code 15 = .ok (.aload_n 0, 1) := by decide +kernel
theorem dX5_advance_16 : decode prog_7_method_7_code 16 = .ok (.getfield 71, 3) := by decide +kernel
theorem dX5_advance_19 : decode prog_7_method_7_code 19 = .ok (.iaload, 1) := by decide +kernel
theorem dX5_advance_20 : decode prog_7_method_7_code 20 = .ok (.bipush 32, 2) := by decide +kernel
theorem dX5_advance_22 : decode prog_7_method_7_code 22 = .ok (.if_icmp .eq 17, 3) := by decide +kernel
theorem dX5_advance_25 : decode prog_7_method_7_code 25 = .ok (.aload_n 0, 1) := by decide +kernel
theorem dX5_advance_26 : decode prog_7_method_7_code 26 = .ok (.getfield 9, 3) := by decide +kernel
theorem dX5_advance_29 : decode prog_7_method_7_code 29 = .ok (.aload_n 0, 1) := by decide +kernel
theorem dX5_advance_30 : decode prog_7_method_7_code 30 = .ok (.getfield 71, 3) := by decide +kernel
theorem dX5_advance_33 : decode prog_7_method_7_code 33 = .ok (.iaload, 1) := by decide +kernel
theorem dX5_advance_34 : decode prog_7_method_7_code 34 = .ok (.bipush 10, 2) := by decide +kernel
theorem dX5_advance_36 : decode prog_7_method_7_code 36 = .ok (.if_icmp .ne 16, 3) := by decide +kernel
theorem dX5_advance_39 : decode prog_7_method_7_code 39 = .ok (.aload_n 0, 1) := by decide +kernel
theorem dX5_advance_40 : decode prog_7_method_7_code 40 = .ok (.dup, 1) := by decide +kernel
theorem dX5_advance_41 : decode prog_7_method_7_code 41 = .ok (.getfield 71, 3) := by decide +kernel
theorem dX5_advance_44 : decode prog_7_method_7_code 44 = .ok (.iconst 1, 1) := by decide +kernel
theorem dX5_advance_45 : decode prog_7_method_7_code 45 = .ok (.iadd, 1) := by decide +kernel
theorem dX5_advance_46 : decode prog_7_method_7_code 46 = .ok (.putfield 71, 3) := by decide +kernel
theorem dX5_advance_49 : decode prog_7_method_7_code 49 = .ok (.goto (-49), 3) := by decide +kernel
theorem dX5_advance_52 : decode prog_7_method_7_code 52 = .ok (.aload_n 0, 1) := by decide +kernel
theorem dX5_advance_53 : decode prog_7_method_7_code 53 = .ok (.aload_n 0, 1) := by decide +kernel
theorem dX5_advance_54 : decode prog_7_method_7_code 54 = .ok (.getfield 71, 3) := by decide +kernel
theorem dX5_advance_57 : decode prog_7_method_7_code 57 = .ok (.putfield 74, 3) := by decide +kernel
theorem dX5_advance_60 : decode prog_7_method_7_code 60 = .ok (.aload_n 0, 1) := by decide +kernel
theorem dX5_advance_61 : decode prog_7_method_7_code 61 = .ok (.getfield 71, 3) := by decide +kernel
theorem dX5_advance_64 : decode prog_7_method_7_code 64 = .ok (.aload_n 0, 1) := by decide +kernel
theorem dX5_advance_65 : decode prog_7_method_7_code 65 = .ok (.getfield 28, 3) := by decide +kernel
theorem dX5_advance_68 : decode prog_7_method_7_code 68 = .ok (.if_icmp .lt 11, 3) := by decide +kernel
theorem dX5_advance_71 : decode prog_7_method_7_code 71 = .ok (.aload_n 0, 1) := by decide +kernel
theorem dX5_advance_72 : decode prog_7_method_7_code 72 = .ok (.iconst 0, 1) := by decide +kernel
theorem dX5_advance_73 : decode prog_7_method_7_code 73 = .ok (.putfield 41, 3) := by decide +kernel
theorem dX5_advance_76 : decode prog_7_method_7_code 76 = .ok (.goto 112, 3) := by decide +kernel
theorem dX5_advance_79 : decode prog_7_method_7_code 79 = .ok (.aload_n 0, 1) := by decide +kernel
theorem dX5_advance_80 : decode prog_7_method_7_code 80 = .ok (.getfield 9, 3) := by decide +kernel
theorem dX5_advance_83 : decode prog_7_method_7_code 83 = .ok (.aload_n 0, 1) := by decide +kernel
theorem dX5_advance_84 : decode prog_7_method_7_code 84 = .ok (.getfield 71, 3) := by decide +kernel
theorem dX5_advance_87 : decode prog_7_method_7_code 87 = .ok (.iaload, 1) := by decide +kernel
theorem dX5_advance_88 : decode prog_7_method_7_code 88 = .ok (.invokestatic 77, 3) := by decide +kernel
theorem dX5_advance_91 : decode prog_7_method_7_code 91 = .ok (.ifCond .eq 62, 3) := by decide +kernel
theorem dX5_advance_94 : decode prog_7_method_7_code 94 = .ok (.aload_n 0, 1) := by decide +kernel
theorem dX5_advance_95 : decode prog_7_method_7_code 95 = .ok (.getfield 71, 3) := by decide +kernel
theorem dX5_advance_98 : decode prog_7_method_7_code 98 = .ok (.aload_n 0, 1) := by decide +kernel
theorem dX5_advance_99 : decode prog_7_method_7_code 99 = .ok (.getfield 28, 3) := by decide +kernel
theorem dX5_advance_102 : decode prog_7_method_7_code 102 = .ok (.if_icmp .ge 31, 3) := by decide +kernel
theorem dX5_advance_105 : decode prog_7_method_7_code 105 = .ok (.aload_n 0, 1) := by decide +kernel
theorem dX5_advance_106 : decode prog_7_method_7_code 106 = .ok (.getfield 9, 3) := by decide +kernel
theorem dX5_advance_109 : decode prog_7_method_7_code 109 = .ok (.aload_n 0, 1) := by decide +kernel
theorem dX5_advance_110 : decode prog_7_method_7_code 110 = .ok (.getfield 71, 3) := by decide +kernel
theorem dX5_advance_113 : decode prog_7_method_7_code 113 = .ok (.iaload, 1) := by decide +kernel
theorem dX5_advance_114 : decode prog_7_method_7_code 114 = .ok (.invokestatic 77, 3) := by decide +kernel
theorem dX5_advance_117 : decode prog_7_method_7_code 117 = .ok (.ifCond .eq 16, 3) := by decide +kernel
theorem dX5_advance_120 : decode prog_7_method_7_code 120 = .ok (.aload_n 0, 1) := by decide +kernel
theorem dX5_advance_121 : decode prog_7_method_7_code 121 = .ok (.dup, 1) := by decide +kernel
theorem dX5_advance_122 : decode prog_7_method_7_code 122 = .ok (.getfield 71, 3) := by decide +kernel
theorem dX5_advance_125 : decode prog_7_method_7_code 125 = .ok (.iconst 1, 1) := by decide +kernel
theorem dX5_advance_126 : decode prog_7_method_7_code 126 = .ok (.iadd, 1) := by decide +kernel
theorem dX5_advance_127 : decode prog_7_method_7_code 127 = .ok (.putfield 71, 3) := by decide +kernel
theorem dX5_advance_130 : decode prog_7_method_7_code 130 = .ok (.goto (-36), 3) := by decide +kernel
theorem dX5_advance_133 : decode prog_7_method_7_code 133 = .ok (.aload_n 0, 1) := by decide +kernel
theorem dX5_advance_134 : decode prog_7_method_7_code 134 = .ok (.aload_n 0, 1) := by decide +kernel
theorem dX5_advance_135 : decode prog_7_method_7_code 135 = .ok (.aload_n 0, 1) := by decide +kernel
theorem dX5_advance_136 : decode prog_7_method_7_code 136 = .ok (.getfield 71, 3) := by decide +kernel
theorem dX5_advance_139 : decode prog_7_method_7_code 139 = .ok (.aload_n 0, 1) := by decide +kernel
theorem dX5_advance_140 : decode prog_7_method_7_code 140 = .ok (.getfield 74, 3) := by decide +kernel
theorem dX5_advance_143 : decode prog_7_method_7_code 143 = .ok (.isub, 1) := by decide +kernel
theorem dX5_advance_144 : decode prog_7_method_7_code 144 = .ok (.invokevirtual 81, 3) := by decide +kernel
theorem dX5_advance_147 : decode prog_7_method_7_code 147 = .ok (.putfield 41, 3) := by decide +kernel
theorem dX5_advance_150 : decode prog_7_method_7_code 150 = .ok (.goto 38, 3) := by decide +kernel
theorem dX5_advance_153 : decode prog_7_method_7_code 153 = .ok (.aload_n 0, 1) := by decide +kernel
theorem dX5_advance_154 : decode prog_7_method_7_code 154 = .ok (.getfield 9, 3) := by decide +kernel
theorem dX5_advance_157 : decode prog_7_method_7_code 157 = .ok (.aload_n 0, 1) := by decide +kernel
theorem dX5_advance_158 : decode prog_7_method_7_code 158 = .ok (.getfield 71, 3) := by decide +kernel
theorem dX5_advance_161 : decode prog_7_method_7_code 161 = .ok (.iaload, 1) := by decide +kernel
theorem dX5_advance_162 : decode prog_7_method_7_code 162 = .ok (.invokestatic 85, 3) := by decide +kernel
theorem dX5_advance_165 : decode prog_7_method_7_code 165 = .ok (.ifCond .eq 10, 3) := by decide +kernel
theorem dX5_advance_168 : decode prog_7_method_7_code 168 = .ok (.aload_n 0, 1) := by decide +kernel
theorem dX5_advance_169 : decode prog_7_method_7_code 169 = .ok (.invokevirtual 88, 3) := by decide +kernel
theorem dX5_advance_172 : decode prog_7_method_7_code 172 = .ok (.goto 16, 3) := by decide +kernel
theorem dX5_advance_175 : decode prog_7_method_7_code 175 = .ok (.aload_n 0, 1) := by decide +kernel
theorem dX5_advance_176 : decode prog_7_method_7_code 176 = .ok (.aload_n 0, 1) := by decide +kernel
theorem dX5_advance_177 : decode prog_7_method_7_code 177 = .ok (.getfield 9, 3) := by decide +kernel
theorem dX5_advance_180 : decode prog_7_method_7_code 180 = .ok (.aload_n 0, 1) := by decide +kernel
theorem dX5_advance_181 : decode prog_7_method_7_code 181 = .ok (.getfield 71, 3) := by decide +kernel
theorem dX5_advance_184 : decode prog_7_method_7_code 184 = .ok (.iaload, 1) := by decide +kernel
theorem dX5_advance_185 : decode prog_7_method_7_code 185 = .ok (.invokevirtual 91, 3) := by decide +kernel
theorem dX5_advance_188 : decode prog_7_method_7_code 188 = .ok (.return_, 1) := by decide +kernel
theorem lp_adv1 {t : Nat → Int} {l E : Nat} (cs : CS S R) (hT : TpC I t l) (hK : ∀ J, J 287 13 = (E : Int) → Fcu I J → WP n 0 0 mX5_advance Post 52 [(0, .ref (S.2.1 287))] [] 0 0 S J R) : ∀ (d q : Nat) (J : CI), q ≤ l → l - q = d → J 287 13 = (q : Int) → Fcu I J → eR (kB t l) l q = E → WP n 0 0 mX5_advance Post 0 [(0, .ref (S.2.1 287))] [] 0 0 S J R := by
  intro d
  induction d using Nat.strongRecOn with
  | ind d ih =>
    intro q J h1 h2 j13 hF hE
    obtain ⟨j288, j3, l3, jb⟩ := TpC.f hT hF
    have hb2 : q < l → _ := fun h => jb q (by omega)
    refine x_aload_n dX5_advance_0 rfl ?_
    refine x_getIv (z := (q : Int)) dX5_advance_1 gf_RX5_71 (k_ob_287 cs) (fun _ _ => rfl) (by first | exact j13 | exact j3 | exact j14 | (rw [uI_o (by omega)]; exact j13) | (rw [uI_o (by omega)]; exact j3) | rw [uI_s]) ?_
    refine x_aload_n dX5_advance_4 rfl ?_
    refine x_getIv (z := (l : Int)) dX5_advance_5 gf_RX5_28 (k_ob_287 cs) (fun _ _ => rfl) (by first | exact j13 | exact j3 | exact j14 | (rw [uI_o (by omega)]; exact j13) | (rw [uI_o (by omega)]; exact j3) | rw [uI_s]) ?_
    refine x_icmp_ge 52 dX5_advance_8 (by decide) ⟨(by omega), (by omega)⟩ (fun w8 => ?_) (fun w8 => ?_)
    · have e : q = E := by
        rw [← hE]
        first
        | exact (eR_out (by omega)).symm
        | exact (eR_stop (kB_f.mpr (by omega))).symm
      subst e
      exact hK J j13 hF
    · have hb3 := hb2 (by omega)
      refine x_aload_n dX5_advance_11 rfl ?_
      refine x_getR (b := 288) dX5_advance_12 gf_RX5_9 (k_ob_287 cs) (fun _ _ => rfl) (k_r_287_0 cs) ?_
      refine x_aload_n dX5_advance_15 rfl ?_
      refine x_getIv (z := (q : Int)) dX5_advance_16 gf_RX5_71 (k_ob_287 cs) (fun _ _ => rfl) (by first | exact j13 | exact j3 | exact j14 | (rw [uI_o (by omega)]; exact j13) | (rw [uI_o (by omega)]; exact j3) | rw [uI_s]) ?_
      refine x_iaload dX5_advance_19 (k_ar_288 cs) (by omega) (by omega) ?_
      rw [j288, tN]
      refine x_bipush dX5_advance_20 (by decide) ?_
      refine x_icmp_eq 39 dX5_advance_22 (by decide) ⟨(by omega), (by omega)⟩ (fun w22 => ?_) (fun w22 => ?_)
      · refine x_aload_n dX5_advance_39 rfl ?_
        refine x_dup dX5_advance_40 rfl ?_
        refine x_getIv (z := (q : Int)) dX5_advance_41 gf_RX5_71 (k_ob_287 cs) (fun _ _ => rfl) (by first | exact j13 | exact j3 | exact j14 | (rw [uI_o (by omega)]; exact j13) | (rw [uI_o (by omega)]; exact j3) | rw [uI_s]) ?_
        refine x_iconst dX5_advance_44 ?_
        refine x_iadd dX5_advance_45 ?_
        refine x_putI dX5_advance_46 gf_RX5_71 (k_ob_287 cs) rfl ?_
        refine x_goto 0 dX5_advance_49 (by decide) ?_
        refine x_sub [0] rfl ?_
        have e9 := eR_go (b := kB t l) (l := l) (p := q) (kB_t.mpr ⟨by omega, by omega⟩) (by omega)
        exact ih _ (by omega) (q + 1) _ (by omega) rfl (by rw [uI_s]; omega) (hF.u (by omega)) (by rw [← hE]; exact e9.symm)
      · refine x_aload_n dX5_advance_25 rfl ?_
        refine x_getR (b := 288) dX5_advance_26 gf_RX5_9 (k_ob_287 cs) (fun _ _ => rfl) (k_r_287_0 cs) ?_
        refine x_aload_n dX5_advance_29 rfl ?_
        refine x_getIv (z := (q : Int)) dX5_advance_30 gf_RX5_71 (k_ob_287 cs) (fun _ _ => rfl) (by first | exact j13 | exact j3 | exact j14 | (rw [uI_o (by omega)]; exact j13) | (rw [uI_o (by omega)]; exact j3) | rw [uI_s]) ?_
        refine x_iaload dX5_advance_33 (k_ar_288 cs) (by omega) (by omega) ?_
        rw [j288, tN]
        refine x_bipush dX5_advance_34 (by decide) ?_
        refine x_icmp_ne 52 dX5_advance_36 (by decide) ⟨(by omega), (by omega)⟩ (fun w36 => ?_) (fun w36 => ?_)
        · have e : q = E := by
            rw [← hE]
            first
            | exact (eR_out (by omega)).symm
            | exact (eR_stop (kB_f.mpr (by omega))).symm
          subst e
          exact hK J j13 hF
        · refine x_aload_n dX5_advance_39 rfl ?_
          refine x_dup dX5_advance_40 rfl ?_
          refine x_getIv (z := (q : Int)) dX5_advance_41 gf_RX5_71 (k_ob_287 cs) (fun _ _ => rfl) (by first | exact j13 | exact j3 | exact j14 | (rw [uI_o (by omega)]; exact j13) | (rw [uI_o (by omega)]; exact j3) | rw [uI_s]) ?_
          refine x_iconst dX5_advance_44 ?_
          refine x_iadd dX5_advance_45 ?_
          refine x_putI dX5_advance_46 gf_RX5_71 (k_ob_287 cs) rfl ?_
          refine x_goto 0 dX5_advance_49 (by decide) ?_
          refine x_sub [0] rfl ?_
          have e9 := eR_go (b := kB t l) (l := l) (p := q) (kB_t.mpr ⟨by omega, by omega⟩) (by omega)
          exact ih _ (by omega) (q + 1) _ (by omega) rfl (by rw [uI_s]; omega) (hF.u (by omega)) (by rw [← hE]; exact e9.symm)
theorem lp_adv2 {t : Nat → Int} {l s : Nat} (cs : CS S R) (hn : 5 ≤ n) (hT : TpC I t l) (hs : s ≤ l) (hp : ∀ J, J 287 13 = ((eR (lB t l) l s : Nat) : Int) → J 287 14 = (s : Int) → J 287 15 = kW (wdL t s (eR (lB t l) l s - s)) → Fcu I J → Post none S J R) : ∀ (d q : Nat) (J : CI), s ≤ q → q ≤ l → l - q = d → J 287 13 = (q : Int) → J 287 14 = (s : Int) → Fcu I J → eR (lB t l) l q = eR (lB t l) l s → WP n 0 0 mX5_advance Post 94 [(0, .ref (S.2.1 287))] [] 0 0 S J R := by
  intro d
  induction d using Nat.strongRecOn with
  | ind d ih =>
    intro q J h0 h1 h2 j13 j14 hF hE
    obtain ⟨j288, j3, l3, jb⟩ := TpC.f hT hF
    have hb2 : q < l → _ := fun h => jb q (by omega)
    refine x_aload_n dX5_advance_94 rfl ?_
    refine x_getIv (z := (q : Int)) dX5_advance_95 gf_RX5_71 (k_ob_287 cs) (fun _ _ => rfl) (by first | exact j13 | exact j3 | exact j14 | (rw [uI_o (by omega)]; exact j13) | (rw [uI_o (by omega)]; exact j3) | rw [uI_s]) ?_
    refine x_aload_n dX5_advance_98 rfl ?_
    refine x_getIv (z := (l : Int)) dX5_advance_99 gf_RX5_28 (k_ob_287 cs) (fun _ _ => rfl) (by first | exact j13 | exact j3 | exact j14 | (rw [uI_o (by omega)]; exact j13) | (rw [uI_o (by omega)]; exact j3) | rw [uI_s]) ?_
    refine x_icmp_ge 133 dX5_advance_102 (by decide) ⟨(by omega), (by omega)⟩ (fun w102 => ?_) (fun w102 => ?_)
    · have e : eR (lB t l) l s = q := by
        rw [← hE]
        first
        | exact eR_out (by omega)
        | exact eR_stop (lB_f.mpr (by omega))
      refine x_aload_n dX5_advance_133 rfl ?_
      refine x_aload_n dX5_advance_134 rfl ?_
      refine x_aload_n dX5_advance_135 rfl ?_
      refine x_getIv (z := (q : Int)) dX5_advance_136 gf_RX5_71 (k_ob_287 cs) (fun _ _ => rfl) (by first | exact j13 | exact j3 | exact j14 | (rw [uI_o (by omega)]; exact j13) | (rw [uI_o (by omega)]; exact j3) | rw [uI_s]) ?_
      refine x_aload_n dX5_advance_139 rfl ?_
      refine x_getIv (z := (s : Int)) dX5_advance_140 gf_RX5_74 (k_ob_287 cs) (fun _ _ => rfl) (by first | exact j13 | exact j3 | exact j14 | (rw [uI_o (by omega)]; exact j13) | (rw [uI_o (by omega)]; exact j3) | rw [uI_s]) ?_
      refine x_isub dX5_advance_143 ?_
      rw [show (q : Int) - (s : Int) = ((q - s : Nat) : Int) by omega]
      refine x_callV1 (mc1 := 0) (ms1 := 0) dX5_advance_144 cv_RX5_81 (ci := 5) (k_ob_287 cs) rfl (Nat.le_of_ble_eq_true rfl) (n1 := n - 1) (by omega) (by omega) (by omega) ?_
      refine sp_X5_kindOfWord cs (by omega) j288 j14 (by omega) jb ?_
      refine x_putI dX5_advance_147 gf_RX5_41 (k_ob_287 cs) rfl ?_
      refine x_goto 188 dX5_advance_150 (by decide) ?_
      exact x_return dX5_advance_188 rfl (by omega) (by omega) (hp _ (by rw [uI_o (by omega), e]; exact j13) (by rw [uI_o (by omega)]; exact j14) (by rw [uI_s, e]) (hF.u (by omega)))
    · have hb3 := hb2 (by omega)
      refine x_aload_n dX5_advance_105 rfl ?_
      refine x_getR (b := 288) dX5_advance_106 gf_RX5_9 (k_ob_287 cs) (fun _ _ => rfl) (k_r_287_0 cs) ?_
      refine x_aload_n dX5_advance_109 rfl ?_
      refine x_getIv (z := (q : Int)) dX5_advance_110 gf_RX5_71 (k_ob_287 cs) (fun _ _ => rfl) (by first | exact j13 | exact j3 | exact j14 | (rw [uI_o (by omega)]; exact j13) | (rw [uI_o (by omega)]; exact j3) | rw [uI_s]) ?_
      refine x_iaload dX5_advance_113 (k_ar_288 cs) (by omega) (by omega) ?_
      rw [j288, tN]
      refine x_callS1 (mc1 := 0) (ms1 := 0) dX5_advance_114 cv_RX5_77 (Nat.le_of_ble_eq_true rfl) (n1 := n - 1) (by omega) (by omega) (by omega) ?_
      refine sp_X5_isLetter (by omega) (fun r114 hr114 => ?_)
      refine x_if_eq 133 dX5_advance_117 (by decide) (by omega) (fun w117 => ?_) (fun w117 => ?_)
      · have e : eR (lB t l) l s = q := by
          rw [← hE]
          first
          | exact eR_out (by omega)
          | exact eR_stop (lB_f.mpr (by omega))
        refine x_aload_n dX5_advance_133 rfl ?_
        refine x_aload_n dX5_advance_134 rfl ?_
        refine x_aload_n dX5_advance_135 rfl ?_
        refine x_getIv (z := (q : Int)) dX5_advance_136 gf_RX5_71 (k_ob_287 cs) (fun _ _ => rfl) (by first | exact j13 | exact j3 | exact j14 | (rw [uI_o (by omega)]; exact j13) | (rw [uI_o (by omega)]; exact j3) | rw [uI_s]) ?_
        refine x_aload_n dX5_advance_139 rfl ?_
        refine x_getIv (z := (s : Int)) dX5_advance_140 gf_RX5_74 (k_ob_287 cs) (fun _ _ => rfl) (by first | exact j13 | exact j3 | exact j14 | (rw [uI_o (by omega)]; exact j13) | (rw [uI_o (by omega)]; exact j3) | rw [uI_s]) ?_
        refine x_isub dX5_advance_143 ?_
        rw [show (q : Int) - (s : Int) = ((q - s : Nat) : Int) by omega]
        refine x_callV1 (mc1 := 0) (ms1 := 0) dX5_advance_144 cv_RX5_81 (ci := 5) (k_ob_287 cs) rfl (Nat.le_of_ble_eq_true rfl) (n1 := n - 1) (by omega) (by omega) (by omega) ?_
        refine sp_X5_kindOfWord cs (by omega) j288 j14 (by omega) jb ?_
        refine x_putI dX5_advance_147 gf_RX5_41 (k_ob_287 cs) rfl ?_
        refine x_goto 188 dX5_advance_150 (by decide) ?_
        exact x_return dX5_advance_188 rfl (by omega) (by omega) (hp _ (by rw [uI_o (by omega), e]; exact j13) (by rw [uI_o (by omega)]; exact j14) (by rw [uI_s, e]) (hF.u (by omega)))
      · refine x_aload_n dX5_advance_120 rfl ?_
        refine x_dup dX5_advance_121 rfl ?_
        refine x_getIv (z := (q : Int)) dX5_advance_122 gf_RX5_71 (k_ob_287 cs) (fun _ _ => rfl) (by first | exact j13 | exact j3 | exact j14 | (rw [uI_o (by omega)]; exact j13) | (rw [uI_o (by omega)]; exact j3) | rw [uI_s]) ?_
        refine x_iconst dX5_advance_125 ?_
        refine x_iadd dX5_advance_126 ?_
        refine x_putI dX5_advance_127 gf_RX5_71 (k_ob_287 cs) rfl ?_
        refine x_goto 94 dX5_advance_130 (by decide) ?_
        refine x_sub [0] rfl ?_
        have e9 := eR_go (b := lB t l) (l := l) (p := q) (lB_t.mpr ⟨by omega, by omega⟩) (by omega)
        exact ih _ (by omega) (q + 1) _ (by omega) (by omega) rfl (by rw [uI_s]; omega) (by rw [uI_o (by omega)]; exact j14) (hF.u (by omega)) (by rw [← hE]; exact e9.symm)
theorem lp_adv3 {t : Nat → Int} {l s : Nat} (cs : CS S R) (hn : 5 ≤ n) (hT : TpC I t l) (hs : s ≤ l) (h13 : I 287 13 = (s : Int)) (hp : ∀ J, CuC J (tkF t l s) → Fcu I J → Post none S J R) : WP n 0 0 mX5_advance Post 52 [(0, .ref (S.2.1 287))] [] 0 0 S I R := by
  obtain ⟨j288x, j3, l3, jb⟩ := id hT
  have j13 := h13
  have hb2 : s < l → _ := fun h => jb s (by omega)
  have j288 : uI I 287 14 (s : Int) 288 = t := by funext i; rw [uI_o (by omega), j288x]
  have hT1 : TpC (uI I 287 14 (s : Int)) t l := TpC.f hT (Fcu.rf.u (by omega))
  refine x_aload_n dX5_advance_52 rfl ?_
  refine x_aload_n dX5_advance_53 rfl ?_
  refine x_getIv (z := (s : Int)) dX5_advance_54 gf_RX5_71 (k_ob_287 cs) (fun _ _ => rfl) (by first | exact j13 | exact j3 | exact j14 | (rw [uI_o (by omega)]; exact j13) | (rw [uI_o (by omega)]; exact j3) | rw [uI_s]) ?_
  refine x_putI dX5_advance_57 gf_RX5_74 (k_ob_287 cs) rfl ?_
  refine x_aload_n dX5_advance_60 rfl ?_
  refine x_getIv (z := (s : Int)) dX5_advance_61 gf_RX5_71 (k_ob_287 cs) (fun _ _ => rfl) (by first | exact j13 | exact j3 | exact j14 | (rw [uI_o (by omega)]; exact j13) | (rw [uI_o (by omega)]; exact j3) | rw [uI_s]) ?_
  refine x_aload_n dX5_advance_64 rfl ?_
  refine x_getIv (z := (l : Int)) dX5_advance_65 gf_RX5_28 (k_ob_287 cs) (fun _ _ => rfl) (by first | exact j13 | exact j3 | exact j14 | (rw [uI_o (by omega)]; exact j13) | (rw [uI_o (by omega)]; exact j3) | rw [uI_s]) ?_
  refine x_icmp_lt 79 dX5_advance_68 (by decide) ⟨(by omega), (by omega)⟩ (fun w68 => ?_) (fun w68 => ?_)
  · have hb3 := hb2 (by omega)
    refine x_aload_n dX5_advance_79 rfl ?_
    refine x_getR (b := 288) dX5_advance_80 gf_RX5_9 (k_ob_287 cs) (fun _ _ => rfl) (k_r_287_0 cs) ?_
    refine x_aload_n dX5_advance_83 rfl ?_
    refine x_getIv (z := (s : Int)) dX5_advance_84 gf_RX5_71 (k_ob_287 cs) (fun _ _ => rfl) (by first | exact j13 | exact j3 | exact j14 | (rw [uI_o (by omega)]; exact j13) | (rw [uI_o (by omega)]; exact j3) | rw [uI_s]) ?_
    refine x_iaload dX5_advance_87 (k_ar_288 cs) (by omega) (by omega) ?_
    rw [j288, tN]
    refine x_callS1 (mc1 := 0) (ms1 := 0) dX5_advance_88 cv_RX5_77 (Nat.le_of_ble_eq_true rfl) (n1 := n - 1) (by omega) (by omega) (by omega) ?_
    refine sp_X5_isLetter (by omega) (fun r88 hr88 => ?_)
    refine x_if_eq 153 dX5_advance_91 (by decide) (by omega) (fun w91 => ?_) (fun w91 => ?_)
    · refine x_aload_n dX5_advance_153 rfl ?_
      refine x_getR (b := 288) dX5_advance_154 gf_RX5_9 (k_ob_287 cs) (fun _ _ => rfl) (k_r_287_0 cs) ?_
      refine x_aload_n dX5_advance_157 rfl ?_
      refine x_getIv (z := (s : Int)) dX5_advance_158 gf_RX5_71 (k_ob_287 cs) (fun _ _ => rfl) (by first | exact j13 | exact j3 | exact j14 | (rw [uI_o (by omega)]; exact j13) | (rw [uI_o (by omega)]; exact j3) | rw [uI_s]) ?_
      refine x_iaload dX5_advance_161 (k_ar_288 cs) (by omega) (by omega) ?_
      rw [j288, tN]
      refine x_callS1 (mc1 := 0) (ms1 := 0) dX5_advance_162 cv_RX5_85 (Nat.le_of_ble_eq_true rfl) (n1 := n - 1) (by omega) (by omega) (by omega) ?_
      refine sp_X5_isDigit (by omega) (fun r162 hr162 => ?_)
      refine x_if_eq 175 dX5_advance_165 (by decide) (by omega) (fun w165 => ?_) (fun w165 => ?_)
      · refine x_aload_n dX5_advance_175 rfl ?_
        refine x_aload_n dX5_advance_176 rfl ?_
        refine x_getR (b := 288) dX5_advance_177 gf_RX5_9 (k_ob_287 cs) (fun _ _ => rfl) (k_r_287_0 cs) ?_
        refine x_aload_n dX5_advance_180 rfl ?_
        refine x_getIv (z := (s : Int)) dX5_advance_181 gf_RX5_71 (k_ob_287 cs) (fun _ _ => rfl) (by first | exact j13 | exact j3 | exact j14 | (rw [uI_o (by omega)]; exact j13) | (rw [uI_o (by omega)]; exact j3) | rw [uI_s]) ?_
        refine x_iaload dX5_advance_184 (k_ar_288 cs) (by omega) (by omega) ?_
        rw [j288, tN]
        refine x_callV1 (mc1 := 0) (ms1 := 0) dX5_advance_185 cv_RX5_91 (ci := 5) (k_ob_287 cs) rfl (Nat.le_of_ble_eq_true rfl) (n1 := n - 1) (by omega) (by omega) (by omega) ?_
        refine sp_X5_advanceSign (s := s) cs (by omega) hT1 (by omega) (by rw [uI_o (by omega)]; exact j13) (fun J g13 g14 g15 gF => ?_)
        have et : tkF t l s = (if eqP t l s then s + 2 else s + 1, s, skK t l s, 0) := by
          unfold tkF
          rw [if_neg (by omega), if_neg (by omega), if_neg (by omega)]
        have h2 : skK t l s ≠ 2 := by
          have hnd : ¬ dgP (t s) := by omega
          unfold skK
          split
          · split <;> omega
          · split
            · rename_i h8 h9
              intro h7
              rw [h7] at h9
              revert h9
              decide
            · omega
        have hfin : Post none S J R := hp J (by rw [et]; exact ⟨g13, by rw [g14, uI_s], g15, fun h9 => absurd h9 h2⟩) ((Fcu.rf.u (by omega)).tr gF)
        exact x_return dX5_advance_188 rfl (by omega) (by omega) ((by first | exact hfin | exact hp _ (by rw [show tkF t l s = (s, s, 0, 0) from if_pos (by omega)]; exact ⟨by rw [uI_o (by omega), uI_o (by omega)]; exact j13, by rw [uI_o (by omega), uI_s], by rw [uI_s], fun h9 => by have h8 : (0 : Int) = 2 := h9; omega⟩) ((Fcu.rf.u (by omega)).u (by omega))))
      · refine x_aload_n dX5_advance_168 rfl ?_
        refine x_callV0 (mc1 := 0) (ms1 := 0) dX5_advance_169 cv_RX5_88 (ci := 5) (k_ob_287 cs) rfl (Nat.le_of_ble_eq_true rfl) (n1 := n - 1) (by omega) (by omega) (by omega) ?_
        refine sp_X5_advanceNumber (s := s) cs (by omega) hT1 hs (by rw [uI_o (by omega)]; exact j13) (fun J g13 g14 g15 g16 gF => ?_)
        have et : tkF t l s = (eR (dB t l) l s, s, 2, nuC t s (eR (dB t l) l s - s)) := by
          unfold tkF
          rw [if_neg (by omega), if_neg (by omega), if_pos (by omega)]
        have hfin : Post none S J R := hp J (by rw [et]; exact ⟨g13, by rw [g14, uI_s], g15, fun _ => g16⟩) ((Fcu.rf.u (by omega)).tr gF)
        refine x_goto 188 dX5_advance_172 (by decide) ?_
        exact x_return dX5_advance_188 rfl (by omega) (by omega) ((by first | exact hfin | exact hp _ (by rw [show tkF t l s = (s, s, 0, 0) from if_pos (by omega)]; exact ⟨by rw [uI_o (by omega), uI_o (by omega)]; exact j13, by rw [uI_o (by omega), uI_s], by rw [uI_s], fun h9 => by have h8 : (0 : Int) = 2 := h9; omega⟩) ((Fcu.rf.u (by omega)).u (by omega))))
    · refine x_sub [0] rfl ?_
      refine lp_adv2 (s := s) cs hn hT1 hs (fun J g13 g14 g15 gF => ?_) _ s _ (Nat.le_refl _) hs rfl (by rw [uI_o (by omega)]; exact j13) (by rw [uI_s]) Fcu.rf rfl
      have et : tkF t l s = (eR (lB t l) l s, s, kW (wdL t s (eR (lB t l) l s - s)), 0) := by
        unfold tkF
        rw [if_neg (by omega), if_pos (by omega)]
      exact hp J (by rw [et]; exact ⟨g13, g14, g15, fun h9 => by have := kW_r (wdL t s (eR (lB t l) l s - s)); have h8 : kW (wdL t s (eR (lB t l) l s - s)) = 2 := h9; omega⟩) ((Fcu.rf.u (by omega)).tr gF)
  · refine x_aload_n dX5_advance_71 rfl ?_
    refine x_iconst dX5_advance_72 ?_
    refine x_putI dX5_advance_73 gf_RX5_41 (k_ob_287 cs) rfl ?_
    refine x_goto 188 dX5_advance_76 (by decide) ?_
    exact x_return dX5_advance_188 rfl (by omega) (by omega) ((by first | exact hfin | exact hp _ (by rw [show tkF t l s = (s, s, 0, 0) from if_pos (by omega)]; exact ⟨by rw [uI_o (by omega), uI_o (by omega)]; exact j13, by rw [uI_o (by omega), uI_s], by rw [uI_s], fun h9 => by have h8 : (0 : Int) = 2 := h9; omega⟩) ((Fcu.rf.u (by omega)).u (by omega))))
theorem sp_X5_advance {t : Nat → Int} {l p : Nat} (cs : CS S R) (hn : 5 ≤ n) (hT : TpC I t l) (hs : p ≤ l) (h13 : I 287 13 = (p : Int)) (hp : ∀ J, CuC J (adv t l p) → Fcu I J → Post none S J R) : Call n 0 0 mX5_advance [.ref (S.2.1 287)] S I R Post := by
  refine Call.of (by decide +kernel) (Nat.le_of_ble_eq_true rfl) ?_
  show WP _ _ _ _ _ 0 [(0, _)] [] 0 0 _ _ _
  refine lp_adv1 (E := eR (kB t l) l p) cs hT (fun J j13 jF => ?_) _ p I hs rfl h13 Fcu.rf rfl
  exact lp_adv3 cs hn (TpC.f hT jF) (eR_le hs) j13 (fun K k1 k2 => hp K k1 (jF.tr k2))
end Lex4
