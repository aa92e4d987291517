section Ref8
variable {n mc ms : Nat} {M : Md} {pc : Nat} {lv : List (Nat × Value)} {st : List Value} {k j : Nat} {Post : PT} {S : Sh} {I : CI} {R : CR} {A : Nat → Int} {tx : Nat → Nat → Int}
theorem lp_sum {X nm cd : Nat → Int} {o f K bad x c0 : Nat} (cs : CS S R) (hA : I 307 = A) (h0 : 0 ≤ A 0 ∧ A 0 ≤ 8) (he : ∀ q, q < 8 → 0 ≤ A (14 + 3 * q) ∧ A (14 + 3 * q) ≤ 9) (hX : I 309 = X) (hx1 : x + 4 ≤ 2820) (hx2 : X (x + 2) = ((f + K : Nat) : Int)) (hc0 : c0 = o + 97) (ho : o + 705 ≤ 2820) (hfK : f + K ≤ 300) (hR : RTc X o cd f K bad) (hty : tyN cd f K = some [false]) (hnm : ∀ k, k < 8 → k ≠ bad → I 312 k = nm k) (hnb : ∀ k, k < 8 → -100000 ≤ nm k ∧ nm k ≤ 100000) (hn : 2 ≤ n) (hp : ∀ J, Fe I J → Post (some (.long (lI (evP nm A cd f K)))) S J R) : ∀ (d k : Nat) (J : CI) (ty : List Bool), k ≤ K → K - k = d → EvI nm A cd f k J ty → Fe I J → WP n 0 0 mX12_summedUp Post 38 [(0, .ref (S.2.1 306)), (3, .int (iI (x : Int))), (4, .int (iI (c0 : Int))), (5, .int (iI (cF ty : Int))), (6, .int (iI (cT ty : Int))), (7, .int (iI ((f + k : Nat) : Int)))] [] 0 0 S J R := by
  intro d
  induction d using Nat.strongRecOn with
  | ind d ih =>
    intro k J ty k1 k2 hE hF
    have hJX : J 309 = X := by rw [hF 309 (by omega) (by omega)]; exact hX
    have hJA : J 307 = A := by rw [hF 307 (by omega) (by omega)]; exact hA
    have hJn : J 312 = I 312 := hF 312 (by omega) (by omega)
    have hlen := tyN_len k ty hE.1
    have hcft := cFT ty
    by_cases hkK : k < K
    · obtain ⟨hcd, hco, hct, hcn⟩ := hR (f + k) (by omega) (by omega)
      have hom := omp_r (op := cd (f + k) / 16384) (by omega)
      obtain ⟨ty', hty'⟩ := tyN_lt hty (K - (k + 1)) (k + 1) (by omega)
      have hts : tyS (cd (f + k) / 16384) ty = some ty' := by
        have h2 := hty'
        simp only [tyN, hE.1] at h2
        exact h2
      have hvb : ∀ j, j < cF ty → -1000000 ≤ J 313 j ∧ J 313 j ≤ 1000000 := RS_vb (rnF_b (fun _ _ => (by show (-1000000 : Int) ≤ 0 ∧ (0 : Int) ≤ 1000000; omega)) k) ty hE.2.2 (by omega)
      have hK : ∀ J' ty', EvI nm A cd f (k + 1) J' ty' → Fe J J' → WP n 0 0 mX12_summedUp Post 400 [(0, .ref (S.2.1 306)), (3, .int (iI (x : Int))), (4, .int (iI (c0 : Int))), (5, .int (iI (cF ty' : Int))), (6, .int (iI (cT ty' : Int))), (7, .int (iI ((f + k : Nat) : Int)))] [] 0 0 S J' R := by
        intro J' ty' h1 h2
        refine x_iinc (lv2 := [(7, _), (0, _), (3, _), (4, _), (5, _), (6, _)]) dX12_summedUp_400 rfl (by decide) rfl ?_
        refine x_goto 38 dX12_summedUp_403 (by decide) ?_
        refine x_sub [1, 2, 3, 4, 5, 0] rfl ?_
        exact ih _ (by omega) (k + 1) J' ty' (by omega) rfl h1 (hF.tr h2)
      rcases tyS_inv hts with ⟨c1, rfl⟩ | ⟨r, c1, rfl, rfl⟩ | ⟨r, c1, rfl, rfl⟩ | ⟨r, c1, rfl, rfl⟩ | ⟨r, c1, rfl, rfl⟩ | ⟨r, c1, rfl, rfl⟩ | ⟨r, c1, rfl, rfl⟩
      · refine x_iload dX12_summedUp_38 rfl ?_
        refine x_aload_n dX12_summedUp_40 rfl ?_
        refine x_getR (b := 309) dX12_summedUp_41 gf_RX12_16 (k_ob_306 cs) (fun _ _ => rfl) (k_r_306_2 cs) ?_
        refine x_iload_n dX12_summedUp_44 rfl ?_
        refine x_iconst dX12_summedUp_45 ?_
        refine x_iadd dX12_summedUp_46 ?_
        refine x_iaload dX12_summedUp_47 (k_ar_309 cs) (by omega) (by omega) ?_
        rw [show ((x : Int) + 2).toNat = x + 2 by omega, hJX, hx2]
        refine x_icmp_ge 406 dX12_summedUp_48 (by decide) ⟨(by omega), (by omega)⟩ (fun w48 => ?_) (fun w48 => ?_)
        · exfalso; omega
        · refine x_aload_n dX12_summedUp_51 rfl ?_
          refine x_getR (b := 309) dX12_summedUp_52 gf_RX12_16 (k_ob_306 cs) (fun _ _ => rfl) (k_r_306_2 cs) ?_
          refine x_iload dX12_summedUp_55 rfl ?_
          refine x_iconst dX12_summedUp_57 ?_
          refine x_iload dX12_summedUp_58 rfl ?_
          refine x_imul dX12_summedUp_60 ?_
          refine x_iadd dX12_summedUp_61 ?_
          refine x_iaload dX12_summedUp_62 (k_ar_309 cs) (by omega) (by omega) ?_
          rw [show ((c0 : Int) + 2 * ((f + k : Nat) : Int)).toNat = o + 97 + 2 * (f + k) by omega, hJX, hco]
          refine x_istore (lv2 := [(8, _), (0, _), (3, _), (4, _), (5, _), (6, _), (7, _)]) dX12_summedUp_63 (by decide) rfl ?_
          refine x_aload_n dX12_summedUp_65 rfl ?_
          refine x_getR (b := 309) dX12_summedUp_66 gf_RX12_16 (k_ob_306 cs) (fun _ _ => rfl) (k_r_306_2 cs) ?_
          refine x_iload dX12_summedUp_69 rfl ?_
          refine x_iconst dX12_summedUp_71 ?_
          refine x_iload dX12_summedUp_72 rfl ?_
          refine x_imul dX12_summedUp_74 ?_
          refine x_iadd dX12_summedUp_75 ?_
          refine x_iconst dX12_summedUp_76 ?_
          refine x_iadd dX12_summedUp_77 ?_
          refine x_iaload dX12_summedUp_78 (k_ar_309 cs) (by omega) (by omega) ?_
          rw [show ((c0 : Int) + 2 * ((f + k : Nat) : Int) + 1).toNat = o + 98 + 2 * (f + k) by omega, hJX, hct]
          refine x_istore (lv2 := [(9, _), (8, _), (0, _), (3, _), (4, _), (5, _), (6, _), (7, _)]) dX12_summedUp_79 (by decide) rfl ?_
          refine x_iload dX12_summedUp_81 rfl ?_
          refine x_iconst dX12_summedUp_83 ?_
          refine x_icmp_gt 119 dX12_summedUp_84 (by decide) ⟨(by omega), (by omega)⟩ (fun w84 => ?_) (fun w84 => ?_)
          · refine x_iload dX12_summedUp_119 rfl ?_
            refine x_iconst dX12_summedUp_121 ?_
            refine x_icmp_ne 160 dX12_summedUp_122 (by decide) ⟨(by omega), (by omega)⟩ (fun w122 => ?_) (fun w122 => ?_)
            · refine x_iload dX12_summedUp_160 rfl ?_
              refine x_iconst dX12_summedUp_162 ?_
              refine x_icmp_eq 172 dX12_summedUp_163 (by decide) ⟨(by omega), (by omega)⟩ (fun w163 => ?_) (fun w163 => ?_)
              · exfalso; omega
              · refine x_iload dX12_summedUp_166 rfl ?_
                refine x_iconst dX12_summedUp_168 ?_
                refine x_icmp_ne 216 dX12_summedUp_169 (by decide) ⟨(by omega), (by omega)⟩ (fun w169 => ?_) (fun w169 => ?_)
                · refine x_iload dX12_summedUp_216 rfl ?_
                  refine x_bipush dX12_summedUp_218 (by decide) ?_
                  refine x_icmp_ge 287 dX12_summedUp_220 (by decide) ⟨(by omega), (by omega)⟩ (fun w220 => ?_) (fun w220 => ?_)
                  · refine x_iload dX12_summedUp_287 rfl ?_
                    refine x_bipush dX12_summedUp_289 (by decide) ?_
                    refine x_icmp_ge 331 dX12_summedUp_291 (by decide) ⟨(by omega), (by omega)⟩ (fun w291 => ?_) (fun w291 => ?_)
                    · refine x_iload dX12_summedUp_331 rfl ?_
                      refine x_bipush dX12_summedUp_333 (by decide) ?_
                      refine x_icmp_ne 367 dX12_summedUp_335 (by decide) ⟨(by omega), (by omega)⟩ (fun w335 => ?_) (fun w335 => ?_)
                      · exfalso; omega
                      · exfalso; omega
                    · exfalso; omega
                  · exfalso; omega
                · exfalso; omega
            · exfalso; omega
          · refine x_sub [2, 3, 4, 5, 6, 7, 1, 0] rfl ?_
            exact bk87_sum cs hcd (by omega) hE c1 hts (fun hz => ⟨(hcn hz).1, by rw [hJn]; exact hnm _ (by have := (hcn hz).1; omega) (by have := (hcn hz).2; omega), hnb _ (by have := (hcn hz).1; omega)⟩) hK
      · refine x_iload dX12_summedUp_38 rfl ?_
        refine x_aload_n dX12_summedUp_40 rfl ?_
        refine x_getR (b := 309) dX12_summedUp_41 gf_RX12_16 (k_ob_306 cs) (fun _ _ => rfl) (k_r_306_2 cs) ?_
        refine x_iload_n dX12_summedUp_44 rfl ?_
        refine x_iconst dX12_summedUp_45 ?_
        refine x_iadd dX12_summedUp_46 ?_
        refine x_iaload dX12_summedUp_47 (k_ar_309 cs) (by omega) (by omega) ?_
        rw [show ((x : Int) + 2).toNat = x + 2 by omega, hJX, hx2]
        refine x_icmp_ge 406 dX12_summedUp_48 (by decide) ⟨(by omega), (by omega)⟩ (fun w48 => ?_) (fun w48 => ?_)
        · exfalso; omega
        · refine x_aload_n dX12_summedUp_51 rfl ?_
          refine x_getR (b := 309) dX12_summedUp_52 gf_RX12_16 (k_ob_306 cs) (fun _ _ => rfl) (k_r_306_2 cs) ?_
          refine x_iload dX12_summedUp_55 rfl ?_
          refine x_iconst dX12_summedUp_57 ?_
          refine x_iload dX12_summedUp_58 rfl ?_
          refine x_imul dX12_summedUp_60 ?_
          refine x_iadd dX12_summedUp_61 ?_
          refine x_iaload dX12_summedUp_62 (k_ar_309 cs) (by omega) (by omega) ?_
          rw [show ((c0 : Int) + 2 * ((f + k : Nat) : Int)).toNat = o + 97 + 2 * (f + k) by omega, hJX, hco]
          refine x_istore (lv2 := [(8, _), (0, _), (3, _), (4, _), (5, _), (6, _), (7, _)]) dX12_summedUp_63 (by decide) rfl ?_
          refine x_aload_n dX12_summedUp_65 rfl ?_
          refine x_getR (b := 309) dX12_summedUp_66 gf_RX12_16 (k_ob_306 cs) (fun _ _ => rfl) (k_r_306_2 cs) ?_
          refine x_iload dX12_summedUp_69 rfl ?_
          refine x_iconst dX12_summedUp_71 ?_
          refine x_iload dX12_summedUp_72 rfl ?_
          refine x_imul dX12_summedUp_74 ?_
          refine x_iadd dX12_summedUp_75 ?_
          refine x_iconst dX12_summedUp_76 ?_
          refine x_iadd dX12_summedUp_77 ?_
          refine x_iaload dX12_summedUp_78 (k_ar_309 cs) (by omega) (by omega) ?_
          rw [show ((c0 : Int) + 2 * ((f + k : Nat) : Int) + 1).toNat = o + 98 + 2 * (f + k) by omega, hJX, hct]
          refine x_istore (lv2 := [(9, _), (8, _), (0, _), (3, _), (4, _), (5, _), (6, _), (7, _)]) dX12_summedUp_79 (by decide) rfl ?_
          refine x_iload dX12_summedUp_81 rfl ?_
          refine x_iconst dX12_summedUp_83 ?_
          refine x_icmp_gt 119 dX12_summedUp_84 (by decide) ⟨(by omega), (by omega)⟩ (fun w84 => ?_) (fun w84 => ?_)
          · refine x_iload dX12_summedUp_119 rfl ?_
            refine x_iconst dX12_summedUp_121 ?_
            refine x_icmp_ne 160 dX12_summedUp_122 (by decide) ⟨(by omega), (by omega)⟩ (fun w122 => ?_) (fun w122 => ?_)
            · refine x_iload dX12_summedUp_160 rfl ?_
              refine x_iconst dX12_summedUp_162 ?_
              refine x_icmp_eq 172 dX12_summedUp_163 (by decide) ⟨(by omega), (by omega)⟩ (fun w163 => ?_) (fun w163 => ?_)
              · refine x_sub [2, 3, 4, 5, 6, 7, 1, 0] rfl ?_
                exact bk172_sum cs hcd (by simp only [List.length_cons] at hlen; omega) hE hJA h0 he hn c1 hts hvb hK
              · refine x_iload dX12_summedUp_166 rfl ?_
                refine x_iconst dX12_summedUp_168 ?_
                refine x_icmp_ne 216 dX12_summedUp_169 (by decide) ⟨(by omega), (by omega)⟩ (fun w169 => ?_) (fun w169 => ?_)
                · refine x_iload dX12_summedUp_216 rfl ?_
                  refine x_bipush dX12_summedUp_218 (by decide) ?_
                  refine x_icmp_ge 287 dX12_summedUp_220 (by decide) ⟨(by omega), (by omega)⟩ (fun w220 => ?_) (fun w220 => ?_)
                  · refine x_iload dX12_summedUp_287 rfl ?_
                    refine x_bipush dX12_summedUp_289 (by decide) ?_
                    refine x_icmp_ge 331 dX12_summedUp_291 (by decide) ⟨(by omega), (by omega)⟩ (fun w291 => ?_) (fun w291 => ?_)
                    · refine x_iload dX12_summedUp_331 rfl ?_
                      refine x_bipush dX12_summedUp_333 (by decide) ?_
                      refine x_icmp_ne 367 dX12_summedUp_335 (by decide) ⟨(by omega), (by omega)⟩ (fun w335 => ?_) (fun w335 => ?_)
                      · exfalso; omega
                      · exfalso; omega
                    · exfalso; omega
                  · exfalso; omega
                · refine x_sub [2, 3, 4, 5, 6, 7, 1, 0] rfl ?_
                  exact bk172_sum cs hcd (by simp only [List.length_cons] at hlen; omega) hE hJA h0 he hn c1 hts hvb hK
            · exfalso; omega
          · exfalso; omega
      · refine x_iload dX12_summedUp_38 rfl ?_
        refine x_aload_n dX12_summedUp_40 rfl ?_
        refine x_getR (b := 309) dX12_summedUp_41 gf_RX12_16 (k_ob_306 cs) (fun _ _ => rfl) (k_r_306_2 cs) ?_
        refine x_iload_n dX12_summedUp_44 rfl ?_
        refine x_iconst dX12_summedUp_45 ?_
        refine x_iadd dX12_summedUp_46 ?_
        refine x_iaload dX12_summedUp_47 (k_ar_309 cs) (by omega) (by omega) ?_
        rw [show ((x : Int) + 2).toNat = x + 2 by omega, hJX, hx2]
        refine x_icmp_ge 406 dX12_summedUp_48 (by decide) ⟨(by omega), (by omega)⟩ (fun w48 => ?_) (fun w48 => ?_)
        · exfalso; omega
        · refine x_aload_n dX12_summedUp_51 rfl ?_
          refine x_getR (b := 309) dX12_summedUp_52 gf_RX12_16 (k_ob_306 cs) (fun _ _ => rfl) (k_r_306_2 cs) ?_
          refine x_iload dX12_summedUp_55 rfl ?_
          refine x_iconst dX12_summedUp_57 ?_
          refine x_iload dX12_summedUp_58 rfl ?_
          refine x_imul dX12_summedUp_60 ?_
          refine x_iadd dX12_summedUp_61 ?_
          refine x_iaload dX12_summedUp_62 (k_ar_309 cs) (by omega) (by omega) ?_
          rw [show ((c0 : Int) + 2 * ((f + k : Nat) : Int)).toNat = o + 97 + 2 * (f + k) by omega, hJX, hco]
          refine x_istore (lv2 := [(8, _), (0, _), (3, _), (4, _), (5, _), (6, _), (7, _)]) dX12_summedUp_63 (by decide) rfl ?_
          refine x_aload_n dX12_summedUp_65 rfl ?_
          refine x_getR (b := 309) dX12_summedUp_66 gf_RX12_16 (k_ob_306 cs) (fun _ _ => rfl) (k_r_306_2 cs) ?_
          refine x_iload dX12_summedUp_69 rfl ?_
          refine x_iconst dX12_summedUp_71 ?_
          refine x_iload dX12_summedUp_72 rfl ?_
          refine x_imul dX12_summedUp_74 ?_
          refine x_iadd dX12_summedUp_75 ?_
          refine x_iconst dX12_summedUp_76 ?_
          refine x_iadd dX12_summedUp_77 ?_
          refine x_iaload dX12_summedUp_78 (k_ar_309 cs) (by omega) (by omega) ?_
          rw [show ((c0 : Int) + 2 * ((f + k : Nat) : Int) + 1).toNat = o + 98 + 2 * (f + k) by omega, hJX, hct]
          refine x_istore (lv2 := [(9, _), (8, _), (0, _), (3, _), (4, _), (5, _), (6, _), (7, _)]) dX12_summedUp_79 (by decide) rfl ?_
          refine x_iload dX12_summedUp_81 rfl ?_
          refine x_iconst dX12_summedUp_83 ?_
          refine x_icmp_gt 119 dX12_summedUp_84 (by decide) ⟨(by omega), (by omega)⟩ (fun w84 => ?_) (fun w84 => ?_)
          · refine x_iload dX12_summedUp_119 rfl ?_
            refine x_iconst dX12_summedUp_121 ?_
            refine x_icmp_ne 160 dX12_summedUp_122 (by decide) ⟨(by omega), (by omega)⟩ (fun w122 => ?_) (fun w122 => ?_)
            · refine x_iload dX12_summedUp_160 rfl ?_
              refine x_iconst dX12_summedUp_162 ?_
              refine x_icmp_eq 172 dX12_summedUp_163 (by decide) ⟨(by omega), (by omega)⟩ (fun w163 => ?_) (fun w163 => ?_)
              · exfalso; omega
              · refine x_iload dX12_summedUp_166 rfl ?_
                refine x_iconst dX12_summedUp_168 ?_
                refine x_icmp_ne 216 dX12_summedUp_169 (by decide) ⟨(by omega), (by omega)⟩ (fun w169 => ?_) (fun w169 => ?_)
                · refine x_iload dX12_summedUp_216 rfl ?_
                  refine x_bipush dX12_summedUp_218 (by decide) ?_
                  refine x_icmp_ge 287 dX12_summedUp_220 (by decide) ⟨(by omega), (by omega)⟩ (fun w220 => ?_) (fun w220 => ?_)
                  · refine x_iload dX12_summedUp_287 rfl ?_
                    refine x_bipush dX12_summedUp_289 (by decide) ?_
                    refine x_icmp_ge 331 dX12_summedUp_291 (by decide) ⟨(by omega), (by omega)⟩ (fun w291 => ?_) (fun w291 => ?_)
                    · refine x_iload dX12_summedUp_331 rfl ?_
                      refine x_bipush dX12_summedUp_333 (by decide) ?_
                      refine x_icmp_ne 367 dX12_summedUp_335 (by decide) ⟨(by omega), (by omega)⟩ (fun w335 => ?_) (fun w335 => ?_)
                      · exfalso; omega
                      · refine x_sub [2, 3, 4, 5, 6, 7, 1, 0] rfl ?_
                        exact bk338_sum cs hcd (by simp only [List.length_cons] at hlen; omega) hE c1 hts hK
                    · exfalso; omega
                  · exfalso; omega
                · exfalso; omega
            · exfalso; omega
          · exfalso; omega
      · refine x_iload dX12_summedUp_38 rfl ?_
        refine x_aload_n dX12_summedUp_40 rfl ?_
        refine x_getR (b := 309) dX12_summedUp_41 gf_RX12_16 (k_ob_306 cs) (fun _ _ => rfl) (k_r_306_2 cs) ?_
        refine x_iload_n dX12_summedUp_44 rfl ?_
        refine x_iconst dX12_summedUp_45 ?_
        refine x_iadd dX12_summedUp_46 ?_
        refine x_iaload dX12_summedUp_47 (k_ar_309 cs) (by omega) (by omega) ?_
        rw [show ((x : Int) + 2).toNat = x + 2 by omega, hJX, hx2]
        refine x_icmp_ge 406 dX12_summedUp_48 (by decide) ⟨(by omega), (by omega)⟩ (fun w48 => ?_) (fun w48 => ?_)
        · exfalso; omega
        · refine x_aload_n dX12_summedUp_51 rfl ?_
          refine x_getR (b := 309) dX12_summedUp_52 gf_RX12_16 (k_ob_306 cs) (fun _ _ => rfl) (k_r_306_2 cs) ?_
          refine x_iload dX12_summedUp_55 rfl ?_
          refine x_iconst dX12_summedUp_57 ?_
          refine x_iload dX12_summedUp_58 rfl ?_
          refine x_imul dX12_summedUp_60 ?_
          refine x_iadd dX12_summedUp_61 ?_
          refine x_iaload dX12_summedUp_62 (k_ar_309 cs) (by omega) (by omega) ?_
          rw [show ((c0 : Int) + 2 * ((f + k : Nat) : Int)).toNat = o + 97 + 2 * (f + k) by omega, hJX, hco]
          refine x_istore (lv2 := [(8, _), (0, _), (3, _), (4, _), (5, _), (6, _), (7, _)]) dX12_summedUp_63 (by decide) rfl ?_
          refine x_aload_n dX12_summedUp_65 rfl ?_
          refine x_getR (b := 309) dX12_summedUp_66 gf_RX12_16 (k_ob_306 cs) (fun _ _ => rfl) (k_r_306_2 cs) ?_
          refine x_iload dX12_summedUp_69 rfl ?_
          refine x_iconst dX12_summedUp_71 ?_
          refine x_iload dX12_summedUp_72 rfl ?_
          refine x_imul dX12_summedUp_74 ?_
          refine x_iadd dX12_summedUp_75 ?_
          refine x_iconst dX12_summedUp_76 ?_
          refine x_iadd dX12_summedUp_77 ?_
          refine x_iaload dX12_summedUp_78 (k_ar_309 cs) (by omega) (by omega) ?_
          rw [show ((c0 : Int) + 2 * ((f + k : Nat) : Int) + 1).toNat = o + 98 + 2 * (f + k) by omega, hJX, hct]
          refine x_istore (lv2 := [(9, _), (8, _), (0, _), (3, _), (4, _), (5, _), (6, _), (7, _)]) dX12_summedUp_79 (by decide) rfl ?_
          refine x_iload dX12_summedUp_81 rfl ?_
          refine x_iconst dX12_summedUp_83 ?_
          refine x_icmp_gt 119 dX12_summedUp_84 (by decide) ⟨(by omega), (by omega)⟩ (fun w84 => ?_) (fun w84 => ?_)
          · refine x_iload dX12_summedUp_119 rfl ?_
            refine x_iconst dX12_summedUp_121 ?_
            refine x_icmp_ne 160 dX12_summedUp_122 (by decide) ⟨(by omega), (by omega)⟩ (fun w122 => ?_) (fun w122 => ?_)
            · refine x_iload dX12_summedUp_160 rfl ?_
              refine x_iconst dX12_summedUp_162 ?_
              refine x_icmp_eq 172 dX12_summedUp_163 (by decide) ⟨(by omega), (by omega)⟩ (fun w163 => ?_) (fun w163 => ?_)
              · exfalso; omega
              · refine x_iload dX12_summedUp_166 rfl ?_
                refine x_iconst dX12_summedUp_168 ?_
                refine x_icmp_ne 216 dX12_summedUp_169 (by decide) ⟨(by omega), (by omega)⟩ (fun w169 => ?_) (fun w169 => ?_)
                · refine x_iload dX12_summedUp_216 rfl ?_
                  refine x_bipush dX12_summedUp_218 (by decide) ?_
                  refine x_icmp_ge 287 dX12_summedUp_220 (by decide) ⟨(by omega), (by omega)⟩ (fun w220 => ?_) (fun w220 => ?_)
                  · refine x_iload dX12_summedUp_287 rfl ?_
                    refine x_bipush dX12_summedUp_289 (by decide) ?_
                    refine x_icmp_ge 331 dX12_summedUp_291 (by decide) ⟨(by omega), (by omega)⟩ (fun w291 => ?_) (fun w291 => ?_)
                    · refine x_iload dX12_summedUp_331 rfl ?_
                      refine x_bipush dX12_summedUp_333 (by decide) ?_
                      refine x_icmp_ne 367 dX12_summedUp_335 (by decide) ⟨(by omega), (by omega)⟩ (fun w335 => ?_) (fun w335 => ?_)
                      · exfalso; omega
                      · exfalso; omega
                    · exfalso; omega
                  · refine x_sub [2, 3, 4, 5, 6, 7, 1, 0] rfl ?_
                    exact bk223_sum cs hcd (by simp only [List.length_cons] at hlen; omega) hE hn c1 hts hvb hK
                · exfalso; omega
            · exfalso; omega
          · exfalso; omega
      · refine x_iload dX12_summedUp_38 rfl ?_
        refine x_aload_n dX12_summedUp_40 rfl ?_
        refine x_getR (b := 309) dX12_summedUp_41 gf_RX12_16 (k_ob_306 cs) (fun _ _ => rfl) (k_r_306_2 cs) ?_
        refine x_iload_n dX12_summedUp_44 rfl ?_
        refine x_iconst dX12_summedUp_45 ?_
        refine x_iadd dX12_summedUp_46 ?_
        refine x_iaload dX12_summedUp_47 (k_ar_309 cs) (by omega) (by omega) ?_
        rw [show ((x : Int) + 2).toNat = x + 2 by omega, hJX, hx2]
        refine x_icmp_ge 406 dX12_summedUp_48 (by decide) ⟨(by omega), (by omega)⟩ (fun w48 => ?_) (fun w48 => ?_)
        · exfalso; omega
        · refine x_aload_n dX12_summedUp_51 rfl ?_
          refine x_getR (b := 309) dX12_summedUp_52 gf_RX12_16 (k_ob_306 cs) (fun _ _ => rfl) (k_r_306_2 cs) ?_
          refine x_iload dX12_summedUp_55 rfl ?_
          refine x_iconst dX12_summedUp_57 ?_
          refine x_iload dX12_summedUp_58 rfl ?_
          refine x_imul dX12_summedUp_60 ?_
          refine x_iadd dX12_summedUp_61 ?_
          refine x_iaload dX12_summedUp_62 (k_ar_309 cs) (by omega) (by omega) ?_
          rw [show ((c0 : Int) + 2 * ((f + k : Nat) : Int)).toNat = o + 97 + 2 * (f + k) by omega, hJX, hco]
          refine x_istore (lv2 := [(8, _), (0, _), (3, _), (4, _), (5, _), (6, _), (7, _)]) dX12_summedUp_63 (by decide) rfl ?_
          refine x_aload_n dX12_summedUp_65 rfl ?_
          refine x_getR (b := 309) dX12_summedUp_66 gf_RX12_16 (k_ob_306 cs) (fun _ _ => rfl) (k_r_306_2 cs) ?_
          refine x_iload dX12_summedUp_69 rfl ?_
          refine x_iconst dX12_summedUp_71 ?_
          refine x_iload dX12_summedUp_72 rfl ?_
          refine x_imul dX12_summedUp_74 ?_
          refine x_iadd dX12_summedUp_75 ?_
          refine x_iconst dX12_summedUp_76 ?_
          refine x_iadd dX12_summedUp_77 ?_
          refine x_iaload dX12_summedUp_78 (k_ar_309 cs) (by omega) (by omega) ?_
          rw [show ((c0 : Int) + 2 * ((f + k : Nat) : Int) + 1).toNat = o + 98 + 2 * (f + k) by omega, hJX, hct]
          refine x_istore (lv2 := [(9, _), (8, _), (0, _), (3, _), (4, _), (5, _), (6, _), (7, _)]) dX12_summedUp_79 (by decide) rfl ?_
          refine x_iload dX12_summedUp_81 rfl ?_
          refine x_iconst dX12_summedUp_83 ?_
          refine x_icmp_gt 119 dX12_summedUp_84 (by decide) ⟨(by omega), (by omega)⟩ (fun w84 => ?_) (fun w84 => ?_)
          · refine x_iload dX12_summedUp_119 rfl ?_
            refine x_iconst dX12_summedUp_121 ?_
            refine x_icmp_ne 160 dX12_summedUp_122 (by decide) ⟨(by omega), (by omega)⟩ (fun w122 => ?_) (fun w122 => ?_)
            · refine x_iload dX12_summedUp_160 rfl ?_
              refine x_iconst dX12_summedUp_162 ?_
              refine x_icmp_eq 172 dX12_summedUp_163 (by decide) ⟨(by omega), (by omega)⟩ (fun w163 => ?_) (fun w163 => ?_)
              · exfalso; omega
              · refine x_iload dX12_summedUp_166 rfl ?_
                refine x_iconst dX12_summedUp_168 ?_
                refine x_icmp_ne 216 dX12_summedUp_169 (by decide) ⟨(by omega), (by omega)⟩ (fun w169 => ?_) (fun w169 => ?_)
                · refine x_iload dX12_summedUp_216 rfl ?_
                  refine x_bipush dX12_summedUp_218 (by decide) ?_
                  refine x_icmp_ge 287 dX12_summedUp_220 (by decide) ⟨(by omega), (by omega)⟩ (fun w220 => ?_) (fun w220 => ?_)
                  · refine x_iload dX12_summedUp_287 rfl ?_
                    refine x_bipush dX12_summedUp_289 (by decide) ?_
                    refine x_icmp_ge 331 dX12_summedUp_291 (by decide) ⟨(by omega), (by omega)⟩ (fun w291 => ?_) (fun w291 => ?_)
                    · refine x_iload dX12_summedUp_331 rfl ?_
                      refine x_bipush dX12_summedUp_333 (by decide) ?_
                      refine x_icmp_ne 367 dX12_summedUp_335 (by decide) ⟨(by omega), (by omega)⟩ (fun w335 => ?_) (fun w335 => ?_)
                      · exfalso; omega
                      · exfalso; omega
                    · refine x_sub [2, 3, 4, 5, 6, 7, 1, 0] rfl ?_
                      exact bk294_sum cs hcd (by simp only [List.length_cons] at hlen; omega) hE hn c1 hts hvb hK
                  · exfalso; omega
                · exfalso; omega
            · exfalso; omega
          · exfalso; omega
      · refine x_iload dX12_summedUp_38 rfl ?_
        refine x_aload_n dX12_summedUp_40 rfl ?_
        refine x_getR (b := 309) dX12_summedUp_41 gf_RX12_16 (k_ob_306 cs) (fun _ _ => rfl) (k_r_306_2 cs) ?_
        refine x_iload_n dX12_summedUp_44 rfl ?_
        refine x_iconst dX12_summedUp_45 ?_
        refine x_iadd dX12_summedUp_46 ?_
        refine x_iaload dX12_summedUp_47 (k_ar_309 cs) (by omega) (by omega) ?_
        rw [show ((x : Int) + 2).toNat = x + 2 by omega, hJX, hx2]
        refine x_icmp_ge 406 dX12_summedUp_48 (by decide) ⟨(by omega), (by omega)⟩ (fun w48 => ?_) (fun w48 => ?_)
        · exfalso; omega
        · refine x_aload_n dX12_summedUp_51 rfl ?_
          refine x_getR (b := 309) dX12_summedUp_52 gf_RX12_16 (k_ob_306 cs) (fun _ _ => rfl) (k_r_306_2 cs) ?_
          refine x_iload dX12_summedUp_55 rfl ?_
          refine x_iconst dX12_summedUp_57 ?_
          refine x_iload dX12_summedUp_58 rfl ?_
          refine x_imul dX12_summedUp_60 ?_
          refine x_iadd dX12_summedUp_61 ?_
          refine x_iaload dX12_summedUp_62 (k_ar_309 cs) (by omega) (by omega) ?_
          rw [show ((c0 : Int) + 2 * ((f + k : Nat) : Int)).toNat = o + 97 + 2 * (f + k) by omega, hJX, hco]
          refine x_istore (lv2 := [(8, _), (0, _), (3, _), (4, _), (5, _), (6, _), (7, _)]) dX12_summedUp_63 (by decide) rfl ?_
          refine x_aload_n dX12_summedUp_65 rfl ?_
          refine x_getR (b := 309) dX12_summedUp_66 gf_RX12_16 (k_ob_306 cs) (fun _ _ => rfl) (k_r_306_2 cs) ?_
          refine x_iload dX12_summedUp_69 rfl ?_
          refine x_iconst dX12_summedUp_71 ?_
          refine x_iload dX12_summedUp_72 rfl ?_
          refine x_imul dX12_summedUp_74 ?_
          refine x_iadd dX12_summedUp_75 ?_
          refine x_iconst dX12_summedUp_76 ?_
          refine x_iadd dX12_summedUp_77 ?_
          refine x_iaload dX12_summedUp_78 (k_ar_309 cs) (by omega) (by omega) ?_
          rw [show ((c0 : Int) + 2 * ((f + k : Nat) : Int) + 1).toNat = o + 98 + 2 * (f + k) by omega, hJX, hct]
          refine x_istore (lv2 := [(9, _), (8, _), (0, _), (3, _), (4, _), (5, _), (6, _), (7, _)]) dX12_summedUp_79 (by decide) rfl ?_
          refine x_iload dX12_summedUp_81 rfl ?_
          refine x_iconst dX12_summedUp_83 ?_
          refine x_icmp_gt 119 dX12_summedUp_84 (by decide) ⟨(by omega), (by omega)⟩ (fun w84 => ?_) (fun w84 => ?_)
          · refine x_iload dX12_summedUp_119 rfl ?_
            refine x_iconst dX12_summedUp_121 ?_
            refine x_icmp_ne 160 dX12_summedUp_122 (by decide) ⟨(by omega), (by omega)⟩ (fun w122 => ?_) (fun w122 => ?_)
            · refine x_iload dX12_summedUp_160 rfl ?_
              refine x_iconst dX12_summedUp_162 ?_
              refine x_icmp_eq 172 dX12_summedUp_163 (by decide) ⟨(by omega), (by omega)⟩ (fun w163 => ?_) (fun w163 => ?_)
              · exfalso; omega
              · refine x_iload dX12_summedUp_166 rfl ?_
                refine x_iconst dX12_summedUp_168 ?_
                refine x_icmp_ne 216 dX12_summedUp_169 (by decide) ⟨(by omega), (by omega)⟩ (fun w169 => ?_) (fun w169 => ?_)
                · refine x_iload dX12_summedUp_216 rfl ?_
                  refine x_bipush dX12_summedUp_218 (by decide) ?_
                  refine x_icmp_ge 287 dX12_summedUp_220 (by decide) ⟨(by omega), (by omega)⟩ (fun w220 => ?_) (fun w220 => ?_)
                  · refine x_iload dX12_summedUp_287 rfl ?_
                    refine x_bipush dX12_summedUp_289 (by decide) ?_
                    refine x_icmp_ge 331 dX12_summedUp_291 (by decide) ⟨(by omega), (by omega)⟩ (fun w291 => ?_) (fun w291 => ?_)
                    · refine x_iload dX12_summedUp_331 rfl ?_
                      refine x_bipush dX12_summedUp_333 (by decide) ?_
                      refine x_icmp_ne 367 dX12_summedUp_335 (by decide) ⟨(by omega), (by omega)⟩ (fun w335 => ?_) (fun w335 => ?_)
                      · refine x_sub [2, 3, 4, 5, 6, 7, 1, 0] rfl ?_
                        exact bk367_sum cs hcd (by simp only [List.length_cons] at hlen; omega) hE hn c1 hts hK
                      · exfalso; omega
                    · exfalso; omega
                  · exfalso; omega
                · exfalso; omega
            · exfalso; omega
          · exfalso; omega
      · refine x_iload dX12_summedUp_38 rfl ?_
        refine x_aload_n dX12_summedUp_40 rfl ?_
        refine x_getR (b := 309) dX12_summedUp_41 gf_RX12_16 (k_ob_306 cs) (fun _ _ => rfl) (k_r_306_2 cs) ?_
        refine x_iload_n dX12_summedUp_44 rfl ?_
        refine x_iconst dX12_summedUp_45 ?_
        refine x_iadd dX12_summedUp_46 ?_
        refine x_iaload dX12_summedUp_47 (k_ar_309 cs) (by omega) (by omega) ?_
        rw [show ((x : Int) + 2).toNat = x + 2 by omega, hJX, hx2]
        refine x_icmp_ge 406 dX12_summedUp_48 (by decide) ⟨(by omega), (by omega)⟩ (fun w48 => ?_) (fun w48 => ?_)
        · exfalso; omega
        · refine x_aload_n dX12_summedUp_51 rfl ?_
          refine x_getR (b := 309) dX12_summedUp_52 gf_RX12_16 (k_ob_306 cs) (fun _ _ => rfl) (k_r_306_2 cs) ?_
          refine x_iload dX12_summedUp_55 rfl ?_
          refine x_iconst dX12_summedUp_57 ?_
          refine x_iload dX12_summedUp_58 rfl ?_
          refine x_imul dX12_summedUp_60 ?_
          refine x_iadd dX12_summedUp_61 ?_
          refine x_iaload dX12_summedUp_62 (k_ar_309 cs) (by omega) (by omega) ?_
          rw [show ((c0 : Int) + 2 * ((f + k : Nat) : Int)).toNat = o + 97 + 2 * (f + k) by omega, hJX, hco]
          refine x_istore (lv2 := [(8, _), (0, _), (3, _), (4, _), (5, _), (6, _), (7, _)]) dX12_summedUp_63 (by decide) rfl ?_
          refine x_aload_n dX12_summedUp_65 rfl ?_
          refine x_getR (b := 309) dX12_summedUp_66 gf_RX12_16 (k_ob_306 cs) (fun _ _ => rfl) (k_r_306_2 cs) ?_
          refine x_iload dX12_summedUp_69 rfl ?_
          refine x_iconst dX12_summedUp_71 ?_
          refine x_iload dX12_summedUp_72 rfl ?_
          refine x_imul dX12_summedUp_74 ?_
          refine x_iadd dX12_summedUp_75 ?_
          refine x_iconst dX12_summedUp_76 ?_
          refine x_iadd dX12_summedUp_77 ?_
          refine x_iaload dX12_summedUp_78 (k_ar_309 cs) (by omega) (by omega) ?_
          rw [show ((c0 : Int) + 2 * ((f + k : Nat) : Int) + 1).toNat = o + 98 + 2 * (f + k) by omega, hJX, hct]
          refine x_istore (lv2 := [(9, _), (8, _), (0, _), (3, _), (4, _), (5, _), (6, _), (7, _)]) dX12_summedUp_79 (by decide) rfl ?_
          refine x_iload dX12_summedUp_81 rfl ?_
          refine x_iconst dX12_summedUp_83 ?_
          refine x_icmp_gt 119 dX12_summedUp_84 (by decide) ⟨(by omega), (by omega)⟩ (fun w84 => ?_) (fun w84 => ?_)
          · refine x_iload dX12_summedUp_119 rfl ?_
            refine x_iconst dX12_summedUp_121 ?_
            refine x_icmp_ne 160 dX12_summedUp_122 (by decide) ⟨(by omega), (by omega)⟩ (fun w122 => ?_) (fun w122 => ?_)
            · refine x_iload dX12_summedUp_160 rfl ?_
              refine x_iconst dX12_summedUp_162 ?_
              refine x_icmp_eq 172 dX12_summedUp_163 (by decide) ⟨(by omega), (by omega)⟩ (fun w163 => ?_) (fun w163 => ?_)
              · exfalso; omega
              · refine x_iload dX12_summedUp_166 rfl ?_
                refine x_iconst dX12_summedUp_168 ?_
                refine x_icmp_ne 216 dX12_summedUp_169 (by decide) ⟨(by omega), (by omega)⟩ (fun w169 => ?_) (fun w169 => ?_)
                · refine x_iload dX12_summedUp_216 rfl ?_
                  refine x_bipush dX12_summedUp_218 (by decide) ?_
                  refine x_icmp_ge 287 dX12_summedUp_220 (by decide) ⟨(by omega), (by omega)⟩ (fun w220 => ?_) (fun w220 => ?_)
                  · refine x_iload dX12_summedUp_287 rfl ?_
                    refine x_bipush dX12_summedUp_289 (by decide) ?_
                    refine x_icmp_ge 331 dX12_summedUp_291 (by decide) ⟨(by omega), (by omega)⟩ (fun w291 => ?_) (fun w291 => ?_)
                    · refine x_iload dX12_summedUp_331 rfl ?_
                      refine x_bipush dX12_summedUp_333 (by decide) ?_
                      refine x_icmp_ne 367 dX12_summedUp_335 (by decide) ⟨(by omega), (by omega)⟩ (fun w335 => ?_) (fun w335 => ?_)
                      · exfalso; omega
                      · exfalso; omega
                    · exfalso; omega
                  · exfalso; omega
                · exfalso; omega
            · refine x_sub [2, 3, 4, 5, 6, 7, 1, 0] rfl ?_
              exact bk125_sum cs hcd (by simp only [List.length_cons] at hlen; omega) hE (by omega) hts hvb hK
          · exfalso; omega
    · obtain rfl : k = K := by omega
      have ht1 : ty = [false] := Option.some.inj (hE.1.symm.trans hty)
      subst ht1
      have hv0 : evP nm A cd f k = J 313 0 := hE.2.2.1
      refine x_iload dX12_summedUp_38 rfl ?_
      refine x_aload_n dX12_summedUp_40 rfl ?_
      refine x_getR (b := 309) dX12_summedUp_41 gf_RX12_16 (k_ob_306 cs) (fun _ _ => rfl) (k_r_306_2 cs) ?_
      refine x_iload_n dX12_summedUp_44 rfl ?_
      refine x_iconst dX12_summedUp_45 ?_
      refine x_iadd dX12_summedUp_46 ?_
      refine x_iaload dX12_summedUp_47 (k_ar_309 cs) (by omega) (by omega) ?_
      rw [show ((x : Int) + 2).toNat = x + 2 by omega, hJX, hx2]
      refine x_icmp_ge 406 dX12_summedUp_48 (by decide) ⟨(by omega), (by omega)⟩ (fun w48 => ?_) (fun w48 => ?_)
      · refine x_aload_n dX12_summedUp_406 rfl ?_
        refine x_getR (b := 313) dX12_summedUp_407 gf_RX12_35 (k_ob_306 cs) (fun _ _ => rfl) (k_r_306_21 cs) ?_
        refine x_iconst dX12_summedUp_410 ?_
        refine x_laload dX12_summedUp_411 (k_ar_313 cs) (by omega) (by omega) ?_
        rw [show J 313 (Int.toNat 0) = evP nm A cd f k from hv0.symm]
        exact x_lreturn dX12_summedUp_412 rfl (by omega) (by omega) (hp _ hF)
      · exfalso; omega
theorem sp_X12_summedUp {X nm cd : Nat → Int} {t c f K bad : Nat} (cs : CS S R) (hA : I 307 = A) (h0 : 0 ≤ A 0 ∧ A 0 ≤ 8) (he : ∀ q, q < 8 → 0 ≤ A (14 + 3 * q) ∧ A (14 + 3 * q) ≤ 9) (hX : I 309 = X) (ht : t < 4) (hc : c < 24) (hx1 : X (705 * t + 2 + 4 * c) = (f : Int)) (hx2 : X (705 * t + 3 + 4 * c) = ((f + K : Nat) : Int)) (hfK : f + K ≤ 300) (hR : RTc X (705 * t) cd f K bad) (hty : tyN cd f K = some [false]) (hnm : ∀ k, k < 8 → k ≠ bad → I 312 k = nm k) (hnb : ∀ k, k < 8 → -100000 ≤ nm k ∧ nm k ≤ 100000) (hn : 2 ≤ n) (hp : ∀ J, Fe I J → Post (some (.long (lI (evP nm A cd f K)))) S J R) : Call n 0 0 mX12_summedUp [.ref (S.2.1 306), .int (iI (t : Int)), .int (iI (c : Int))] S I R Post := by
  refine Call.of (by decide +kernel) (Nat.le_of_ble_eq_true rfl) ?_
  show WP _ _ _ _ _ 0 [(0, _), (1, _), (2, _)] [] 0 0 _ _ _
  refine x_sipush dX12_summedUp_0 (by decide) ?_
  refine x_iload_n dX12_summedUp_3 rfl ?_
  refine x_imul dX12_summedUp_4 ?_
  refine x_iconst dX12_summedUp_5 ?_
  refine x_iadd dX12_summedUp_6 ?_
  refine x_iconst dX12_summedUp_7 ?_
  refine x_iload_n dX12_summedUp_8 rfl ?_
  refine x_imul dX12_summedUp_9 ?_
  refine x_iadd dX12_summedUp_10 ?_
  refine x_istore_n (lv2 := [(3, _), (0, _), (1, _), (2, _)]) dX12_summedUp_11 (by decide) rfl ?_
  refine x_sipush dX12_summedUp_12 (by decide) ?_
  refine x_iload_n dX12_summedUp_15 rfl ?_
  refine x_imul dX12_summedUp_16 ?_
  refine x_bipush dX12_summedUp_17 (by decide) ?_
  refine x_iadd dX12_summedUp_19 ?_
  refine x_istore (lv2 := [(4, _), (3, _), (0, _), (1, _), (2, _)]) dX12_summedUp_20 (by decide) rfl ?_
  refine x_iconst dX12_summedUp_22 ?_
  refine x_istore (lv2 := [(5, _), (4, _), (3, _), (0, _), (1, _), (2, _)]) dX12_summedUp_23 (by decide) rfl ?_
  refine x_iconst dX12_summedUp_25 ?_
  refine x_istore (lv2 := [(6, _), (5, _), (4, _), (3, _), (0, _), (1, _), (2, _)]) dX12_summedUp_26 (by decide) rfl ?_
  refine x_aload_n dX12_summedUp_28 rfl ?_
  refine x_getR (b := 309) dX12_summedUp_29 gf_RX12_16 (k_ob_306 cs) (fun _ _ => rfl) (k_r_306_2 cs) ?_
  refine x_iload_n dX12_summedUp_32 rfl ?_
  refine x_iconst dX12_summedUp_33 ?_
  refine x_iadd dX12_summedUp_34 ?_
  refine x_iaload dX12_summedUp_35 (k_ar_309 cs) (by omega) (by omega) ?_
  rw [show ((705 : Int) * (t : Int) + 1 + 4 * (c : Int) + 1).toNat = 705 * t + 2 + 4 * c by omega, hX, hx1]
  refine x_istore (lv2 := [(7, _), (6, _), (5, _), (4, _), (3, _), (0, _), (1, _), (2, _)]) dX12_summedUp_36 (by decide) rfl ?_
  refine x_sub [5, 4, 3, 2, 1, 0] rfl ?_
  rw [show ((705 : Int) * (t : Int) + 1 + 4 * (c : Int)) = ((705 * t + 1 + 4 * c : Nat) : Int) by omega, show ((705 : Int) * (t : Int) + 97) = ((705 * t + 97 : Nat) : Int) by omega]
  exact lp_sum (o := 705 * t) cs hA h0 he hX (by omega) (by rw [← hx2]; congr 1; omega) rfl (by omega) hfK hR hty hnm hnb hn hp _ 0 I [] (by omega) rfl ⟨rfl, rfl, trivial⟩ Fe.rf
/-- a law of a text: where the reference has it -/
def LawR (X : Nat → Int) (o : Nat) (x : Nat → Int) (s fr to : Int) (bad : Nat) : Prop := (fr < to → ∃ c : Nat, (c : Int) < x 0 ∧ X (o + 1 + 4 * c) = s ∧ (∀ j, j < c → X (o + 1 + 4 * j) ≠ s) ∧ X (o + 2 + 4 * c) = fr ∧ X (o + 3 + 4 * c) = to ∧ (0 ≤ fr ∧ to ≤ 300) ∧ RTc X o (fun i => x (106 + i)) fr.toNat (to - fr).toNat bad ∧ tyN (fun i => x (106 + i)) fr.toNat (to - fr).toNat = some [false]) ∧ (¬ fr < to → ∀ c : Nat, (c : Int) < x 0 → X (o + 1 + 4 * c) ≠ s)
/-- what says answers -/
def sayP (nm A : Nat → Int) (x : Nat → Int) (t fr to w lo hi : Int) : Int := clampI lo hi (if 0 ≤ t ∧ fr < to then evP nm A (fun i => x (106 + i)) fr.toNat (to - fr).toNat else w)
theorem dX12_says_0 : decode prog_14_method_70_code 0 = .ok (.iconst 0, 1) := by decide +kernel
theorem dX12_says_1 : decode prog_14_method_70_code 1 = .ok (.istore 7, 2) := by decide +kernel
theorem dX12_says_3 : decode prog_14_method_70_code 3 = .ok (.iload_n 1, 1) := by decide +kernel
theorem dX12_says_4 : decode prog_14_method_70_code 4 = .ok (.ifCond .lt 60, 3) := by decide +kernel
theorem dX12_says_7 : decode prog_14_method_70_code 7 = .ok (.iload 7, 2) := by decide +kernel
theorem dX12_says_9 : decode prog_14_method_70_code 9 = .ok (.aload_n 0, 1) := by decide +kernel
theorem dX12_says_10 : decode prog_14_method_70_code 10 = .ok (.getfield 16, 3) := by decide +kernel
theorem dX12_says_13 : decode prog_14_method_70_code 13 = .ok (.sipush 705, 3) := by decide +kernel
theorem dX12_says_16 : decode prog_14_method_70_code 16 = .ok (.iload_n 1, 1) := by decide +kernel
theorem dX12_says_17 : decode prog_14_method_70_code 17 = .ok (.imul, 1) := by decide +kernel
theorem dX12_says_18 : decode prog_14_method_70_code 18 = .ok (.iaload, 1) := by decide +kernel
theorem dX12_says_19 : decode prog_14_method_70_code 19 = .ok (.if_icmp .ge 45, 3) := by decide +kernel
theorem dX12_says_22 : decode prog_14_method_70_code 22 = .ok (.aload_n 0, 1) := by decide +kernel
theorem dX12_says_23 : decode prog_14_method_70_code 23 = .ok (.getfield 16, 3) := by decide +kernel
theorem dX12_says_26 : decode prog_14_method_70_code 26 = .ok (.sipush 705, 3) := by decide +kernel
theorem dX12_says_29 : decode prog_14_method_70_code 29 = .ok (.iload_n 1, 1) := by decide +kernel
theorem dX12_says_30 : decode prog_14_method_70_code 30 = .ok (.imul, 1) := by decide +kernel
theorem dX12_says_31 : decode prog_14_method_70_code 31 = .ok (.iconst 1, 1) := by decide +kernel
theorem dX12_says_32 : decode prog_14_method_70_code 32 = .ok (.iadd, 1) := by decide +kernel
theorem dX12_says_33 : decode prog_14_method_70_code 33 = .ok (.iconst 4, 1) := by decide +kernel
theorem dX12_says_34 : decode prog_14_method_70_code 34 = .ok (.iload 7, 2) := by decide +kernel
theorem dX12_says_36 : decode prog_14_method_70_code 36 = .ok (.imul, 1) := by decide +kernel
theorem dX12_says_37 : decode prog_14_method_70_code 37 = .ok (.iadd, 1) := by decide +kernel
theorem dX12_says_38 : decode prog_14_method_70_code 38 = .ok (.iaload, 1) := by decide +kernel
theorem dX12_says_39 : decode prog_14_method_70_code 39 = .ok (.iload_n 2, 1) := by decide +kernel
theorem dX12_says_40 : decode prog_14_method_70_code 40 = .ok (.if_icmp .ne 18, 3) := by decide +kernel
theorem dX12_says_43 : decode prog_14_method_70_code 43 = .ok (.aload_n 0, 1) := by decide +kernel
theorem dX12_says_44 : decode prog_14_method_70_code 44 = .ok (.iload_n 1, 1) := by decide +kernel
theorem dX12_says_45 : decode prog_14_method_70_code 45 = .ok (.iload 7, 2) := by decide +kernel
theorem dX12_says_47 : decode prog_14_method_70_code 47 = .ok (.invokevirtual 303, 3) := by decide +kernel
theorem dX12_says_50 : decode prog_14_method_70_code 50 = .ok (.iload 5, 2) := by decide +kernel
theorem dX12_says_52 : decode prog_14_method_70_code 52 = .ok (.iload 6, 2) := by decide +kernel
theorem dX12_says_54 : decode prog_14_method_70_code 54 = .ok (.invokestatic 306, 3) := by decide +kernel
theorem dX12_says_57 : decode prog_14_method_70_code 57 = .ok (.ireturn, 1) := by decide +kernel
theorem dX12_says_58 : decode prog_14_method_70_code 58 = .ok (.iinc 7 1, 3) := by decide +kernel
theorem dX12_says_61 : decode prog_14_method_70_code 61 = .ok (.goto (-58), 3) := by decide +kernel
theorem dX12_says_64 : decode prog_14_method_70_code 64 = .ok (.lload_n 3, 1) := by decide +kernel
theorem dX12_says_65 : decode prog_14_method_70_code 65 = .ok (.iload 5, 2) := by decide +kernel
theorem dX12_says_67 : decode prog_14_method_70_code 67 = .ok (.iload 6, 2) := by decide +kernel
theorem dX12_says_69 : decode prog_14_method_70_code 69 = .ok (.invokestatic 306, 3) := by decide +kernel
theorem dX12_says_72 : decode prog_14_method_70_code 72 = .ok (.ireturn, 1) := by decide +kernel
theorem evP_b {nm A cd : Nat → Int} {f K : Nat} : -1000000 ≤ evP nm A cd f K ∧ evP nm A cd f K ≤ 1000000 := rnF_b (fun _ _ => (by show (-1000000 : Int) ≤ 0 ∧ (0 : Int) ≤ 1000000; omega)) K 0 (by decide)
theorem lp_says {X nm x : Nat → Int} {t s w lo hi fr to : Int} {bad : Nat} (cs : CS S R) (hA : I 307 = A) (h0 : 0 ≤ A 0 ∧ A 0 ≤ 8) (he : ∀ q, q < 8 → 0 ≤ A (14 + 3 * q) ∧ A (14 + 3 * q) ≤ 9) (hX : I 309 = X) (ht : -1 ≤ t ∧ t < 4) (hs : Rg s) (hL : 0 ≤ t → (X (705 * t.toNat) = x 0 ∧ 0 ≤ x 0 ∧ x 0 ≤ 24) ∧ (∀ k : Nat, (k : Int) < x 0 → Rg (X (705 * t.toNat + 1 + 4 * k))) ∧ LawR X (705 * t.toNat) x s fr to bad) (hnm : ∀ k, k < 8 → k ≠ bad → I 312 k = nm k) (hnb : ∀ k, k < 8 → -100000 ≤ nm k ∧ nm k ≤ 100000) (hw : Rg w) (hlo : Rg lo) (hhi : Rg hi) (hn : 3 ≤ n) (hp : ∀ J, Fe I J → Post (some (.int (iI (sayP nm A x t fr to w lo hi)))) S J R) : ∀ (d k : Nat), (k : Int) ≤ (if 0 ≤ t then x 0 else 0) → 24 - k = d → (0 ≤ t → ∀ j, j < k → X (705 * t.toNat + 1 + 4 * j) ≠ s) → WP n 0 0 mX12_says Post 3 [(0, .ref (S.2.1 306)), (1, .int (iI t)), (2, .int (iI s)), (3, .long (lI w)), (5, .int (iI lo)), (6, .int (iI hi)), (7, .int (iI (k : Int)))] [] 0 0 S I R := by
  intro d
  induction d using Nat.strongRecOn with
  | ind d ih =>
    intro k k1 k2 hno
    have hz : 0 ≤ t → 705 * t = ((705 * t.toNat : Nat) : Int) := fun h => by omega
    unfold sayP at hp
    refine x_iload_n dX12_says_3 rfl ?_
    refine x_if_lt 64 dX12_says_4 (by decide) (by omega) (fun w4 => ?_) (fun w4 => ?_)
    · refine x_lload_n dX12_says_64 rfl ?_
      refine x_iload dX12_says_65 rfl ?_
      refine x_iload dX12_says_67 rfl ?_
      refine x_callS3 (mc1 := 0) (ms1 := 0) dX12_says_69 cv_RX12_306 (Nat.le_of_ble_eq_true rfl) (n1 := n - 1) (by omega) (by omega) (by omega) ?_
      first
        | (rw [if_pos (show 0 ≤ t ∧ fr < to by omega)] at hp; refine sp_X12_held (by omega) (by omega) (by omega) ?_)
        | refine sp_X12_held (by omega) (by omega) (by omega) ?_
      exact x_ireturn dX12_says_72 rfl (by omega) (by omega) (by first
      | (rw [if_neg (by omega)] at hp; exact hp _ Fe.rf)
      | (obtain ⟨g1, g2, g3⟩ := hL (by omega)
         by_cases hft : fr < to
         · obtain ⟨c, c1, c2, c3, -⟩ := g3.1 hft
           exact absurd c2 (hno (by omega) c (by omega))
         · rw [if_neg (by omega)] at hp; exact hp _ Fe.rf)
      | exact hp _ hF47)
    · obtain ⟨⟨gX, gx⟩, gr, gl⟩ := hL (by omega)
      rw [if_pos (show 0 ≤ t by omega)] at k1
      refine x_iload dX12_says_7 rfl ?_
      refine x_aload_n dX12_says_9 rfl ?_
      refine x_getR (b := 309) dX12_says_10 gf_RX12_16 (k_ob_306 cs) (fun _ _ => rfl) (k_r_306_2 cs) ?_
      refine x_sipush dX12_says_13 (by decide) ?_
      refine x_iload_n dX12_says_16 rfl ?_
      refine x_imul dX12_says_17 ?_
      refine x_iaload dX12_says_18 (k_ar_309 cs) (by omega) (by omega) ?_
      rw [show ((705 : Int) * t).toNat = 705 * t.toNat by omega, hX, gX]
      refine x_icmp_ge 64 dX12_says_19 (by decide) ⟨(by omega), (by omega)⟩ (fun w19 => ?_) (fun w19 => ?_)
      · refine x_lload_n dX12_says_64 rfl ?_
        refine x_iload dX12_says_65 rfl ?_
        refine x_iload dX12_says_67 rfl ?_
        refine x_callS3 (mc1 := 0) (ms1 := 0) dX12_says_69 cv_RX12_306 (Nat.le_of_ble_eq_true rfl) (n1 := n - 1) (by omega) (by omega) (by omega) ?_
        first
          | (rw [if_pos (show 0 ≤ t ∧ fr < to by omega)] at hp; refine sp_X12_held (by omega) (by omega) (by omega) ?_)
          | refine sp_X12_held (by omega) (by omega) (by omega) ?_
        exact x_ireturn dX12_says_72 rfl (by omega) (by omega) (by first
      | (rw [if_neg (by omega)] at hp; exact hp _ Fe.rf)
      | (obtain ⟨g1, g2, g3⟩ := hL (by omega)
         by_cases hft : fr < to
         · obtain ⟨c, c1, c2, c3, -⟩ := g3.1 hft
           exact absurd c2 (hno (by omega) c (by omega))
         · rw [if_neg (by omega)] at hp; exact hp _ Fe.rf)
      | exact hp _ hF47)
      · refine x_aload_n dX12_says_22 rfl ?_
        refine x_getR (b := 309) dX12_says_23 gf_RX12_16 (k_ob_306 cs) (fun _ _ => rfl) (k_r_306_2 cs) ?_
        refine x_sipush dX12_says_26 (by decide) ?_
        refine x_iload_n dX12_says_29 rfl ?_
        refine x_imul dX12_says_30 ?_
        refine x_iconst dX12_says_31 ?_
        refine x_iadd dX12_says_32 ?_
        refine x_iconst dX12_says_33 ?_
        refine x_iload dX12_says_34 rfl ?_
        refine x_imul dX12_says_36 ?_
        refine x_iadd dX12_says_37 ?_
        refine x_iaload dX12_says_38 (k_ar_309 cs) (by omega) (by omega) ?_
        rw [show ((705 : Int) * t + 1 + 4 * (k : Int)).toNat = 705 * t.toNat + 1 + 4 * k by omega, hX]
        have grk := gr k (by omega)
        refine x_iload_n dX12_says_39 rfl ?_
        refine x_icmp_ne 58 dX12_says_40 (by decide) ⟨(by omega), (by omega)⟩ (fun w40 => ?_) (fun w40 => ?_)
        · refine x_iinc (lv2 := [(7, _), (0, _), (1, _), (2, _), (3, _), (5, _), (6, _)]) dX12_says_58 rfl (by decide) rfl ?_
          refine x_goto 3 dX12_says_61 (by decide) ?_
          refine x_sub [1, 2, 3, 4, 5, 6, 0] rfl ?_
          refine ih _ (by omega) (k + 1) (by rw [if_pos (by omega)]; omega) rfl (fun h j hj => ?_)
          by_cases e : j = k
          · rw [e]; omega
          · exact hno h j (by omega)
        · refine x_aload_n dX12_says_43 rfl ?_
          refine x_iload_n dX12_says_44 rfl ?_
          refine x_iload dX12_says_45 rfl ?_
          refine x_callV2 (mc1 := 0) (ms1 := 0) dX12_says_47 cv_RX12_303 (ci := 12) (k_ob_306 cs) rfl (Nat.le_of_ble_eq_true rfl) (n1 := n - 1) (by omega) (by omega) (by omega) ?_
          rw [asN (a := t) (by omega)]
          have hft : fr < to := by
            by_cases h : fr < to
            · exact h
            · exact absurd (by omega) (gl.2 h k (by omega))
          obtain ⟨c, e1, e2, e3, e4, e5, e6, e7, e8⟩ := gl.1 hft
          have hck : c = k := by
            rcases Nat.lt_trichotomy c k with h | h | h
            · exact absurd e2 (hno (by omega) c h)
            · exact h
            · exact absurd (by omega) (e3 k h)
          subst hck
          refine sp_X12_summedUp (t := t.toNat) (c := c) (f := fr.toNat) (K := (to - fr).toNat) cs hA h0 he hX (by omega) (by omega) (by rw [e4]; omega) (by rw [e5]; omega) (by omega) e7 e8 hnm hnb (by omega) (fun J47 hF47 => ?_)
          have hev := evP_b (nm := nm) (A := A) (cd := fun i => x (106 + i)) (f := fr.toNat) (K := (to - fr).toNat)
          refine x_iload dX12_says_50 rfl ?_
          refine x_iload dX12_says_52 rfl ?_
          refine x_callS3 (mc1 := 0) (ms1 := 0) dX12_says_54 cv_RX12_306 (Nat.le_of_ble_eq_true rfl) (n1 := n - 1) (by omega) (by omega) (by omega) ?_
          first
            | (rw [if_pos (show 0 ≤ t ∧ fr < to by omega)] at hp; refine sp_X12_held (by omega) (by omega) (by omega) ?_)
            | refine sp_X12_held (by omega) (by omega) (by omega) ?_
          exact x_ireturn dX12_says_57 rfl (by omega) (by omega) (by first
      | (rw [if_neg (by omega)] at hp; exact hp _ Fe.rf)
      | (obtain ⟨g1, g2, g3⟩ := hL (by omega)
         by_cases hft : fr < to
         · obtain ⟨c, c1, c2, c3, -⟩ := g3.1 hft
           exact absurd c2 (hno (by omega) c (by omega))
         · rw [if_neg (by omega)] at hp; exact hp _ Fe.rf)
      | exact hp _ hF47)
theorem sp_X12_says {X nm x : Nat → Int} {t s w lo hi fr to : Int} {bad : Nat} (cs : CS S R) (hA : I 307 = A) (h0 : 0 ≤ A 0 ∧ A 0 ≤ 8) (he : ∀ q, q < 8 → 0 ≤ A (14 + 3 * q) ∧ A (14 + 3 * q) ≤ 9) (hX : I 309 = X) (ht : -1 ≤ t ∧ t < 4) (hs : Rg s) (hL : 0 ≤ t → (X (705 * t.toNat) = x 0 ∧ 0 ≤ x 0 ∧ x 0 ≤ 24) ∧ (∀ k : Nat, (k : Int) < x 0 → Rg (X (705 * t.toNat + 1 + 4 * k))) ∧ LawR X (705 * t.toNat) x s fr to bad) (hnm : ∀ k, k < 8 → k ≠ bad → I 312 k = nm k) (hnb : ∀ k, k < 8 → -100000 ≤ nm k ∧ nm k ≤ 100000) (hw : Rg w) (hlo : Rg lo) (hhi : Rg hi) (hn : 3 ≤ n) (hp : ∀ J, Fe I J → Post (some (.int (iI (sayP nm A x t fr to w lo hi)))) S J R) : Call n 0 0 mX12_says [.ref (S.2.1 306), .int (iI t), .int (iI s), .long (lI w), .int (iI lo), .int (iI hi)] S I R Post := by
  refine Call.of (by decide +kernel) (Nat.le_of_ble_eq_true rfl) ?_
  show WP _ _ _ _ _ 0 [(0, _), (1, _), (2, _), (3, _), (5, _), (6, _)] [] 0 0 _ _ _
  refine x_iconst dX12_says_0 ?_
  refine x_istore (lv2 := [(7, _), (0, _), (1, _), (2, _), (3, _), (5, _), (6, _)]) dX12_says_1 (by decide) rfl ?_
  refine x_sub [1, 2, 3, 4, 5, 6, 0] rfl ?_
  exact lp_says cs hA h0 he hX ht hs hL hnm hnb hw hlo hhi hn hp _ 0 (by split; exact (hL (by omega)).1.2.1; omega) rfl (fun _ j hj => by omega)
end Ref8
