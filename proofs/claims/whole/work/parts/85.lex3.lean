section Lex3
variable {n mc ms : Nat} {M : Md} {pc : Nat} {lv : List (Nat × Value)} {st : List Value} {k j : Nat} {Post : PT} {S : Sh} {I : CI} {R : CR} {A : Nat → Int} {tx : Nat → Nat → Int}
def TpC (I : CI) (t : Nat → Int) (l : Nat) : Prop := I 288 = t ∧ I 287 3 = (l : Int) ∧ l ≤ 300 ∧ ∀ i, i < 300 → 0 ≤ t i ∧ t i < 256
def CuC (I : CI) (c : Cu) : Prop := I 287 13 = (c.1 : Int) ∧ I 287 14 = (c.2.1 : Int) ∧ I 287 15 = c.2.2.1 ∧ (c.2.2.1 = 2 → I 287 16 = c.2.2.2)
def Fcu (I J : CI) : Prop := (∀ c, c ≠ 287 → J c = I c) ∧ ∀ k, (k < 13 ∨ 16 < k) → J 287 k = I 287 k
theorem Fcu.rf {I : CI} : Fcu I I := ⟨fun _ _ => rfl, fun _ _ => rfl⟩
theorem Fcu.u {I J : CI} {q : Nat} {v : Int} (h : Fcu I J) (hq : 13 ≤ q ∧ q ≤ 16) : Fcu I (uI J 287 q v) := ⟨fun c hc => by funext i; rw [uI_o (Or.inl hc), h.1 c hc], fun i hi => by rw [uI_o (by omega)]; exact h.2 i hi⟩
theorem Fcu.tr {I J K : CI} (h : Fcu I J) (h2 : Fcu J K) : Fcu I K := ⟨fun c hc => (h2.1 c hc).trans (h.1 c hc), fun i hi => (h2.2 i hi).trans (h.2 i hi)⟩
theorem TpC.f {I J : CI} {t : Nat → Int} {l : Nat} (h : TpC I t l) (f : Fcu I J) : TpC J t l := ⟨(f.1 288 (by decide)).trans h.1, (f.2 3 (by omega)).trans h.2.1, h.2.2⟩
theorem dX5_advanceNumber_0 : decode prog_7_method_11_code 0 = .ok (.aload_n 0, 1) := by decide +kernel
theorem dX5_advanceNumber_1 : decode prog_7_method_11_code 1 = .ok (.iconst 2, 1) := by decide +kernel
theorem dX5_advanceNumber_2 : decode prog_7_method_11_code 2 = .ok (.putfield 41, 3) := by decide +kernel
theorem dX5_advanceNumber_5 : decode prog_7_method_11_code 5 = .ok (.aload_n 0, 1) := by decide +kernel
theorem dX5_advanceNumber_6 : decode prog_7_method_11_code 6 = .ok (.iconst 0, 1) := by decide +kernel
theorem dX5_advanceNumber_7 : decode prog_7_method_11_code 7 = .ok (.putfield 105, 3) := by decide +kernel
theorem dX5_advanceNumber_10 : decode prog_7_method_11_code 10 = .ok (.aload_n 0, 1) := by decide +kernel
theorem dX5_advanceNumber_11 : decode prog_7_method_11_code 11 = .ok (.getfield 71, 3) := by decide +kernel
theorem dX5_advanceNumber_14 : decode prog_7_method_11_code 14 = .ok (.aload_n 0, 1) := by decide +kernel
theorem dX5_advanceNumber_15 : decode prog_7_method_11_code 15 = .ok (.getfield 28, 3) := by decide +kernel
theorem dX5_advanceNumber_18 : decode prog_7_method_11_code 18 = .ok (.if_icmp .ge 61, 3) := by decide +kernel
theorem dX5_advanceNumber_21 : decode prog_7_method_11_code 21 = .ok (.aload_n 0, 1) := by decide +kernel
theorem dX5_advanceNumber_22 : decode prog_7_method_11_code 22 = .ok (.getfield 9, 3) := by decide +kernel
theorem dX5_advanceNumber_25 : decode prog_7_method_11_code 25 = .ok (.aload_n 0, 1) := by decide +kernel
theorem dX5_advanceNumber_26 : decode prog_7_method_11_code 26 = .ok (.getfield 71, 3) := by decide +kernel
theorem dX5_advanceNumber_29 : decode prog_7_method_11_code 29 = .ok (.iaload, 1) := by decide +kernel
theorem dX5_advanceNumber_30 : decode prog_7_method_11_code 30 = .ok (.invokestatic 85, 3) := by decide +kernel
theorem dX5_advanceNumber_33 : decode prog_7_method_11_code 33 = .ok (.ifCond .eq 46, 3) := by decide +kernel
theorem dX5_advanceNumber_36 : decode prog_7_method_11_code 36 = .ok (.aload_n 0, 1) := by decide +kernel
theorem dX5_advanceNumber_37 : decode prog_7_method_11_code 37 = .ok (.sipush 10000, 3) := by decide +kernel
theorem dX5_advanceNumber_40 : decode prog_7_method_11_code 40 = .ok (.aload_n 0, 1) := by decide +kernel
theorem dX5_advanceNumber_41 : decode prog_7_method_11_code 41 = .ok (.getfield 105, 3) := by decide +kernel
theorem dX5_advanceNumber_44 : decode prog_7_method_11_code 44 = .ok (.bipush 10, 2) := by decide +kernel
theorem dX5_advanceNumber_46 : decode prog_7_method_11_code 46 = .ok (.imul, 1) := by decide +kernel
theorem dX5_advanceNumber_47 : decode prog_7_method_11_code 47 = .ok (.aload_n 0, 1) := by decide +kernel
theorem dX5_advanceNumber_48 : decode prog_7_method_11_code 48 = .ok (.getfield 9, 3) := by decide +kernel
theorem dX5_advanceNumber_51 : decode prog_7_method_11_code 51 = .ok (.aload_n 0, 1) := by decide +kernel
theorem dX5_advanceNumber_52 : decode prog_7_method_11_code 52 = .ok (.getfield 71, 3) := by decide +kernel
theorem dX5_advanceNumber_55 : decode prog_7_method_11_code 55 = .ok (.iaload, 1) := by decide +kernel
theorem dX5_advanceNumber_56 : decode prog_7_method_11_code 56 = .ok (.iadd, 1) := by decide +kernel
theorem dX5_advanceNumber_57 : decode prog_7_method_11_code 57 = .ok (.bipush 48, 2) := by decide +kernel
theorem dX5_advanceNumber_59 : decode prog_7_method_11_code 59 = .ok (.isub, 1) := by decide +kernel
theorem dX5_advanceNumber_60 : decode prog_7_method_11_code 60 = .ok (.invokestatic 108, 3) := by decide +kernel
theorem dX5_advanceNumber_63 : decode prog_7_method_11_code 63 = .ok (.putfield 105, 3) := by decide +kernel
theorem dX5_advanceNumber_66 : decode prog_7_method_11_code 66 = .ok (.aload_n 0, 1) := by decide +kernel
theorem dX5_advanceNumber_67 : decode prog_7_method_11_code 67 = .ok (.dup, 1) := by decide +kernel
theorem dX5_advanceNumber_68 : decode prog_7_method_11_code 68 = .ok (.getfield 71, 3) := by decide +kernel
theorem dX5_advanceNumber_71 : decode prog_7_method_11_code 71 = .ok (.iconst 1, 1) := by decide +kernel
theorem dX5_advanceNumber_72 : decode prog_7_method_11_code 72 = .ok (.iadd, 1) := by decide +kernel
theorem dX5_advanceNumber_73 : decode prog_7_method_11_code 73 = .ok (.putfield 71, 3) := by decide +kernel
theorem dX5_advanceNumber_76 : decode prog_7_method_11_code 76 = .ok (.goto (-66), 3) := by decide +kernel
theorem dX5_advanceNumber_79 : decode prog_7_method_11_code 79 = .ok (.return_, 1) := by decide +kernel
theorem lp_advN {t : Nat → Int} {l s : Nat} (cs : CS S R) (hn : 1 ≤ n) (hT : TpC I t l) (hp : ∀ J, J 287 13 = ((eR (dB t l) l s : Nat) : Int) → J 287 14 = I 287 14 → J 287 15 = 2 → J 287 16 = nuC t s (eR (dB t l) l s - s) → Fcu I J → Post none S J R) : ∀ (d q : Nat) (J : CI), s + q ≤ l → l - (s + q) = d → J 287 13 = ((s + q : Nat) : Int) → J 287 14 = I 287 14 → J 287 15 = 2 → J 287 16 = nuC t s q → Fcu I J → (∀ i, i < q → dgP (t (s + i))) → eR (dB t l) l (s + q) = eR (dB t l) l s → WP n 0 0 mX5_advanceNumber Post 10 [(0, .ref (S.2.1 287))] [] 0 0 S J R := by
  intro d
  induction d using Nat.strongRecOn with
  | ind d ih =>
    intro q J h1 h2 j13 j14 j15 j16 hF hD hE
    obtain ⟨j288, j3, l3, jb⟩ := TpC.f hT hF
    have hnu := nu_rel q hD
    have hb2 : s + q < l → _ := fun h => jb (s + q) (by omega)
    refine x_aload_n dX5_advanceNumber_10 rfl ?_
    refine x_getIv (z := ((s + q : Nat) : Int)) dX5_advanceNumber_11 gf_RX5_71 (k_ob_287 cs) (fun _ _ => rfl) (by first | exact j13 | exact j3 | exact j16 | (rw [uI_o (by omega)]; exact j13) | (rw [uI_o (by omega)]; exact j3)) ?_
    refine x_aload_n dX5_advanceNumber_14 rfl ?_
    refine x_getIv (z := (l : Int)) dX5_advanceNumber_15 gf_RX5_28 (k_ob_287 cs) (fun _ _ => rfl) (by first | exact j13 | exact j3 | exact j16 | (rw [uI_o (by omega)]; exact j13) | (rw [uI_o (by omega)]; exact j3)) ?_
    refine x_icmp_ge 79 dX5_advanceNumber_18 (by decide) ⟨(by omega), (by omega)⟩ (fun w18 => ?_) (fun w18 => ?_)
    · first
      | (have e : eR (dB t l) l s = s + q := hE.symm.trans (eR_out (by omega))
         exact x_return dX5_advanceNumber_79 rfl (by omega) (by omega) (hp J (by rw [e]; exact j13) j14 j15 (by rw [e, show s + q - s = q by omega]; exact j16) hF))
      | (have e : eR (dB t l) l s = s + q := hE.symm.trans (eR_stop (dB_f.mpr (by omega)))
         exact x_return dX5_advanceNumber_79 rfl (by omega) (by omega) (hp J (by rw [e]; exact j13) j14 j15 (by rw [e, show s + q - s = q by omega]; exact j16) hF))
    · have hb3 := hb2 (by omega)
      refine x_aload_n dX5_advanceNumber_21 rfl ?_
      refine x_getR (b := 288) dX5_advanceNumber_22 gf_RX5_9 (k_ob_287 cs) (fun _ _ => rfl) (k_r_287_0 cs) ?_
      refine x_aload_n dX5_advanceNumber_25 rfl ?_
      refine x_getIv (z := ((s + q : Nat) : Int)) dX5_advanceNumber_26 gf_RX5_71 (k_ob_287 cs) (fun _ _ => rfl) (by first | exact j13 | exact j3 | exact j16 | (rw [uI_o (by omega)]; exact j13) | (rw [uI_o (by omega)]; exact j3)) ?_
      refine x_iaload dX5_advanceNumber_29 (k_ar_288 cs) (by omega) (by omega) ?_
      rw [j288, tN]
      refine x_callS1 (mc1 := 0) (ms1 := 0) dX5_advanceNumber_30 cv_RX5_85 (Nat.le_of_ble_eq_true rfl) (by omega) (by omega) (by omega) ?_
      refine sp_X5_isDigit (by omega) (fun r30 hr30 => ?_)
      refine x_if_eq 79 dX5_advanceNumber_33 (by decide) (by omega) (fun w33 => ?_) (fun w33 => ?_)
      · first
        | (have e : eR (dB t l) l s = s + q := hE.symm.trans (eR_out (by omega))
           exact x_return dX5_advanceNumber_79 rfl (by omega) (by omega) (hp J (by rw [e]; exact j13) j14 j15 (by rw [e, show s + q - s = q by omega]; exact j16) hF))
        | (have e : eR (dB t l) l s = s + q := hE.symm.trans (eR_stop (dB_f.mpr (by omega)))
           exact x_return dX5_advanceNumber_79 rfl (by omega) (by omega) (hp J (by rw [e]; exact j13) j14 j15 (by rw [e, show s + q - s = q by omega]; exact j16) hF))
      · refine x_aload_n dX5_advanceNumber_36 rfl ?_
        refine x_sipush dX5_advanceNumber_37 (by decide) ?_
        refine x_aload_n dX5_advanceNumber_40 rfl ?_
        refine x_getIv (z := nuC t s q) dX5_advanceNumber_41 gf_RX5_105 (k_ob_287 cs) (fun _ _ => rfl) (by first | exact j13 | exact j3 | exact j16 | (rw [uI_o (by omega)]; exact j13) | (rw [uI_o (by omega)]; exact j3)) ?_
        refine x_bipush dX5_advanceNumber_44 (by decide) ?_
        refine x_imul dX5_advanceNumber_46 ?_
        refine x_aload_n dX5_advanceNumber_47 rfl ?_
        refine x_getR (b := 288) dX5_advanceNumber_48 gf_RX5_9 (k_ob_287 cs) (fun _ _ => rfl) (k_r_287_0 cs) ?_
        refine x_aload_n dX5_advanceNumber_51 rfl ?_
        refine x_getIv (z := ((s + q : Nat) : Int)) dX5_advanceNumber_52 gf_RX5_71 (k_ob_287 cs) (fun _ _ => rfl) (by first | exact j13 | exact j3 | exact j16 | (rw [uI_o (by omega)]; exact j13) | (rw [uI_o (by omega)]; exact j3)) ?_
        refine x_iaload dX5_advanceNumber_55 (k_ar_288 cs) (by omega) (by omega) ?_
        rw [j288, tN]
        refine x_iadd dX5_advanceNumber_56 ?_
        refine x_bipush dX5_advanceNumber_57 (by decide) ?_
        refine x_isub dX5_advanceNumber_59 ?_
        refine x_mmin dX5_advanceNumber_60 cv_RX5_108 (by omega) (Nat.le_of_ble_eq_true rfl) (by omega) (by omega) (by omega) (fun r60 hr60 => ?_)
        refine x_putI dX5_advanceNumber_63 gf_RX5_105 (k_ob_287 cs) rfl ?_
        refine x_aload_n dX5_advanceNumber_66 rfl ?_
        refine x_dup dX5_advanceNumber_67 rfl ?_
        refine x_getIv (z := ((s + q : Nat) : Int)) dX5_advanceNumber_68 gf_RX5_71 (k_ob_287 cs) (fun _ _ => rfl) (by first | exact j13 | exact j3 | exact j16 | (rw [uI_o (by omega)]; exact j13) | (rw [uI_o (by omega)]; exact j3)) ?_
        refine x_iconst dX5_advanceNumber_71 ?_
        refine x_iadd dX5_advanceNumber_72 ?_
        refine x_putI dX5_advanceNumber_73 gf_RX5_71 (k_ob_287 cs) rfl ?_
        refine x_goto 10 dX5_advanceNumber_76 (by decide) ?_
        refine x_sub [0] rfl ?_
        refine ih _ (by omega) (q + 1) _ (by omega) rfl (by rw [uI_s]; omega) (by rw [uI_o (by omega), uI_o (by omega)]; exact j14) (by rw [uI_o (by omega), uI_o (by omega)]; exact j15) ?_ ((hF.u (by omega)).u (by omega)) ?_ ?_
        · rw [uI_o (by omega), uI_s]
          show r60 = if 10000 ≤ nuC t s q * 10 + t (s + q) - 48 then 10000 else nuC t s q * 10 + t (s + q) - 48
          split <;> omega
        · intro i hi
          by_cases e : i = q
          · subst e; omega
          · exact hD i (by omega)
        · have e9 := eR_go (b := dB t l) (l := l) (p := s + q) (dB_t.mpr ⟨by omega, by omega⟩) (by omega)
          rw [← hE]; exact e9.symm
theorem sp_X5_advanceNumber {t : Nat → Int} {l s : Nat} (cs : CS S R) (hn : 1 ≤ n) (hT : TpC I t l) (hs : s ≤ l) (h13 : I 287 13 = (s : Int)) (hp : ∀ J, J 287 13 = ((eR (dB t l) l s : Nat) : Int) → J 287 14 = I 287 14 → J 287 15 = 2 → J 287 16 = nuC t s (eR (dB t l) l s - s) → Fcu I J → Post none S J R) : Call n 0 0 mX5_advanceNumber [.ref (S.2.1 287)] S I R Post := by
  refine Call.of (by decide +kernel) (Nat.le_of_ble_eq_true rfl) ?_
  show WP _ _ _ _ _ 0 [(0, _)] [] 0 0 _ _ _
  refine x_aload_n dX5_advanceNumber_0 rfl ?_
  refine x_iconst dX5_advanceNumber_1 ?_
  refine x_putI dX5_advanceNumber_2 gf_RX5_41 (k_ob_287 cs) rfl ?_
  refine x_aload_n dX5_advanceNumber_5 rfl ?_
  refine x_iconst dX5_advanceNumber_6 ?_
  refine x_putI dX5_advanceNumber_7 gf_RX5_105 (k_ob_287 cs) rfl ?_
  refine x_sub [0] rfl ?_
  exact lp_advN cs hn hT hp _ 0 _ (by omega) rfl (by rw [uI_o (by omega), uI_o (by omega)]; exact h13) (by rw [uI_o (by omega), uI_o (by omega)]) (by rw [uI_o (by omega), uI_s]) (by rw [uI_s]; rfl) ((Fcu.rf.u (by omega)).u (by omega)) (fun i hi => by omega) rfl
theorem dX5_advanceSign_0 : decode prog_7_method_12_code 0 = .ok (.aload_n 0, 1) := by decide +kernel
theorem dX5_advanceSign_1 : decode prog_7_method_12_code 1 = .ok (.getfield 71, 3) := by decide +kernel
theorem dX5_advanceSign_4 : decode prog_7_method_12_code 4 = .ok (.iconst 1, 1) := by decide +kernel
theorem dX5_advanceSign_5 : decode prog_7_method_12_code 5 = .ok (.iadd, 1) := by decide +kernel
theorem dX5_advanceSign_6 : decode prog_7_method_12_code 6 = .ok (.aload_n 0, 1) := by decide +kernel
theorem dX5_advanceSign_7 : decode prog_7_method_12_code 7 = .ok (.getfield 28, 3) := by decide +kernel
theorem dX5_advanceSign_10 : decode prog_7_method_12_code 10 = .ok (.if_icmp .ge 23, 3) := by decide +kernel
theorem dX5_advanceSign_13 : decode prog_7_method_12_code 13 = .ok (.aload_n 0, 1) := by decide +kernel
theorem dX5_advanceSign_14 : decode prog_7_method_12_code 14 = .ok (.getfield 9, 3) := by decide +kernel
theorem dX5_advanceSign_17 : decode prog_7_method_12_code 17 = .ok (.aload_n 0, 1) := by decide +kernel
theorem dX5_advanceSign_18 : decode prog_7_method_12_code 18 = .ok (.getfield 71, 3) := by decide +kernel
theorem dX5_advanceSign_21 : decode prog_7_method_12_code 21 = .ok (.iconst 1, 1) := by decide +kernel
theorem dX5_advanceSign_22 : decode prog_7_method_12_code 22 = .ok (.iadd, 1) := by decide +kernel
theorem dX5_advanceSign_23 : decode prog_7_method_12_code 23 = .ok (.iaload, 1) := by decide +kernel
theorem dX5_advanceSign_24 : decode prog_7_method_12_code 24 = .ok (.bipush 61, 2) := by decide +kernel
theorem dX5_advanceSign_26 : decode prog_7_method_12_code 26 = .ok (.if_icmp .ne 7, 3) := by decide +kernel
theorem dX5_advanceSign_29 : decode prog_7_method_12_code 29 = .ok (.iconst 1, 1) := by decide +kernel
theorem dX5_advanceSign_30 : decode prog_7_method_12_code 30 = .ok (.goto 4, 3) := by decide +kernel
theorem dX5_advanceSign_33 : decode prog_7_method_12_code 33 = .ok (.iconst 0, 1) := by decide +kernel
theorem dX5_advanceSign_34 : decode prog_7_method_12_code 34 = .ok (.istore_n 2, 1) := by decide +kernel
theorem dX5_advanceSign_35 : decode prog_7_method_12_code 35 = .ok (.iload_n 2, 1) := by decide +kernel
theorem dX5_advanceSign_36 : decode prog_7_method_12_code 36 = .ok (.ifCond .eq 41, 3) := by decide +kernel
theorem dX5_advanceSign_39 : decode prog_7_method_12_code 39 = .ok (.iload_n 1, 1) := by decide +kernel
theorem dX5_advanceSign_40 : decode prog_7_method_12_code 40 = .ok (.bipush 60, 2) := by decide +kernel
theorem dX5_advanceSign_42 : decode prog_7_method_12_code 42 = .ok (.if_icmp .eq 9, 3) := by decide +kernel
theorem dX5_advanceSign_45 : decode prog_7_method_12_code 45 = .ok (.iload_n 1, 1) := by decide +kernel
theorem dX5_advanceSign_46 : decode prog_7_method_12_code 46 = .ok (.bipush 62, 2) := by decide +kernel
theorem dX5_advanceSign_48 : decode prog_7_method_12_code 48 = .ok (.if_icmp .ne 29, 3) := by decide +kernel
theorem dX5_advanceSign_51 : decode prog_7_method_12_code 51 = .ok (.aload_n 0, 1) := by decide +kernel
theorem dX5_advanceSign_52 : decode prog_7_method_12_code 52 = .ok (.iload_n 1, 1) := by decide +kernel
theorem dX5_advanceSign_53 : decode prog_7_method_12_code 53 = .ok (.bipush 60, 2) := by decide +kernel
theorem dX5_advanceSign_55 : decode prog_7_method_12_code 55 = .ok (.if_icmp .ne 7, 3) := by decide +kernel
theorem dX5_advanceSign_58 : decode prog_7_method_12_code 58 = .ok (.iconst 3, 1) := by decide +kernel
theorem dX5_advanceSign_59 : decode prog_7_method_12_code 59 = .ok (.goto 4, 3) := by decide +kernel
theorem dX5_advanceSign_62 : decode prog_7_method_12_code 62 = .ok (.iconst 4, 1) := by decide +kernel
theorem dX5_advanceSign_63 : decode prog_7_method_12_code 63 = .ok (.putfield 41, 3) := by decide +kernel
theorem dX5_advanceSign_66 : decode prog_7_method_12_code 66 = .ok (.aload_n 0, 1) := by decide +kernel
theorem dX5_advanceSign_67 : decode prog_7_method_12_code 67 = .ok (.dup, 1) := by decide +kernel
theorem dX5_advanceSign_68 : decode prog_7_method_12_code 68 = .ok (.getfield 71, 3) := by decide +kernel
theorem dX5_advanceSign_71 : decode prog_7_method_12_code 71 = .ok (.iconst 2, 1) := by decide +kernel
theorem dX5_advanceSign_72 : decode prog_7_method_12_code 72 = .ok (.iadd, 1) := by decide +kernel
theorem dX5_advanceSign_73 : decode prog_7_method_12_code 73 = .ok (.putfield 71, 3) := by decide +kernel
theorem dX5_advanceSign_76 : decode prog_7_method_12_code 76 = .ok (.return_, 1) := by decide +kernel
theorem dX5_advanceSign_77 : decode prog_7_method_12_code 77 = .ok (.aload_n 0, 1) := by decide +kernel
theorem dX5_advanceSign_78 : decode prog_7_method_12_code 78 = .ok (.ldc 114, 2) := by decide +kernel
theorem dX5_advanceSign_80 : decode prog_7_method_12_code 80 = .ok (.iload_n 1, 1) := by decide +kernel
theorem dX5_advanceSign_81 : decode prog_7_method_12_code 81 = .ok (.i2c, 1) := by decide +kernel
theorem dX5_advanceSign_82 : decode prog_7_method_12_code 82 = .ok (.invokevirtual 116, 3) := by decide +kernel
theorem dX5_advanceSign_85 : decode prog_7_method_12_code 85 = .ok (.ifCond .lt 7, 3) := by decide +kernel
theorem dX5_advanceSign_88 : decode prog_7_method_12_code 88 = .ok (.iload_n 1, 1) := by decide +kernel
theorem dX5_advanceSign_89 : decode prog_7_method_12_code 89 = .ok (.goto 4, 3) := by decide +kernel
theorem dX5_advanceSign_92 : decode prog_7_method_12_code 92 = .ok (.iconst 1, 1) := by decide +kernel
theorem dX5_advanceSign_93 : decode prog_7_method_12_code 93 = .ok (.putfield 41, 3) := by decide +kernel
theorem dX5_advanceSign_96 : decode prog_7_method_12_code 96 = .ok (.aload_n 0, 1) := by decide +kernel
theorem dX5_advanceSign_97 : decode prog_7_method_12_code 97 = .ok (.dup, 1) := by decide +kernel
theorem dX5_advanceSign_98 : decode prog_7_method_12_code 98 = .ok (.getfield 71, 3) := by decide +kernel
theorem dX5_advanceSign_101 : decode prog_7_method_12_code 101 = .ok (.iconst 1, 1) := by decide +kernel
theorem dX5_advanceSign_102 : decode prog_7_method_12_code 102 = .ok (.iadd, 1) := by decide +kernel
theorem dX5_advanceSign_103 : decode prog_7_method_12_code 103 = .ok (.putfield 71, 3) := by decide +kernel
theorem dX5_advanceSign_106 : decode prog_7_method_12_code 106 = .ok (.return_, 1) := by decide +kernel
theorem sp_X5_advanceSign {t : Nat → Int} {l s : Nat} (cs : CS S R) (hn : 4 ≤ n) (hT : TpC I t l) (hs : s < l) (h13 : I 287 13 = (s : Int)) (hp : ∀ J, J 287 13 = ((if eqP t l s then s + 2 else s + 1 : Nat) : Int) → J 287 14 = I 287 14 → J 287 15 = skK t l s → Fcu I J → Post none S J R) : Call n 0 0 mX5_advanceSign [.ref (S.2.1 287), .int (iI (t s))] S I R Post := by
  obtain ⟨j288, j3, l3, jb⟩ := id hT
  have hb3 := jb s (by omega)
  have hb4 : s + 1 < l → _ := fun h => jb (s + 1) (by omega)
  have j13 := h13
  refine Call.of (by decide +kernel) (Nat.le_of_ble_eq_true rfl) ?_
  show WP _ _ _ _ _ 0 [(0, _), (1, _)] [] 0 0 _ _ _
  refine x_aload_n dX5_advanceSign_0 rfl ?_
  refine x_getIv (z := (s : Int)) dX5_advanceSign_1 gf_RX5_71 (k_ob_287 cs) (fun _ _ => rfl) (by first | exact j13 | exact j3 | exact j16 | (rw [uI_o (by omega)]; exact j13) | (rw [uI_o (by omega)]; exact j3)) ?_
  refine x_iconst dX5_advanceSign_4 ?_
  refine x_iadd dX5_advanceSign_5 ?_
  refine x_aload_n dX5_advanceSign_6 rfl ?_
  refine x_getIv (z := (l : Int)) dX5_advanceSign_7 gf_RX5_28 (k_ob_287 cs) (fun _ _ => rfl) (by first | exact j13 | exact j3 | exact j16 | (rw [uI_o (by omega)]; exact j13) | (rw [uI_o (by omega)]; exact j3)) ?_
  refine x_icmp_ge 33 dX5_advanceSign_10 (by decide) ⟨(by omega), (by omega)⟩ (fun w10 => ?_) (fun w10 => ?_)
  · refine x_iconst dX5_advanceSign_33 ?_
    refine x_istore_n (lv2 := [(2, _), (0, _), (1, _)]) dX5_advanceSign_34 (by decide) rfl ?_
    refine x_iload_n dX5_advanceSign_35 rfl ?_
    refine x_if_eq 77 dX5_advanceSign_36 (by decide) (by omega) (fun w36 => ?_) (fun w36 => ?_)
    · refine x_aload_n dX5_advanceSign_77 rfl ?_
      refine x_ldcS1 rfl dX5_advanceSign_78 ?_
      refine x_iload_n dX5_advanceSign_80 rfl ?_
      refine x_i2c (by omega) dX5_advanceSign_81 ?_
      refine x_callT (t := 1) (mc1 := 0) (ms1 := 0) (n1 := n - 1) [.int (iI (t s))] [_] dX5_advanceSign_82 cv_RX5_116 (by omega) rfl rfl (Nat.le_of_ble_eq_true rfl) (by omega) (Nat.le_refl _) (Nat.le_refl _) ?_
      refine sp_ix (t := 1) (by omega) (by omega) (by omega) (fun r82 hr82 => ?_)
      have hsg := ixK_sg hr82
      have hrr : -1 ≤ r82 ∧ r82 < 11 := by
        rcases hr82 with ⟨v1, v2, v3⟩ | ⟨v1, v2⟩
        · have : lnK 1 = 11 := rfl
          omega
        · omega
      refine x_if_lt 92 dX5_advanceSign_85 (by decide) (by omega) (fun w85 => ?_) (fun w85 => ?_)
      · refine x_iconst dX5_advanceSign_92 ?_
        refine x_putI dX5_advanceSign_93 gf_RX5_41 (k_ob_287 cs) rfl ?_
        refine x_aload_n dX5_advanceSign_96 rfl ?_
        refine x_dup dX5_advanceSign_97 rfl ?_
        refine x_getIv (z := (s : Int)) dX5_advanceSign_98 gf_RX5_71 (k_ob_287 cs) (fun _ _ => rfl) (by first | exact j13 | exact j3 | exact j16 | (rw [uI_o (by omega)]; exact j13) | (rw [uI_o (by omega)]; exact j3)) ?_
        refine x_iconst dX5_advanceSign_101 ?_
        refine x_iadd dX5_advanceSign_102 ?_
        refine x_putI dX5_advanceSign_103 gf_RX5_71 (k_ob_287 cs) rfl ?_
        first
        | (exfalso; omega)
        | (have hq : ¬ eqP t l s := fun h9 => by obtain ⟨v1, v2, v3⟩ := h9; omega
           refine x_return dX5_advanceSign_106 rfl (by omega) (by omega) (hp _ (by rw [uI_s, if_neg hq]; omega) (by rw [uI_o (by omega), uI_o (by omega)]) ?_ ((Fcu.rf.u (by omega)).u (by omega)))
           rw [uI_o (by omega), uI_s]
           unfold skK
           rw [if_neg hq, if_pos (hsg.mp (by omega))])
        | (have hq : ¬ eqP t l s := fun h9 => by obtain ⟨v1, v2, v3⟩ := h9; omega
           refine x_return dX5_advanceSign_106 rfl (by omega) (by omega) (hp _ (by rw [uI_s, if_neg hq]; omega) (by rw [uI_o (by omega), uI_o (by omega)]) ?_ ((Fcu.rf.u (by omega)).u (by omega)))
           rw [uI_o (by omega), uI_s]
           unfold skK
           rw [if_neg hq, if_neg (fun h8 => by have := hsg.mpr h8; omega)])
      · refine x_iload_n dX5_advanceSign_88 rfl ?_
        refine x_goto 93 dX5_advanceSign_89 (by decide) ?_
        refine x_putI dX5_advanceSign_93 gf_RX5_41 (k_ob_287 cs) rfl ?_
        refine x_aload_n dX5_advanceSign_96 rfl ?_
        refine x_dup dX5_advanceSign_97 rfl ?_
        refine x_getIv (z := (s : Int)) dX5_advanceSign_98 gf_RX5_71 (k_ob_287 cs) (fun _ _ => rfl) (by first | exact j13 | exact j3 | exact j16 | (rw [uI_o (by omega)]; exact j13) | (rw [uI_o (by omega)]; exact j3)) ?_
        refine x_iconst dX5_advanceSign_101 ?_
        refine x_iadd dX5_advanceSign_102 ?_
        refine x_putI dX5_advanceSign_103 gf_RX5_71 (k_ob_287 cs) rfl ?_
        first
        | (exfalso; omega)
        | (have hq : ¬ eqP t l s := fun h9 => by obtain ⟨v1, v2, v3⟩ := h9; omega
           refine x_return dX5_advanceSign_106 rfl (by omega) (by omega) (hp _ (by rw [uI_s, if_neg hq]; omega) (by rw [uI_o (by omega), uI_o (by omega)]) ?_ ((Fcu.rf.u (by omega)).u (by omega)))
           rw [uI_o (by omega), uI_s]
           unfold skK
           rw [if_neg hq, if_pos (hsg.mp (by omega))])
        | (have hq : ¬ eqP t l s := fun h9 => by obtain ⟨v1, v2, v3⟩ := h9; omega
           refine x_return dX5_advanceSign_106 rfl (by omega) (by omega) (hp _ (by rw [uI_s, if_neg hq]; omega) (by rw [uI_o (by omega), uI_o (by omega)]) ?_ ((Fcu.rf.u (by omega)).u (by omega)))
           rw [uI_o (by omega), uI_s]
           unfold skK
           rw [if_neg hq, if_neg (fun h8 => by have := hsg.mpr h8; omega)])
    · refine x_iload_n dX5_advanceSign_39 rfl ?_
      refine x_bipush dX5_advanceSign_40 (by decide) ?_
      refine x_icmp_eq 51 dX5_advanceSign_42 (by decide) ⟨(by omega), (by omega)⟩ (fun w42 => ?_) (fun w42 => ?_)
      · refine x_aload_n dX5_advanceSign_51 rfl ?_
        refine x_iload_n dX5_advanceSign_52 rfl ?_
        refine x_bipush dX5_advanceSign_53 (by decide) ?_
        refine x_icmp_ne 62 dX5_advanceSign_55 (by decide) ⟨(by omega), (by omega)⟩ (fun w55 => ?_) (fun w55 => ?_)
        · refine x_iconst dX5_advanceSign_62 ?_
          refine x_putI dX5_advanceSign_63 gf_RX5_41 (k_ob_287 cs) rfl ?_
          refine x_aload_n dX5_advanceSign_66 rfl ?_
          refine x_dup dX5_advanceSign_67 rfl ?_
          refine x_getIv (z := (s : Int)) dX5_advanceSign_68 gf_RX5_71 (k_ob_287 cs) (fun _ _ => rfl) (by first | exact j13 | exact j3 | exact j16 | (rw [uI_o (by omega)]; exact j13) | (rw [uI_o (by omega)]; exact j3)) ?_
          refine x_iconst dX5_advanceSign_71 ?_
          refine x_iadd dX5_advanceSign_72 ?_
          refine x_putI dX5_advanceSign_73 gf_RX5_71 (k_ob_287 cs) rfl ?_
          first
          | (exfalso; omega)
          | (have hq : eqP t l s := ⟨by omega, by omega, by omega⟩
             refine x_return dX5_advanceSign_76 rfl (by omega) (by omega) (hp _ (by rw [uI_s, if_pos hq]; omega) (by rw [uI_o (by omega), uI_o (by omega)]) ?_ ((Fcu.rf.u (by omega)).u (by omega)))
             rw [uI_o (by omega), uI_s]
             unfold skK
             rw [if_pos hq, if_pos (by omega)])
          | (have hq : eqP t l s := ⟨by omega, by omega, by omega⟩
             refine x_return dX5_advanceSign_76 rfl (by omega) (by omega) (hp _ (by rw [uI_s, if_pos hq]; omega) (by rw [uI_o (by omega), uI_o (by omega)]) ?_ ((Fcu.rf.u (by omega)).u (by omega)))
             rw [uI_o (by omega), uI_s]
             unfold skK
             rw [if_pos hq, if_neg (by omega)])
        · refine x_iconst dX5_advanceSign_58 ?_
          refine x_goto 63 dX5_advanceSign_59 (by decide) ?_
          refine x_putI dX5_advanceSign_63 gf_RX5_41 (k_ob_287 cs) rfl ?_
          refine x_aload_n dX5_advanceSign_66 rfl ?_
          refine x_dup dX5_advanceSign_67 rfl ?_
          refine x_getIv (z := (s : Int)) dX5_advanceSign_68 gf_RX5_71 (k_ob_287 cs) (fun _ _ => rfl) (by first | exact j13 | exact j3 | exact j16 | (rw [uI_o (by omega)]; exact j13) | (rw [uI_o (by omega)]; exact j3)) ?_
          refine x_iconst dX5_advanceSign_71 ?_
          refine x_iadd dX5_advanceSign_72 ?_
          refine x_putI dX5_advanceSign_73 gf_RX5_71 (k_ob_287 cs) rfl ?_
          first
          | (exfalso; omega)
          | (have hq : eqP t l s := ⟨by omega, by omega, by omega⟩
             refine x_return dX5_advanceSign_76 rfl (by omega) (by omega) (hp _ (by rw [uI_s, if_pos hq]; omega) (by rw [uI_o (by omega), uI_o (by omega)]) ?_ ((Fcu.rf.u (by omega)).u (by omega)))
             rw [uI_o (by omega), uI_s]
             unfold skK
             rw [if_pos hq, if_pos (by omega)])
          | (have hq : eqP t l s := ⟨by omega, by omega, by omega⟩
             refine x_return dX5_advanceSign_76 rfl (by omega) (by omega) (hp _ (by rw [uI_s, if_pos hq]; omega) (by rw [uI_o (by omega), uI_o (by omega)]) ?_ ((Fcu.rf.u (by omega)).u (by omega)))
             rw [uI_o (by omega), uI_s]
             unfold skK
             rw [if_pos hq, if_neg (by omega)])
      · refine x_iload_n dX5_advanceSign_45 rfl ?_
        refine x_bipush dX5_advanceSign_46 (by decide) ?_
        refine x_icmp_ne 77 dX5_advanceSign_48 (by decide) ⟨(by omega), (by omega)⟩ (fun w48 => ?_) (fun w48 => ?_)
        · refine x_aload_n dX5_advanceSign_77 rfl ?_
          refine x_ldcS1 rfl dX5_advanceSign_78 ?_
          refine x_iload_n dX5_advanceSign_80 rfl ?_
          refine x_i2c (by omega) dX5_advanceSign_81 ?_
          refine x_callT (t := 1) (mc1 := 0) (ms1 := 0) (n1 := n - 1) [.int (iI (t s))] [_] dX5_advanceSign_82 cv_RX5_116 (by omega) rfl rfl (Nat.le_of_ble_eq_true rfl) (by omega) (Nat.le_refl _) (Nat.le_refl _) ?_
          refine sp_ix (t := 1) (by omega) (by omega) (by omega) (fun r82 hr82 => ?_)
          have hsg := ixK_sg hr82
          have hrr : -1 ≤ r82 ∧ r82 < 11 := by
            rcases hr82 with ⟨v1, v2, v3⟩ | ⟨v1, v2⟩
            · have : lnK 1 = 11 := rfl
              omega
            · omega
          refine x_if_lt 92 dX5_advanceSign_85 (by decide) (by omega) (fun w85 => ?_) (fun w85 => ?_)
          · refine x_iconst dX5_advanceSign_92 ?_
            refine x_putI dX5_advanceSign_93 gf_RX5_41 (k_ob_287 cs) rfl ?_
            refine x_aload_n dX5_advanceSign_96 rfl ?_
            refine x_dup dX5_advanceSign_97 rfl ?_
            refine x_getIv (z := (s : Int)) dX5_advanceSign_98 gf_RX5_71 (k_ob_287 cs) (fun _ _ => rfl) (by first | exact j13 | exact j3 | exact j16 | (rw [uI_o (by omega)]; exact j13) | (rw [uI_o (by omega)]; exact j3)) ?_
            refine x_iconst dX5_advanceSign_101 ?_
            refine x_iadd dX5_advanceSign_102 ?_
            refine x_putI dX5_advanceSign_103 gf_RX5_71 (k_ob_287 cs) rfl ?_
            first
            | (exfalso; omega)
            | (have hq : ¬ eqP t l s := fun h9 => by obtain ⟨v1, v2, v3⟩ := h9; omega
               refine x_return dX5_advanceSign_106 rfl (by omega) (by omega) (hp _ (by rw [uI_s, if_neg hq]; omega) (by rw [uI_o (by omega), uI_o (by omega)]) ?_ ((Fcu.rf.u (by omega)).u (by omega)))
               rw [uI_o (by omega), uI_s]
               unfold skK
               rw [if_neg hq, if_pos (hsg.mp (by omega))])
            | (have hq : ¬ eqP t l s := fun h9 => by obtain ⟨v1, v2, v3⟩ := h9; omega
               refine x_return dX5_advanceSign_106 rfl (by omega) (by omega) (hp _ (by rw [uI_s, if_neg hq]; omega) (by rw [uI_o (by omega), uI_o (by omega)]) ?_ ((Fcu.rf.u (by omega)).u (by omega)))
               rw [uI_o (by omega), uI_s]
               unfold skK
               rw [if_neg hq, if_neg (fun h8 => by have := hsg.mpr h8; omega)])
          · refine x_iload_n dX5_advanceSign_88 rfl ?_
            refine x_goto 93 dX5_advanceSign_89 (by decide) ?_
            refine x_putI dX5_advanceSign_93 gf_RX5_41 (k_ob_287 cs) rfl ?_
            refine x_aload_n dX5_advanceSign_96 rfl ?_
            refine x_dup dX5_advanceSign_97 rfl ?_
            refine x_getIv (z := (s : Int)) dX5_advanceSign_98 gf_RX5_71 (k_ob_287 cs) (fun _ _ => rfl) (by first | exact j13 | exact j3 | exact j16 | (rw [uI_o (by omega)]; exact j13) | (rw [uI_o (by omega)]; exact j3)) ?_
            refine x_iconst dX5_advanceSign_101 ?_
            refine x_iadd dX5_advanceSign_102 ?_
            refine x_putI dX5_advanceSign_103 gf_RX5_71 (k_ob_287 cs) rfl ?_
            first
            | (exfalso; omega)
            | (have hq : ¬ eqP t l s := fun h9 => by obtain ⟨v1, v2, v3⟩ := h9; omega
               refine x_return dX5_advanceSign_106 rfl (by omega) (by omega) (hp _ (by rw [uI_s, if_neg hq]; omega) (by rw [uI_o (by omega), uI_o (by omega)]) ?_ ((Fcu.rf.u (by omega)).u (by omega)))
               rw [uI_o (by omega), uI_s]
               unfold skK
               rw [if_neg hq, if_pos (hsg.mp (by omega))])
            | (have hq : ¬ eqP t l s := fun h9 => by obtain ⟨v1, v2, v3⟩ := h9; omega
               refine x_return dX5_advanceSign_106 rfl (by omega) (by omega) (hp _ (by rw [uI_s, if_neg hq]; omega) (by rw [uI_o (by omega), uI_o (by omega)]) ?_ ((Fcu.rf.u (by omega)).u (by omega)))
               rw [uI_o (by omega), uI_s]
               unfold skK
               rw [if_neg hq, if_neg (fun h8 => by have := hsg.mpr h8; omega)])
        · refine x_aload_n dX5_advanceSign_51 rfl ?_
          refine x_iload_n dX5_advanceSign_52 rfl ?_
          refine x_bipush dX5_advanceSign_53 (by decide) ?_
          refine x_icmp_ne 62 dX5_advanceSign_55 (by decide) ⟨(by omega), (by omega)⟩ (fun w55 => ?_) (fun w55 => ?_)
          · refine x_iconst dX5_advanceSign_62 ?_
            refine x_putI dX5_advanceSign_63 gf_RX5_41 (k_ob_287 cs) rfl ?_
            refine x_aload_n dX5_advanceSign_66 rfl ?_
            refine x_dup dX5_advanceSign_67 rfl ?_
            refine x_getIv (z := (s : Int)) dX5_advanceSign_68 gf_RX5_71 (k_ob_287 cs) (fun _ _ => rfl) (by first | exact j13 | exact j3 | exact j16 | (rw [uI_o (by omega)]; exact j13) | (rw [uI_o (by omega)]; exact j3)) ?_
            refine x_iconst dX5_advanceSign_71 ?_
            refine x_iadd dX5_advanceSign_72 ?_
            refine x_putI dX5_advanceSign_73 gf_RX5_71 (k_ob_287 cs) rfl ?_
            first
            | (exfalso; omega)
            | (have hq : eqP t l s := ⟨by omega, by omega, by omega⟩
               refine x_return dX5_advanceSign_76 rfl (by omega) (by omega) (hp _ (by rw [uI_s, if_pos hq]; omega) (by rw [uI_o (by omega), uI_o (by omega)]) ?_ ((Fcu.rf.u (by omega)).u (by omega)))
               rw [uI_o (by omega), uI_s]
               unfold skK
               rw [if_pos hq, if_pos (by omega)])
            | (have hq : eqP t l s := ⟨by omega, by omega, by omega⟩
               refine x_return dX5_advanceSign_76 rfl (by omega) (by omega) (hp _ (by rw [uI_s, if_pos hq]; omega) (by rw [uI_o (by omega), uI_o (by omega)]) ?_ ((Fcu.rf.u (by omega)).u (by omega)))
               rw [uI_o (by omega), uI_s]
               unfold skK
               rw [if_pos hq, if_neg (by omega)])
          · refine x_iconst dX5_advanceSign_58 ?_
            refine x_goto 63 dX5_advanceSign_59 (by decide) ?_
            refine x_putI dX5_advanceSign_63 gf_RX5_41 (k_ob_287 cs) rfl ?_
            refine x_aload_n dX5_advanceSign_66 rfl ?_
            refine x_dup dX5_advanceSign_67 rfl ?_
            refine x_getIv (z := (s : Int)) dX5_advanceSign_68 gf_RX5_71 (k_ob_287 cs) (fun _ _ => rfl) (by first | exact j13 | exact j3 | exact j16 | (rw [uI_o (by omega)]; exact j13) | (rw [uI_o (by omega)]; exact j3)) ?_
            refine x_iconst dX5_advanceSign_71 ?_
            refine x_iadd dX5_advanceSign_72 ?_
            refine x_putI dX5_advanceSign_73 gf_RX5_71 (k_ob_287 cs) rfl ?_
            first
            | (exfalso; omega)
            | (have hq : eqP t l s := ⟨by omega, by omega, by omega⟩
               refine x_return dX5_advanceSign_76 rfl (by omega) (by omega) (hp _ (by rw [uI_s, if_pos hq]; omega) (by rw [uI_o (by omega), uI_o (by omega)]) ?_ ((Fcu.rf.u (by omega)).u (by omega)))
               rw [uI_o (by omega), uI_s]
               unfold skK
               rw [if_pos hq, if_pos (by omega)])
            | (have hq : eqP t l s := ⟨by omega, by omega, by omega⟩
               refine x_return dX5_advanceSign_76 rfl (by omega) (by omega) (hp _ (by rw [uI_s, if_pos hq]; omega) (by rw [uI_o (by omega), uI_o (by omega)]) ?_ ((Fcu.rf.u (by omega)).u (by omega)))
               rw [uI_o (by omega), uI_s]
               unfold skK
               rw [if_pos hq, if_neg (by omega)])
  · refine x_aload_n dX5_advanceSign_13 rfl ?_
    refine x_getR (b := 288) dX5_advanceSign_14 gf_RX5_9 (k_ob_287 cs) (fun _ _ => rfl) (k_r_287_0 cs) ?_
    refine x_aload_n dX5_advanceSign_17 rfl ?_
    refine x_getIv (z := (s : Int)) dX5_advanceSign_18 gf_RX5_71 (k_ob_287 cs) (fun _ _ => rfl) (by first | exact j13 | exact j3 | exact j16 | (rw [uI_o (by omega)]; exact j13) | (rw [uI_o (by omega)]; exact j3)) ?_
    refine x_iconst dX5_advanceSign_21 ?_
    refine x_iadd dX5_advanceSign_22 ?_
    refine x_iaload dX5_advanceSign_23 (k_ar_288 cs) (by omega) (by omega) ?_
    rw [j288, show ((s : Int) + 1).toNat = s + 1 by omega]
    have hb5 := hb4 (by omega)
    refine x_bipush dX5_advanceSign_24 (by decide) ?_
    refine x_icmp_ne 33 dX5_advanceSign_26 (by decide) ⟨(by omega), (by omega)⟩ (fun w26 => ?_) (fun w26 => ?_)
    · refine x_iconst dX5_advanceSign_33 ?_
      refine x_istore_n (lv2 := [(2, _), (0, _), (1, _)]) dX5_advanceSign_34 (by decide) rfl ?_
      refine x_iload_n dX5_advanceSign_35 rfl ?_
      refine x_if_eq 77 dX5_advanceSign_36 (by decide) (by omega) (fun w36 => ?_) (fun w36 => ?_)
      · refine x_aload_n dX5_advanceSign_77 rfl ?_
        refine x_ldcS1 rfl dX5_advanceSign_78 ?_
        refine x_iload_n dX5_advanceSign_80 rfl ?_
        refine x_i2c (by omega) dX5_advanceSign_81 ?_
        refine x_callT (t := 1) (mc1 := 0) (ms1 := 0) (n1 := n - 1) [.int (iI (t s))] [_] dX5_advanceSign_82 cv_RX5_116 (by omega) rfl rfl (Nat.le_of_ble_eq_true rfl) (by omega) (Nat.le_refl _) (Nat.le_refl _) ?_
        refine sp_ix (t := 1) (by omega) (by omega) (by omega) (fun r82 hr82 => ?_)
        have hsg := ixK_sg hr82
        have hrr : -1 ≤ r82 ∧ r82 < 11 := by
          rcases hr82 with ⟨v1, v2, v3⟩ | ⟨v1, v2⟩
          · have : lnK 1 = 11 := rfl
            omega
          · omega
        refine x_if_lt 92 dX5_advanceSign_85 (by decide) (by omega) (fun w85 => ?_) (fun w85 => ?_)
        · refine x_iconst dX5_advanceSign_92 ?_
          refine x_putI dX5_advanceSign_93 gf_RX5_41 (k_ob_287 cs) rfl ?_
          refine x_aload_n dX5_advanceSign_96 rfl ?_
          refine x_dup dX5_advanceSign_97 rfl ?_
          refine x_getIv (z := (s : Int)) dX5_advanceSign_98 gf_RX5_71 (k_ob_287 cs) (fun _ _ => rfl) (by first | exact j13 | exact j3 | exact j16 | (rw [uI_o (by omega)]; exact j13) | (rw [uI_o (by omega)]; exact j3)) ?_
          refine x_iconst dX5_advanceSign_101 ?_
          refine x_iadd dX5_advanceSign_102 ?_
          refine x_putI dX5_advanceSign_103 gf_RX5_71 (k_ob_287 cs) rfl ?_
          first
          | (exfalso; omega)
          | (have hq : ¬ eqP t l s := fun h9 => by obtain ⟨v1, v2, v3⟩ := h9; omega
             refine x_return dX5_advanceSign_106 rfl (by omega) (by omega) (hp _ (by rw [uI_s, if_neg hq]; omega) (by rw [uI_o (by omega), uI_o (by omega)]) ?_ ((Fcu.rf.u (by omega)).u (by omega)))
             rw [uI_o (by omega), uI_s]
             unfold skK
             rw [if_neg hq, if_pos (hsg.mp (by omega))])
          | (have hq : ¬ eqP t l s := fun h9 => by obtain ⟨v1, v2, v3⟩ := h9; omega
             refine x_return dX5_advanceSign_106 rfl (by omega) (by omega) (hp _ (by rw [uI_s, if_neg hq]; omega) (by rw [uI_o (by omega), uI_o (by omega)]) ?_ ((Fcu.rf.u (by omega)).u (by omega)))
             rw [uI_o (by omega), uI_s]
             unfold skK
             rw [if_neg hq, if_neg (fun h8 => by have := hsg.mpr h8; omega)])
        · refine x_iload_n dX5_advanceSign_88 rfl ?_
          refine x_goto 93 dX5_advanceSign_89 (by decide) ?_
          refine x_putI dX5_advanceSign_93 gf_RX5_41 (k_ob_287 cs) rfl ?_
          refine x_aload_n dX5_advanceSign_96 rfl ?_
          refine x_dup dX5_advanceSign_97 rfl ?_
          refine x_getIv (z := (s : Int)) dX5_advanceSign_98 gf_RX5_71 (k_ob_287 cs) (fun _ _ => rfl) (by first | exact j13 | exact j3 | exact j16 | (rw [uI_o (by omega)]; exact j13) | (rw [uI_o (by omega)]; exact j3)) ?_
          refine x_iconst dX5_advanceSign_101 ?_
          refine x_iadd dX5_advanceSign_102 ?_
          refine x_putI dX5_advanceSign_103 gf_RX5_71 (k_ob_287 cs) rfl ?_
          first
          | (exfalso; omega)
          | (have hq : ¬ eqP t l s := fun h9 => by obtain ⟨v1, v2, v3⟩ := h9; omega
             refine x_return dX5_advanceSign_106 rfl (by omega) (by omega) (hp _ (by rw [uI_s, if_neg hq]; omega) (by rw [uI_o (by omega), uI_o (by omega)]) ?_ ((Fcu.rf.u (by omega)).u (by omega)))
             rw [uI_o (by omega), uI_s]
             unfold skK
             rw [if_neg hq, if_pos (hsg.mp (by omega))])
          | (have hq : ¬ eqP t l s := fun h9 => by obtain ⟨v1, v2, v3⟩ := h9; omega
             refine x_return dX5_advanceSign_106 rfl (by omega) (by omega) (hp _ (by rw [uI_s, if_neg hq]; omega) (by rw [uI_o (by omega), uI_o (by omega)]) ?_ ((Fcu.rf.u (by omega)).u (by omega)))
             rw [uI_o (by omega), uI_s]
             unfold skK
             rw [if_neg hq, if_neg (fun h8 => by have := hsg.mpr h8; omega)])
      · refine x_iload_n dX5_advanceSign_39 rfl ?_
        refine x_bipush dX5_advanceSign_40 (by decide) ?_
        refine x_icmp_eq 51 dX5_advanceSign_42 (by decide) ⟨(by omega), (by omega)⟩ (fun w42 => ?_) (fun w42 => ?_)
        · refine x_aload_n dX5_advanceSign_51 rfl ?_
          refine x_iload_n dX5_advanceSign_52 rfl ?_
          refine x_bipush dX5_advanceSign_53 (by decide) ?_
          refine x_icmp_ne 62 dX5_advanceSign_55 (by decide) ⟨(by omega), (by omega)⟩ (fun w55 => ?_) (fun w55 => ?_)
          · refine x_iconst dX5_advanceSign_62 ?_
            refine x_putI dX5_advanceSign_63 gf_RX5_41 (k_ob_287 cs) rfl ?_
            refine x_aload_n dX5_advanceSign_66 rfl ?_
            refine x_dup dX5_advanceSign_67 rfl ?_
            refine x_getIv (z := (s : Int)) dX5_advanceSign_68 gf_RX5_71 (k_ob_287 cs) (fun _ _ => rfl) (by first | exact j13 | exact j3 | exact j16 | (rw [uI_o (by omega)]; exact j13) | (rw [uI_o (by omega)]; exact j3)) ?_
            refine x_iconst dX5_advanceSign_71 ?_
            refine x_iadd dX5_advanceSign_72 ?_
            refine x_putI dX5_advanceSign_73 gf_RX5_71 (k_ob_287 cs) rfl ?_
            first
            | (exfalso; omega)
            | (have hq : eqP t l s := ⟨by omega, by omega, by omega⟩
               refine x_return dX5_advanceSign_76 rfl (by omega) (by omega) (hp _ (by rw [uI_s, if_pos hq]; omega) (by rw [uI_o (by omega), uI_o (by omega)]) ?_ ((Fcu.rf.u (by omega)).u (by omega)))
               rw [uI_o (by omega), uI_s]
               unfold skK
               rw [if_pos hq, if_pos (by omega)])
            | (have hq : eqP t l s := ⟨by omega, by omega, by omega⟩
               refine x_return dX5_advanceSign_76 rfl (by omega) (by omega) (hp _ (by rw [uI_s, if_pos hq]; omega) (by rw [uI_o (by omega), uI_o (by omega)]) ?_ ((Fcu.rf.u (by omega)).u (by omega)))
               rw [uI_o (by omega), uI_s]
               unfold skK
               rw [if_pos hq, if_neg (by omega)])
          · refine x_iconst dX5_advanceSign_58 ?_
            refine x_goto 63 dX5_advanceSign_59 (by decide) ?_
            refine x_putI dX5_advanceSign_63 gf_RX5_41 (k_ob_287 cs) rfl ?_
            refine x_aload_n dX5_advanceSign_66 rfl ?_
            refine x_dup dX5_advanceSign_67 rfl ?_
            refine x_getIv (z := (s : Int)) dX5_advanceSign_68 gf_RX5_71 (k_ob_287 cs) (fun _ _ => rfl) (by first | exact j13 | exact j3 | exact j16 | (rw [uI_o (by omega)]; exact j13) | (rw [uI_o (by omega)]; exact j3)) ?_
            refine x_iconst dX5_advanceSign_71 ?_
            refine x_iadd dX5_advanceSign_72 ?_
            refine x_putI dX5_advanceSign_73 gf_RX5_71 (k_ob_287 cs) rfl ?_
            first
            | (exfalso; omega)
            | (have hq : eqP t l s := ⟨by omega, by omega, by omega⟩
               refine x_return dX5_advanceSign_76 rfl (by omega) (by omega) (hp _ (by rw [uI_s, if_pos hq]; omega) (by rw [uI_o (by omega), uI_o (by omega)]) ?_ ((Fcu.rf.u (by omega)).u (by omega)))
               rw [uI_o (by omega), uI_s]
               unfold skK
               rw [if_pos hq, if_pos (by omega)])
            | (have hq : eqP t l s := ⟨by omega, by omega, by omega⟩
               refine x_return dX5_advanceSign_76 rfl (by omega) (by omega) (hp _ (by rw [uI_s, if_pos hq]; omega) (by rw [uI_o (by omega), uI_o (by omega)]) ?_ ((Fcu.rf.u (by omega)).u (by omega)))
               rw [uI_o (by omega), uI_s]
               unfold skK
               rw [if_pos hq, if_neg (by omega)])
        · refine x_iload_n dX5_advanceSign_45 rfl ?_
          refine x_bipush dX5_advanceSign_46 (by decide) ?_
          refine x_icmp_ne 77 dX5_advanceSign_48 (by decide) ⟨(by omega), (by omega)⟩ (fun w48 => ?_) (fun w48 => ?_)
          · refine x_aload_n dX5_advanceSign_77 rfl ?_
            refine x_ldcS1 rfl dX5_advanceSign_78 ?_
            refine x_iload_n dX5_advanceSign_80 rfl ?_
            refine x_i2c (by omega) dX5_advanceSign_81 ?_
            refine x_callT (t := 1) (mc1 := 0) (ms1 := 0) (n1 := n - 1) [.int (iI (t s))] [_] dX5_advanceSign_82 cv_RX5_116 (by omega) rfl rfl (Nat.le_of_ble_eq_true rfl) (by omega) (Nat.le_refl _) (Nat.le_refl _) ?_
            refine sp_ix (t := 1) (by omega) (by omega) (by omega) (fun r82 hr82 => ?_)
            have hsg := ixK_sg hr82
            have hrr : -1 ≤ r82 ∧ r82 < 11 := by
              rcases hr82 with ⟨v1, v2, v3⟩ | ⟨v1, v2⟩
              · have : lnK 1 = 11 := rfl
                omega
              · omega
            refine x_if_lt 92 dX5_advanceSign_85 (by decide) (by omega) (fun w85 => ?_) (fun w85 => ?_)
            · refine x_iconst dX5_advanceSign_92 ?_
              refine x_putI dX5_advanceSign_93 gf_RX5_41 (k_ob_287 cs) rfl ?_
              refine x_aload_n dX5_advanceSign_96 rfl ?_
              refine x_dup dX5_advanceSign_97 rfl ?_
              refine x_getIv (z := (s : Int)) dX5_advanceSign_98 gf_RX5_71 (k_ob_287 cs) (fun _ _ => rfl) (by first | exact j13 | exact j3 | exact j16 | (rw [uI_o (by omega)]; exact j13) | (rw [uI_o (by omega)]; exact j3)) ?_
              refine x_iconst dX5_advanceSign_101 ?_
              refine x_iadd dX5_advanceSign_102 ?_
              refine x_putI dX5_advanceSign_103 gf_RX5_71 (k_ob_287 cs) rfl ?_
              first
              | (exfalso; omega)
              | (have hq : ¬ eqP t l s := fun h9 => by obtain ⟨v1, v2, v3⟩ := h9; omega
                 refine x_return dX5_advanceSign_106 rfl (by omega) (by omega) (hp _ (by rw [uI_s, if_neg hq]; omega) (by rw [uI_o (by omega), uI_o (by omega)]) ?_ ((Fcu.rf.u (by omega)).u (by omega)))
                 rw [uI_o (by omega), uI_s]
                 unfold skK
                 rw [if_neg hq, if_pos (hsg.mp (by omega))])
              | (have hq : ¬ eqP t l s := fun h9 => by obtain ⟨v1, v2, v3⟩ := h9; omega
                 refine x_return dX5_advanceSign_106 rfl (by omega) (by omega) (hp _ (by rw [uI_s, if_neg hq]; omega) (by rw [uI_o (by omega), uI_o (by omega)]) ?_ ((Fcu.rf.u (by omega)).u (by omega)))
                 rw [uI_o (by omega), uI_s]
                 unfold skK
                 rw [if_neg hq, if_neg (fun h8 => by have := hsg.mpr h8; omega)])
            · refine x_iload_n dX5_advanceSign_88 rfl ?_
              refine x_goto 93 dX5_advanceSign_89 (by decide) ?_
              refine x_putI dX5_advanceSign_93 gf_RX5_41 (k_ob_287 cs) rfl ?_
              refine x_aload_n dX5_advanceSign_96 rfl ?_
              refine x_dup dX5_advanceSign_97 rfl ?_
              refine x_getIv (z := (s : Int)) dX5_advanceSign_98 gf_RX5_71 (k_ob_287 cs) (fun _ _ => rfl) (by first | exact j13 | exact j3 | exact j16 | (rw [uI_o (by omega)]; exact j13) | (rw [uI_o (by omega)]; exact j3)) ?_
              refine x_iconst dX5_advanceSign_101 ?_
              refine x_iadd dX5_advanceSign_102 ?_
              refine x_putI dX5_advanceSign_103 gf_RX5_71 (k_ob_287 cs) rfl ?_
              first
              | (exfalso; omega)
              | (have hq : ¬ eqP t l s := fun h9 => by obtain ⟨v1, v2, v3⟩ := h9; omega
                 refine x_return dX5_advanceSign_106 rfl (by omega) (by omega) (hp _ (by rw [uI_s, if_neg hq]; omega) (by rw [uI_o (by omega), uI_o (by omega)]) ?_ ((Fcu.rf.u (by omega)).u (by omega)))
                 rw [uI_o (by omega), uI_s]
                 unfold skK
                 rw [if_neg hq, if_pos (hsg.mp (by omega))])
              | (have hq : ¬ eqP t l s := fun h9 => by obtain ⟨v1, v2, v3⟩ := h9; omega
                 refine x_return dX5_advanceSign_106 rfl (by omega) (by omega) (hp _ (by rw [uI_s, if_neg hq]; omega) (by rw [uI_o (by omega), uI_o (by omega)]) ?_ ((Fcu.rf.u (by omega)).u (by omega)))
                 rw [uI_o (by omega), uI_s]
                 unfold skK
                 rw [if_neg hq, if_neg (fun h8 => by have := hsg.mpr h8; omega)])
          · refine x_aload_n dX5_advanceSign_51 rfl ?_
            refine x_iload_n dX5_advanceSign_52 rfl ?_
            refine x_bipush dX5_advanceSign_53 (by decide) ?_
            refine x_icmp_ne 62 dX5_advanceSign_55 (by decide) ⟨(by omega), (by omega)⟩ (fun w55 => ?_) (fun w55 => ?_)
            · refine x_iconst dX5_advanceSign_62 ?_
              refine x_putI dX5_advanceSign_63 gf_RX5_41 (k_ob_287 cs) rfl ?_
              refine x_aload_n dX5_advanceSign_66 rfl ?_
              refine x_dup dX5_advanceSign_67 rfl ?_
              refine x_getIv (z := (s : Int)) dX5_advanceSign_68 gf_RX5_71 (k_ob_287 cs) (fun _ _ => rfl) (by first | exact j13 | exact j3 | exact j16 | (rw [uI_o (by omega)]; exact j13) | (rw [uI_o (by omega)]; exact j3)) ?_
              refine x_iconst dX5_advanceSign_71 ?_
              refine x_iadd dX5_advanceSign_72 ?_
              refine x_putI dX5_advanceSign_73 gf_RX5_71 (k_ob_287 cs) rfl ?_
              first
              | (exfalso; omega)
              | (have hq : eqP t l s := ⟨by omega, by omega, by omega⟩
                 refine x_return dX5_advanceSign_76 rfl (by omega) (by omega) (hp _ (by rw [uI_s, if_pos hq]; omega) (by rw [uI_o (by omega), uI_o (by omega)]) ?_ ((Fcu.rf.u (by omega)).u (by omega)))
                 rw [uI_o (by omega), uI_s]
                 unfold skK
                 rw [if_pos hq, if_pos (by omega)])
              | (have hq : eqP t l s := ⟨by omega, by omega, by omega⟩
                 refine x_return dX5_advanceSign_76 rfl (by omega) (by omega) (hp _ (by rw [uI_s, if_pos hq]; omega) (by rw [uI_o (by omega), uI_o (by omega)]) ?_ ((Fcu.rf.u (by omega)).u (by omega)))
                 rw [uI_o (by omega), uI_s]
                 unfold skK
                 rw [if_pos hq, if_neg (by omega)])
            · refine x_iconst dX5_advanceSign_58 ?_
              refine x_goto 63 dX5_advanceSign_59 (by decide) ?_
              refine x_putI dX5_advanceSign_63 gf_RX5_41 (k_ob_287 cs) rfl ?_
              refine x_aload_n dX5_advanceSign_66 rfl ?_
              refine x_dup dX5_advanceSign_67 rfl ?_
              refine x_getIv (z := (s : Int)) dX5_advanceSign_68 gf_RX5_71 (k_ob_287 cs) (fun _ _ => rfl) (by first | exact j13 | exact j3 | exact j16 | (rw [uI_o (by omega)]; exact j13) | (rw [uI_o (by omega)]; exact j3)) ?_
              refine x_iconst dX5_advanceSign_71 ?_
              refine x_iadd dX5_advanceSign_72 ?_
              refine x_putI dX5_advanceSign_73 gf_RX5_71 (k_ob_287 cs) rfl ?_
              first
              | (exfalso; omega)
              | (have hq : eqP t l s := ⟨by omega, by omega, by omega⟩
                 refine x_return dX5_advanceSign_76 rfl (by omega) (by omega) (hp _ (by rw [uI_s, if_pos hq]; omega) (by rw [uI_o (by omega), uI_o (by omega)]) ?_ ((Fcu.rf.u (by omega)).u (by omega)))
                 rw [uI_o (by omega), uI_s]
                 unfold skK
                 rw [if_pos hq, if_pos (by omega)])
              | (have hq : eqP t l s := ⟨by omega, by omega, by omega⟩
                 refine x_return dX5_advanceSign_76 rfl (by omega) (by omega) (hp _ (by rw [uI_s, if_pos hq]; omega) (by rw [uI_o (by omega), uI_o (by omega)]) ?_ ((Fcu.rf.u (by omega)).u (by omega)))
                 rw [uI_o (by omega), uI_s]
                 unfold skK
                 rw [if_pos hq, if_neg (by omega)])
    · refine x_iconst dX5_advanceSign_29 ?_
      refine x_goto 34 dX5_advanceSign_30 (by decide) ?_
      refine x_istore_n (lv2 := [(2, _), (0, _), (1, _)]) dX5_advanceSign_34 (by decide) rfl ?_
      refine x_iload_n dX5_advanceSign_35 rfl ?_
      refine x_if_eq 77 dX5_advanceSign_36 (by decide) (by omega) (fun w36 => ?_) (fun w36 => ?_)
      · refine x_aload_n dX5_advanceSign_77 rfl ?_
        refine x_ldcS1 rfl dX5_advanceSign_78 ?_
        refine x_iload_n dX5_advanceSign_80 rfl ?_
        refine x_i2c (by omega) dX5_advanceSign_81 ?_
        refine x_callT (t := 1) (mc1 := 0) (ms1 := 0) (n1 := n - 1) [.int (iI (t s))] [_] dX5_advanceSign_82 cv_RX5_116 (by omega) rfl rfl (Nat.le_of_ble_eq_true rfl) (by omega) (Nat.le_refl _) (Nat.le_refl _) ?_
        refine sp_ix (t := 1) (by omega) (by omega) (by omega) (fun r82 hr82 => ?_)
        have hsg := ixK_sg hr82
        have hrr : -1 ≤ r82 ∧ r82 < 11 := by
          rcases hr82 with ⟨v1, v2, v3⟩ | ⟨v1, v2⟩
          · have : lnK 1 = 11 := rfl
            omega
          · omega
        refine x_if_lt 92 dX5_advanceSign_85 (by decide) (by omega) (fun w85 => ?_) (fun w85 => ?_)
        · refine x_iconst dX5_advanceSign_92 ?_
          refine x_putI dX5_advanceSign_93 gf_RX5_41 (k_ob_287 cs) rfl ?_
          refine x_aload_n dX5_advanceSign_96 rfl ?_
          refine x_dup dX5_advanceSign_97 rfl ?_
          refine x_getIv (z := (s : Int)) dX5_advanceSign_98 gf_RX5_71 (k_ob_287 cs) (fun _ _ => rfl) (by first | exact j13 | exact j3 | exact j16 | (rw [uI_o (by omega)]; exact j13) | (rw [uI_o (by omega)]; exact j3)) ?_
          refine x_iconst dX5_advanceSign_101 ?_
          refine x_iadd dX5_advanceSign_102 ?_
          refine x_putI dX5_advanceSign_103 gf_RX5_71 (k_ob_287 cs) rfl ?_
          first
          | (exfalso; omega)
          | (have hq : ¬ eqP t l s := fun h9 => by obtain ⟨v1, v2, v3⟩ := h9; omega
             refine x_return dX5_advanceSign_106 rfl (by omega) (by omega) (hp _ (by rw [uI_s, if_neg hq]; omega) (by rw [uI_o (by omega), uI_o (by omega)]) ?_ ((Fcu.rf.u (by omega)).u (by omega)))
             rw [uI_o (by omega), uI_s]
             unfold skK
             rw [if_neg hq, if_pos (hsg.mp (by omega))])
          | (have hq : ¬ eqP t l s := fun h9 => by obtain ⟨v1, v2, v3⟩ := h9; omega
             refine x_return dX5_advanceSign_106 rfl (by omega) (by omega) (hp _ (by rw [uI_s, if_neg hq]; omega) (by rw [uI_o (by omega), uI_o (by omega)]) ?_ ((Fcu.rf.u (by omega)).u (by omega)))
             rw [uI_o (by omega), uI_s]
             unfold skK
             rw [if_neg hq, if_neg (fun h8 => by have := hsg.mpr h8; omega)])
        · refine x_iload_n dX5_advanceSign_88 rfl ?_
          refine x_goto 93 dX5_advanceSign_89 (by decide) ?_
          refine x_putI dX5_advanceSign_93 gf_RX5_41 (k_ob_287 cs) rfl ?_
          refine x_aload_n dX5_advanceSign_96 rfl ?_
          refine x_dup dX5_advanceSign_97 rfl ?_
          refine x_getIv (z := (s : Int)) dX5_advanceSign_98 gf_RX5_71 (k_ob_287 cs) (fun _ _ => rfl) (by first | exact j13 | exact j3 | exact j16 | (rw [uI_o (by omega)]; exact j13) | (rw [uI_o (by omega)]; exact j3)) ?_
          refine x_iconst dX5_advanceSign_101 ?_
          refine x_iadd dX5_advanceSign_102 ?_
          refine x_putI dX5_advanceSign_103 gf_RX5_71 (k_ob_287 cs) rfl ?_
          first
          | (exfalso; omega)
          | (have hq : ¬ eqP t l s := fun h9 => by obtain ⟨v1, v2, v3⟩ := h9; omega
             refine x_return dX5_advanceSign_106 rfl (by omega) (by omega) (hp _ (by rw [uI_s, if_neg hq]; omega) (by rw [uI_o (by omega), uI_o (by omega)]) ?_ ((Fcu.rf.u (by omega)).u (by omega)))
             rw [uI_o (by omega), uI_s]
             unfold skK
             rw [if_neg hq, if_pos (hsg.mp (by omega))])
          | (have hq : ¬ eqP t l s := fun h9 => by obtain ⟨v1, v2, v3⟩ := h9; omega
             refine x_return dX5_advanceSign_106 rfl (by omega) (by omega) (hp _ (by rw [uI_s, if_neg hq]; omega) (by rw [uI_o (by omega), uI_o (by omega)]) ?_ ((Fcu.rf.u (by omega)).u (by omega)))
             rw [uI_o (by omega), uI_s]
             unfold skK
             rw [if_neg hq, if_neg (fun h8 => by have := hsg.mpr h8; omega)])
      · refine x_iload_n dX5_advanceSign_39 rfl ?_
        refine x_bipush dX5_advanceSign_40 (by decide) ?_
        refine x_icmp_eq 51 dX5_advanceSign_42 (by decide) ⟨(by omega), (by omega)⟩ (fun w42 => ?_) (fun w42 => ?_)
        · refine x_aload_n dX5_advanceSign_51 rfl ?_
          refine x_iload_n dX5_advanceSign_52 rfl ?_
          refine x_bipush dX5_advanceSign_53 (by decide) ?_
          refine x_icmp_ne 62 dX5_advanceSign_55 (by decide) ⟨(by omega), (by omega)⟩ (fun w55 => ?_) (fun w55 => ?_)
          · refine x_iconst dX5_advanceSign_62 ?_
            refine x_putI dX5_advanceSign_63 gf_RX5_41 (k_ob_287 cs) rfl ?_
            refine x_aload_n dX5_advanceSign_66 rfl ?_
            refine x_dup dX5_advanceSign_67 rfl ?_
            refine x_getIv (z := (s : Int)) dX5_advanceSign_68 gf_RX5_71 (k_ob_287 cs) (fun _ _ => rfl) (by first | exact j13 | exact j3 | exact j16 | (rw [uI_o (by omega)]; exact j13) | (rw [uI_o (by omega)]; exact j3)) ?_
            refine x_iconst dX5_advanceSign_71 ?_
            refine x_iadd dX5_advanceSign_72 ?_
            refine x_putI dX5_advanceSign_73 gf_RX5_71 (k_ob_287 cs) rfl ?_
            first
            | (exfalso; omega)
            | (have hq : eqP t l s := ⟨by omega, by omega, by omega⟩
               refine x_return dX5_advanceSign_76 rfl (by omega) (by omega) (hp _ (by rw [uI_s, if_pos hq]; omega) (by rw [uI_o (by omega), uI_o (by omega)]) ?_ ((Fcu.rf.u (by omega)).u (by omega)))
               rw [uI_o (by omega), uI_s]
               unfold skK
               rw [if_pos hq, if_pos (by omega)])
            | (have hq : eqP t l s := ⟨by omega, by omega, by omega⟩
               refine x_return dX5_advanceSign_76 rfl (by omega) (by omega) (hp _ (by rw [uI_s, if_pos hq]; omega) (by rw [uI_o (by omega), uI_o (by omega)]) ?_ ((Fcu.rf.u (by omega)).u (by omega)))
               rw [uI_o (by omega), uI_s]
               unfold skK
               rw [if_pos hq, if_neg (by omega)])
          · refine x_iconst dX5_advanceSign_58 ?_
            refine x_goto 63 dX5_advanceSign_59 (by decide) ?_
            refine x_putI dX5_advanceSign_63 gf_RX5_41 (k_ob_287 cs) rfl ?_
            refine x_aload_n dX5_advanceSign_66 rfl ?_
            refine x_dup dX5_advanceSign_67 rfl ?_
            refine x_getIv (z := (s : Int)) dX5_advanceSign_68 gf_RX5_71 (k_ob_287 cs) (fun _ _ => rfl) (by first | exact j13 | exact j3 | exact j16 | (rw [uI_o (by omega)]; exact j13) | (rw [uI_o (by omega)]; exact j3)) ?_
            refine x_iconst dX5_advanceSign_71 ?_
            refine x_iadd dX5_advanceSign_72 ?_
            refine x_putI dX5_advanceSign_73 gf_RX5_71 (k_ob_287 cs) rfl ?_
            first
            | (exfalso; omega)
            | (have hq : eqP t l s := ⟨by omega, by omega, by omega⟩
               refine x_return dX5_advanceSign_76 rfl (by omega) (by omega) (hp _ (by rw [uI_s, if_pos hq]; omega) (by rw [uI_o (by omega), uI_o (by omega)]) ?_ ((Fcu.rf.u (by omega)).u (by omega)))
               rw [uI_o (by omega), uI_s]
               unfold skK
               rw [if_pos hq, if_pos (by omega)])
            | (have hq : eqP t l s := ⟨by omega, by omega, by omega⟩
               refine x_return dX5_advanceSign_76 rfl (by omega) (by omega) (hp _ (by rw [uI_s, if_pos hq]; omega) (by rw [uI_o (by omega), uI_o (by omega)]) ?_ ((Fcu.rf.u (by omega)).u (by omega)))
               rw [uI_o (by omega), uI_s]
               unfold skK
               rw [if_pos hq, if_neg (by omega)])
        · refine x_iload_n dX5_advanceSign_45 rfl ?_
          refine x_bipush dX5_advanceSign_46 (by decide) ?_
          refine x_icmp_ne 77 dX5_advanceSign_48 (by decide) ⟨(by omega), (by omega)⟩ (fun w48 => ?_) (fun w48 => ?_)
          · refine x_aload_n dX5_advanceSign_77 rfl ?_
            refine x_ldcS1 rfl dX5_advanceSign_78 ?_
            refine x_iload_n dX5_advanceSign_80 rfl ?_
            refine x_i2c (by omega) dX5_advanceSign_81 ?_
            refine x_callT (t := 1) (mc1 := 0) (ms1 := 0) (n1 := n - 1) [.int (iI (t s))] [_] dX5_advanceSign_82 cv_RX5_116 (by omega) rfl rfl (Nat.le_of_ble_eq_true rfl) (by omega) (Nat.le_refl _) (Nat.le_refl _) ?_
            refine sp_ix (t := 1) (by omega) (by omega) (by omega) (fun r82 hr82 => ?_)
            have hsg := ixK_sg hr82
            have hrr : -1 ≤ r82 ∧ r82 < 11 := by
              rcases hr82 with ⟨v1, v2, v3⟩ | ⟨v1, v2⟩
              · have : lnK 1 = 11 := rfl
                omega
              · omega
            refine x_if_lt 92 dX5_advanceSign_85 (by decide) (by omega) (fun w85 => ?_) (fun w85 => ?_)
            · refine x_iconst dX5_advanceSign_92 ?_
              refine x_putI dX5_advanceSign_93 gf_RX5_41 (k_ob_287 cs) rfl ?_
              refine x_aload_n dX5_advanceSign_96 rfl ?_
              refine x_dup dX5_advanceSign_97 rfl ?_
              refine x_getIv (z := (s : Int)) dX5_advanceSign_98 gf_RX5_71 (k_ob_287 cs) (fun _ _ => rfl) (by first | exact j13 | exact j3 | exact j16 | (rw [uI_o (by omega)]; exact j13) | (rw [uI_o (by omega)]; exact j3)) ?_
              refine x_iconst dX5_advanceSign_101 ?_
              refine x_iadd dX5_advanceSign_102 ?_
              refine x_putI dX5_advanceSign_103 gf_RX5_71 (k_ob_287 cs) rfl ?_
              first
              | (exfalso; omega)
              | (have hq : ¬ eqP t l s := fun h9 => by obtain ⟨v1, v2, v3⟩ := h9; omega
                 refine x_return dX5_advanceSign_106 rfl (by omega) (by omega) (hp _ (by rw [uI_s, if_neg hq]; omega) (by rw [uI_o (by omega), uI_o (by omega)]) ?_ ((Fcu.rf.u (by omega)).u (by omega)))
                 rw [uI_o (by omega), uI_s]
                 unfold skK
                 rw [if_neg hq, if_pos (hsg.mp (by omega))])
              | (have hq : ¬ eqP t l s := fun h9 => by obtain ⟨v1, v2, v3⟩ := h9; omega
                 refine x_return dX5_advanceSign_106 rfl (by omega) (by omega) (hp _ (by rw [uI_s, if_neg hq]; omega) (by rw [uI_o (by omega), uI_o (by omega)]) ?_ ((Fcu.rf.u (by omega)).u (by omega)))
                 rw [uI_o (by omega), uI_s]
                 unfold skK
                 rw [if_neg hq, if_neg (fun h8 => by have := hsg.mpr h8; omega)])
            · refine x_iload_n dX5_advanceSign_88 rfl ?_
              refine x_goto 93 dX5_advanceSign_89 (by decide) ?_
              refine x_putI dX5_advanceSign_93 gf_RX5_41 (k_ob_287 cs) rfl ?_
              refine x_aload_n dX5_advanceSign_96 rfl ?_
              refine x_dup dX5_advanceSign_97 rfl ?_
              refine x_getIv (z := (s : Int)) dX5_advanceSign_98 gf_RX5_71 (k_ob_287 cs) (fun _ _ => rfl) (by first | exact j13 | exact j3 | exact j16 | (rw [uI_o (by omega)]; exact j13) | (rw [uI_o (by omega)]; exact j3)) ?_
              refine x_iconst dX5_advanceSign_101 ?_
              refine x_iadd dX5_advanceSign_102 ?_
              refine x_putI dX5_advanceSign_103 gf_RX5_71 (k_ob_287 cs) rfl ?_
              first
              | (exfalso; omega)
              | (have hq : ¬ eqP t l s := fun h9 => by obtain ⟨v1, v2, v3⟩ := h9; omega
                 refine x_return dX5_advanceSign_106 rfl (by omega) (by omega) (hp _ (by rw [uI_s, if_neg hq]; omega) (by rw [uI_o (by omega), uI_o (by omega)]) ?_ ((Fcu.rf.u (by omega)).u (by omega)))
                 rw [uI_o (by omega), uI_s]
                 unfold skK
                 rw [if_neg hq, if_pos (hsg.mp (by omega))])
              | (have hq : ¬ eqP t l s := fun h9 => by obtain ⟨v1, v2, v3⟩ := h9; omega
                 refine x_return dX5_advanceSign_106 rfl (by omega) (by omega) (hp _ (by rw [uI_s, if_neg hq]; omega) (by rw [uI_o (by omega), uI_o (by omega)]) ?_ ((Fcu.rf.u (by omega)).u (by omega)))
                 rw [uI_o (by omega), uI_s]
                 unfold skK
                 rw [if_neg hq, if_neg (fun h8 => by have := hsg.mpr h8; omega)])
          · refine x_aload_n dX5_advanceSign_51 rfl ?_
            refine x_iload_n dX5_advanceSign_52 rfl ?_
            refine x_bipush dX5_advanceSign_53 (by decide) ?_
            refine x_icmp_ne 62 dX5_advanceSign_55 (by decide) ⟨(by omega), (by omega)⟩ (fun w55 => ?_) (fun w55 => ?_)
            · refine x_iconst dX5_advanceSign_62 ?_
              refine x_putI dX5_advanceSign_63 gf_RX5_41 (k_ob_287 cs) rfl ?_
              refine x_aload_n dX5_advanceSign_66 rfl ?_
              refine x_dup dX5_advanceSign_67 rfl ?_
              refine x_getIv (z := (s : Int)) dX5_advanceSign_68 gf_RX5_71 (k_ob_287 cs) (fun _ _ => rfl) (by first | exact j13 | exact j3 | exact j16 | (rw [uI_o (by omega)]; exact j13) | (rw [uI_o (by omega)]; exact j3)) ?_
              refine x_iconst dX5_advanceSign_71 ?_
              refine x_iadd dX5_advanceSign_72 ?_
              refine x_putI dX5_advanceSign_73 gf_RX5_71 (k_ob_287 cs) rfl ?_
              first
              | (exfalso; omega)
              | (have hq : eqP t l s := ⟨by omega, by omega, by omega⟩
                 refine x_return dX5_advanceSign_76 rfl (by omega) (by omega) (hp _ (by rw [uI_s, if_pos hq]; omega) (by rw [uI_o (by omega), uI_o (by omega)]) ?_ ((Fcu.rf.u (by omega)).u (by omega)))
                 rw [uI_o (by omega), uI_s]
                 unfold skK
                 rw [if_pos hq, if_pos (by omega)])
              | (have hq : eqP t l s := ⟨by omega, by omega, by omega⟩
                 refine x_return dX5_advanceSign_76 rfl (by omega) (by omega) (hp _ (by rw [uI_s, if_pos hq]; omega) (by rw [uI_o (by omega), uI_o (by omega)]) ?_ ((Fcu.rf.u (by omega)).u (by omega)))
                 rw [uI_o (by omega), uI_s]
                 unfold skK
                 rw [if_pos hq, if_neg (by omega)])
            · refine x_iconst dX5_advanceSign_58 ?_
              refine x_goto 63 dX5_advanceSign_59 (by decide) ?_
              refine x_putI dX5_advanceSign_63 gf_RX5_41 (k_ob_287 cs) rfl ?_
              refine x_aload_n dX5_advanceSign_66 rfl ?_
              refine x_dup dX5_advanceSign_67 rfl ?_
              refine x_getIv (z := (s : Int)) dX5_advanceSign_68 gf_RX5_71 (k_ob_287 cs) (fun _ _ => rfl) (by first | exact j13 | exact j3 | exact j16 | (rw [uI_o (by omega)]; exact j13) | (rw [uI_o (by omega)]; exact j3)) ?_
              refine x_iconst dX5_advanceSign_71 ?_
              refine x_iadd dX5_advanceSign_72 ?_
              refine x_putI dX5_advanceSign_73 gf_RX5_71 (k_ob_287 cs) rfl ?_
              first
              | (exfalso; omega)
              | (have hq : eqP t l s := ⟨by omega, by omega, by omega⟩
                 refine x_return dX5_advanceSign_76 rfl (by omega) (by omega) (hp _ (by rw [uI_s, if_pos hq]; omega) (by rw [uI_o (by omega), uI_o (by omega)]) ?_ ((Fcu.rf.u (by omega)).u (by omega)))
                 rw [uI_o (by omega), uI_s]
                 unfold skK
                 rw [if_pos hq, if_pos (by omega)])
              | (have hq : eqP t l s := ⟨by omega, by omega, by omega⟩
                 refine x_return dX5_advanceSign_76 rfl (by omega) (by omega) (hp _ (by rw [uI_s, if_pos hq]; omega) (by rw [uI_o (by omega), uI_o (by omega)]) ?_ ((Fcu.rf.u (by omega)).u (by omega)))
                 rw [uI_o (by omega), uI_s]
                 unfold skK
                 rw [if_pos hq, if_neg (by omega)])
end Lex3
