section Hg4s
variable {n mc ms : Nat} {M : Md} {pc : Nat} {lv : List (Nat × Value)} {st : List Value} {k j : Nat} {Post : PT} {S : Sh} {I : CI} {R : CR} {A : Nat → Int} {tx : Nat → Nat → Int}
theorem hg_len (hb : BA A) {e : Int} {H : Nat} (h6 : H ≤ 6) : ((cpp (ftA A e) H 0 0 []).length : Int) = wbA (ftA A e) H 0 ∧ (0 ≤ wbA (ftA A e) H 0 ∧ wbA (ftA A e) H 0 ≤ 262144) := by
  have h1 := cpp_len (ft := ftA A e) (H := H) (fun h => ftA_lt hb) H 0 0 [] (by omega) rfl (Nat.zero_add H)
  have h2 := wbb (ft := ftA A e) (H := H) (s := 0)
  have h3 : ∀ H < 7, (8 : Int) ^ (H - bcN 0) ≤ 262144 := by decide
  have h4 := h3 H (by omega)
  exact ⟨h1, by omega, by omega⟩
theorem lp_zero {e : Int} (cs : CS S R) (hK : ∀ J, (∀ c, c ≠ 322 → J c = I c) → (∀ i, i < 48 → J 322 i = 0) → WP n 0 0 mX12_layHung Post 26 [(0, .ref (S.2.1 306)), (1, .int (iI e))] [] 0 0 S J R) : ∀ (d q : Nat) (J : CI), q ≤ 48 → 48 - q = d → (∀ c, c ≠ 322 → J c = I c) → (∀ i, i < q → J 322 i = 0) → WP n 0 0 mX12_layHung Post 7 [(0, .ref (S.2.1 306)), (1, .int (iI e)), (2, .int (iI (q : Int)))] [] 0 0 S J R := by
  intro d
  induction d using Nat.strongRecOn with
  | ind d ih =>
    intro q J h1 h2 hF hv
    refine x_iload_n dX12_layHung_7 rfl ?_
    refine x_bipush dX12_layHung_8 (by decide) ?_
    refine x_icmp_ge 26 dX12_layHung_10 (by decide) ⟨(by omega), (by omega)⟩ (fun w10 => ?_) (fun w10 => ?_)
    · refine x_sub [0, 1] rfl ?_
      obtain rfl : q = 48 := by omega
      exact hK J hF hv
    · refine x_aload_n dX12_layHung_13 rfl ?_
      refine x_getR (b := 322) dX12_layHung_14 gf_RX12_68 (k_ob_306 cs) (fun _ _ => rfl) (k_r_306_35 cs) ?_
      refine x_iload_n dX12_layHung_17 rfl ?_
      refine x_iconst dX12_layHung_18 ?_
      refine x_iastore dX12_layHung_19 (k_ar_322 cs) (by omega) (by omega) ?_
      refine x_iinc (lv2 := [(2, _), (0, _), (1, _)]) dX12_layHung_20 rfl (by decide) rfl ?_
      refine x_goto 7 dX12_layHung_23 (by decide) ?_
      refine x_sub [1, 2, 0] rfl ?_
      rw [show (q : Int) + 1 = ((q + 1 : Nat) : Int) from rfl]
      refine ih (48 - (q + 1)) (by omega) (q + 1) _ (by omega) rfl (fun c hc => by rw [uI_row hc]; exact hF c hc) (fun i hi => ?_)
      by_cases hq : i = q
      · subst hq; rw [uI_x rfl (by omega)]
      · rw [uI_o (by omega)]; exact hv i (by omega)
theorem cnt_z {J : CI} {H : Nat} (h6 : H ≤ 6) (h1 : J 306 36 = 0) (h2 : ∀ i, i < 48 → J 322 i = 0) : NoteR J H [] := ⟨h1, fun x hx => (by cases hx), fun h hh q hq => h2 _ (by omega)⟩
theorem sp_X12_layHung {e : Int} {H : Nat} (cs : CS S R) (hb : BA A) (hn : 3 ≤ n) (hA : I 307 = A) (hH : A 4 = (H : Int)) (he : 0 ≤ e ∧ e ≤ 9) (hp : ∀ J, Fhg I J → NoteR J H (cpp (ftA A e) H 0 0 []) → Post none S J R) : Call n 0 0 mX12_layHung [.ref (S.2.1 306), .int (iI e)] S I R Post := by
  have h6 : H ≤ 6 := by have := hb.2.1.2.2.2.1; omega
  have hlen := hg_len hb (e := e) h6
  refine Call.of (by decide +kernel) (Nat.le_of_ble_eq_true rfl) ?_
  show WP _ _ _ _ _ 0 [(0, _), (1, _)] [] 0 0 _ _ _
  refine x_aload_n dX12_layHung_0 rfl ?_
  refine x_iconst dX12_layHung_1 ?_
  refine x_putI dX12_layHung_2 gf_RX12_467 (k_ob_306 cs) rfl ?_
  refine x_iconst dX12_layHung_5 ?_
  refine x_istore_n (lv2 := [(2, _), (0, _), (1, _)]) dX12_layHung_6 (by decide) rfl ?_
  refine x_sub [1, 2, 0] rfl ?_
  refine lp_zero (I := uI I 306 36 0) (e := e) cs (fun J hF hv => ?_) 48 0 _ (by omega) rfl (fun _ _ => rfl) (fun i hi => by omega)
  have F26 : Fhg I J := ⟨fun c g1 g2 g3 g4 => by rw [hF c g4, uI_row g1], fun q hq => by rw [hF 306 (by omega), uI_o (by omega)]⟩
  have a26 : J 307 = A := by rw [hF 307 (by omega), uI_row (by omega)]; exact hA
  have n26 : NoteR J H [] := cnt_z h6 (by rw [hF 306 (by omega), uI_s]) hv
  refine x_aload_n dX12_layHung_26 rfl ?_
  refine x_getR (b := 307) dX12_layHung_27 gf_RX12_7 (k_ob_306 cs) (fun _ _ => rfl) (k_r_306_0 cs) ?_
  refine x_iconst dX12_layHung_30 ?_
  refine x_ald7 (kk := 4) (v := A 4) dX12_layHung_31 cs (by omega) (by omega) (by rw [a26]; repeat (first | rfl | rw [upA_s] | rw [upA_o (by omega)])) ?_
  refine x_if_ne 40 dX12_layHung_32 (by decide) (by omega) (fun w32 => ?_) (fun w32 => ?_)
  · refine x_iconst dX12_layHung_40 ?_
    refine x_istore_n (lv2 := [(2, _), (0, _), (1, _)]) dX12_layHung_41 (by decide) rfl ?_
    refine x_iconst dX12_layHung_42 ?_
    refine x_istore_n (lv2 := [(3, _), (2, _), (0, _), (1, _)]) dX12_layHung_43 (by decide) rfl ?_
    refine x_aload_n dX12_layHung_44 rfl ?_
    refine x_getR (b := 320) dX12_layHung_45 gf_RX12_62 (k_ob_306 cs) (fun _ _ => rfl) (k_r_306_33 cs) ?_
    refine x_iconst dX12_layHung_48 ?_
    refine x_iconst dX12_layHung_49 ?_
    refine x_iastore dX12_layHung_50 (k_ar_320 cs) (by omega) (by omega) ?_
    refine x_sub [2, 3, 1, 0] rfl ?_
    obtain ⟨f, rfl⟩ : ∃ f, H = f + 1 := ⟨H - 1, by omega⟩
    refine lp_lev (I := I) (H := f + 1) (e := e) cs hb hn hH h6 he hA f 0 0 [] (by omega) rfl (by omega) (fun h hh => by omega) 8 0 0 [] _ (by omega) (by have := hb.1.1; omega) (Or.inl ⟨rfl, rfl⟩) (fun h hh => by omega) (by rw [uI_x rfl (by omega)]; rfl) (fhg_320 F26 (fun c hc => uI_row hc)) (NoteR.w n26 (by rw [uI_row (by omega)]) (uI_row (by omega)) (uI_row (by omega))) ?_ (fun J2 F2 p2 n2 => ?_)
    · rw [← cpp_s]
      have h9 : ([] : List (List Nat)).length = 0 := rfl
      omega
    · rw [← cpp_s, List.nil_append] at n2
      show WP _ _ _ _ _ 51 [(0, _), (1, _), (2, _), (3, _)] [] 0 0 _ _ _
      refine x_iload_n dX12_layHung_51 rfl ?_
      refine x_if_lt 243 dX12_layHung_52 (by decide) (by omega) (fun w52 => ?_) (fun w52 => by exfalso; omega)
      exact x_return dX12_layHung_243 rfl (by omega) (by omega) (hp J2 F2 n2)
  · refine x_aload_n dX12_layHung_35 rfl ?_
    refine x_callV0 (mc1 := 0) (ms1 := 0) dX12_layHung_36 cv_RX12_470 (ci := 12) (k_ob_306 cs) rfl (Nat.le_of_ble_eq_true rfl) (n1 := n - 1) (by omega) (by omega) (by omega) ?_
    obtain rfl : H = 0 := by omega
    refine sp_X12_noteHung (H := 0) (L := []) (x := []) (A := A) cs a26 hH (by omega) (fun h hh => by omega) (by show 0 < 1000000; omega) n26 (fun J36 f36 n36 => ?_)
    exact x_return dX12_layHung_39 rfl (by omega) (by omega) (hp J36 (Fhg.tr F26 (Fnt.hg f36)) n36)
theorem dX12_hung_0 : decode prog_14_method_135_code 0 = .ok (.iload_n 1, 1) := by decide +kernel
theorem dX12_hung_1 : decode prog_14_method_135_code 1 = .ok (.iconst 0, 1) := by decide +kernel
theorem dX12_hung_2 : decode prog_14_method_135_code 2 = .ok (.bipush 9, 2) := by decide +kernel
theorem dX12_hung_4 : decode prog_14_method_135_code 4 = .ok (.invokestatic 81, 3) := by decide +kernel
theorem dX12_hung_7 : decode prog_14_method_135_code 7 = .ok (.ifCond .ne 6, 3) := by decide +kernel
theorem dX12_hung_10 : decode prog_14_method_135_code 10 = .ok (.bipush (-2), 2) := by decide +kernel
theorem dX12_hung_12 : decode prog_14_method_135_code 12 = .ok (.ireturn, 1) := by decide +kernel
theorem dX12_hung_13 : decode prog_14_method_135_code 13 = .ok (.aload_n 0, 1) := by decide +kernel
theorem dX12_hung_14 : decode prog_14_method_135_code 14 = .ok (.iload_n 1, 1) := by decide +kernel
theorem dX12_hung_15 : decode prog_14_method_135_code 15 = .ok (.invokevirtual 476, 3) := by decide +kernel
theorem dX12_hung_18 : decode prog_14_method_135_code 18 = .ok (.iload_n 2, 1) := by decide +kernel
theorem dX12_hung_19 : decode prog_14_method_135_code 19 = .ok (.iconst (-1), 1) := by decide +kernel
theorem dX12_hung_20 : decode prog_14_method_135_code 20 = .ok (.if_icmp .ne 10, 3) := by decide +kernel
theorem dX12_hung_23 : decode prog_14_method_135_code 23 = .ok (.aload_n 0, 1) := by decide +kernel
theorem dX12_hung_24 : decode prog_14_method_135_code 24 = .ok (.getfield 467, 3) := by decide +kernel
theorem dX12_hung_27 : decode prog_14_method_135_code 27 = .ok (.goto 37, 3) := by decide +kernel
theorem dX12_hung_30 : decode prog_14_method_135_code 30 = .ok (.iload_n 2, 1) := by decide +kernel
theorem dX12_hung_31 : decode prog_14_method_135_code 31 = .ok (.iconst 0, 1) := by decide +kernel
theorem dX12_hung_32 : decode prog_14_method_135_code 32 = .ok (.aload_n 0, 1) := by decide +kernel
theorem dX12_hung_33 : decode prog_14_method_135_code 33 = .ok (.getfield 7, 3) := by decide +kernel
theorem dX12_hung_36 : decode prog_14_method_135_code 36 = .ok (.iconst 4, 1) := by decide +kernel
theorem dX12_hung_37 : decode prog_14_method_135_code 37 = .ok (.iaload, 1) := by decide +kernel
theorem dX12_hung_38 : decode prog_14_method_135_code 38 = .ok (.iconst 1, 1) := by decide +kernel
theorem dX12_hung_39 : decode prog_14_method_135_code 39 = .ok (.isub, 1) := by decide +kernel
theorem dX12_hung_40 : decode prog_14_method_135_code 40 = .ok (.invokestatic 81, 3) := by decide +kernel
theorem dX12_hung_43 : decode prog_14_method_135_code 43 = .ok (.ifCond .eq 19, 3) := by decide +kernel
theorem dX12_hung_46 : decode prog_14_method_135_code 46 = .ok (.aload_n 0, 1) := by decide +kernel
theorem dX12_hung_47 : decode prog_14_method_135_code 47 = .ok (.getfield 467, 3) := by decide +kernel
theorem dX12_hung_50 : decode prog_14_method_135_code 50 = .ok (.ifCond .le 12, 3) := by decide +kernel
theorem dX12_hung_53 : decode prog_14_method_135_code 53 = .ok (.aload_n 0, 1) := by decide +kernel
theorem dX12_hung_54 : decode prog_14_method_135_code 54 = .ok (.getfield 65, 3) := by decide +kernel
theorem dX12_hung_57 : decode prog_14_method_135_code 57 = .ok (.iload_n 2, 1) := by decide +kernel
theorem dX12_hung_58 : decode prog_14_method_135_code 58 = .ok (.iaload, 1) := by decide +kernel
theorem dX12_hung_59 : decode prog_14_method_135_code 59 = .ok (.goto 5, 3) := by decide +kernel
theorem dX12_hung_62 : decode prog_14_method_135_code 62 = .ok (.bipush (-2), 2) := by decide +kernel
theorem dX12_hung_64 : decode prog_14_method_135_code 64 = .ok (.ireturn, 1) := by decide +kernel
theorem sp_X12_hung {e k : Int} (cs : CS S R) (hb : BA A) (hn : 4 ≤ n) (hA : I 307 = A) (he : Rg e) (hk : Rg k) (hp : ∀ J, Fhg I J → Post (some (.int (iI (f_hung A e k)))) S J R) : Call n 0 0 mX12_hung [.ref (S.2.1 306), .int (iI e), .int (iI k)] S I R Post := by
  have b4 := hb.2.1.2.2.2.1
  have hft : ∀ h, ftA A e h < 256 := fun h => ftA_lt hb
  obtain ⟨H, hH⟩ : ∃ H : Nat, A 4 = (H : Int) := ⟨(A 4).toNat, by omega⟩
  have hlen := hg_len hb (e := e) (H := H) (by omega)
  have hHt : (A 4).toNat = H := by omega
  have ev : ∀ (J : CI) (v : Int), Fhg I J → f_hung A e k = v → Post (some (.int (iI v))) S J R := fun J v h1 h2 => by rw [← h2]; exact hp J h1
  refine Call.of (by decide +kernel) (Nat.le_of_ble_eq_true rfl) ?_
  show WP _ _ _ _ _ 0 [(0, _), (1, _), (2, _)] [] 0 0 _ _ _
  refine x_iload_n dX12_hung_0 rfl ?_
  refine x_iconst dX12_hung_1 ?_
  refine x_bipush dX12_hung_2 (by decide) ?_
  refine x_callS3 (mc1 := 0) (ms1 := 0) dX12_hung_4 cv_RX12_81 (Nat.le_of_ble_eq_true rfl) (n1 := n - 1) (by omega) (by omega) (by omega) ?_
  refine sp_X12_isIn (by omega) (by omega) (by omega) (fun r4 hr4 => ?_)
  refine x_if_ne 13 dX12_hung_7 (by decide) (by omega) (fun w7 => ?_) (fun w7 => ?_)
  · refine x_aload_n dX12_hung_13 rfl ?_
    refine x_iload_n dX12_hung_14 rfl ?_
    refine x_callV1 (mc1 := 0) (ms1 := 0) dX12_hung_15 cv_RX12_476 (ci := 12) (k_ob_306 cs) rfl (Nat.le_of_ble_eq_true rfl) (n1 := n - 1) (by omega) (by omega) (by omega) ?_
    refine sp_X12_layHung (e := e) (H := H) (A := A) cs hb (by omega) hA hH (by omega) (fun J15 f15 n15 => ?_)
    have a15 : J15 307 = A := by rw [f15.1 307 (by omega) (by omega) (by omega) (by omega)]; exact hA
    have w15 : J15 306 36 = wbA (ftA A e) H 0 := by rw [n15.1]; exact hlen.1
    refine x_iload_n dX12_hung_18 rfl ?_
    refine x_iconst dX12_hung_19 ?_
    refine x_icmp_ne 30 dX12_hung_20 (by decide) ⟨(by omega), (by omega)⟩ (fun w20 => ?_) (fun w20 => ?_)
    · refine x_iload_n dX12_hung_30 rfl ?_
      refine x_iconst dX12_hung_31 ?_
      refine x_aload_n dX12_hung_32 rfl ?_
      refine x_getR (b := 307) dX12_hung_33 gf_RX12_7 (k_ob_306 cs) (fun _ _ => rfl) (k_r_306_0 cs) ?_
      refine x_iconst dX12_hung_36 ?_
      refine x_ald7 (kk := 4) (v := A 4) dX12_hung_37 cs (by omega) (by omega) (by rw [a15]; repeat (first | rfl | rw [upA_s] | rw [upA_o (by omega)])) ?_
      refine x_iconst dX12_hung_38 ?_
      refine x_isub dX12_hung_39 ?_
      refine x_callS3 (mc1 := 0) (ms1 := 0) dX12_hung_40 cv_RX12_81 (Nat.le_of_ble_eq_true rfl) (n1 := n - 1) (by omega) (by omega) (by omega) ?_
      refine sp_X12_isIn (by omega) (by omega) (by omega) (fun r40 hr40 => ?_)
      refine x_if_eq 62 dX12_hung_43 (by decide) (by omega) (fun w43 => ?_) (fun w43 => ?_)
      · refine x_bipush dX12_hung_62 (by decide) ?_
        exact x_ireturn dX12_hung_64 rfl (by omega) (by omega) (by first
 | (refine ev I _ Fhg.rf ?_
    unfold f_hung; rw [if_neg (by omega)])
 | (refine ev J15 _ f15 ?_
    unfold f_hung; rw [if_pos (by omega), if_pos (by omega), hHt])
 | (refine ev J15 _ f15 ?_
    unfold f_hung; rw [if_neg (by omega)])
 | (refine ev J15 _ f15 ?_
    unfold f_hung; rw [if_pos (by omega), if_neg (by omega), hHt]
    unfold lowP
    rw [if_neg (fun h9 => h9.1 (by omega))])
 | (refine ev J15 _ f15 ?_
    unfold f_hung; rw [if_pos (by omega), if_neg (by omega), hHt]
    cases hg : cpp (ftA A e) H 0 0 [] with
    | nil => exfalso; have h9 := hlen.1; rw [hg] at h9; have h8 : (([] : List (List Nat)).length : Int) = 0 := rfl; omega
    | cons x r =>
      have hx : (cpp (ftA A e) H 0 0 []).head? = some x := by rw [hg]; rfl
      rw [low_hd hft hx (show k.toNat < H by omega)]
      exact (n15.2.1 x hx k.toNat (by omega)).symm))
      · refine x_aload_n dX12_hung_46 rfl ?_
        refine x_getIv (z := wbA (ftA A e) H 0) dX12_hung_47 gf_RX12_467 (k_ob_306 cs) (fun _ _ => rfl) (by exact w15) ?_
        refine x_if_le 62 dX12_hung_50 (by decide) (by omega) (fun w50 => ?_) (fun w50 => ?_)
        · refine x_bipush dX12_hung_62 (by decide) ?_
          exact x_ireturn dX12_hung_64 rfl (by omega) (by omega) (by first
 | (refine ev I _ Fhg.rf ?_
    unfold f_hung; rw [if_neg (by omega)])
 | (refine ev J15 _ f15 ?_
    unfold f_hung; rw [if_pos (by omega), if_pos (by omega), hHt])
 | (refine ev J15 _ f15 ?_
    unfold f_hung; rw [if_neg (by omega)])
 | (refine ev J15 _ f15 ?_
    unfold f_hung; rw [if_pos (by omega), if_neg (by omega), hHt]
    unfold lowP
    rw [if_neg (fun h9 => h9.1 (by omega))])
 | (refine ev J15 _ f15 ?_
    unfold f_hung; rw [if_pos (by omega), if_neg (by omega), hHt]
    cases hg : cpp (ftA A e) H 0 0 [] with
    | nil => exfalso; have h9 := hlen.1; rw [hg] at h9; have h8 : (([] : List (List Nat)).length : Int) = 0 := rfl; omega
    | cons x r =>
      have hx : (cpp (ftA A e) H 0 0 []).head? = some x := by rw [hg]; rfl
      rw [low_hd hft hx (show k.toNat < H by omega)]
      exact (n15.2.1 x hx k.toNat (by omega)).symm))
        · refine x_aload_n dX12_hung_53 rfl ?_
          refine x_getR (b := 321) dX12_hung_54 gf_RX12_65 (k_ob_306 cs) (fun _ _ => rfl) (k_r_306_34 cs) ?_
          refine x_iload_n dX12_hung_57 rfl ?_
          refine x_iaload dX12_hung_58 (k_ar_321 cs) (by omega) (by omega) ?_
          refine x_goto 64 dX12_hung_59 (by decide) ?_
          exact x_ireturn dX12_hung_64 rfl (by omega) (by omega) (by first
 | (refine ev I _ Fhg.rf ?_
    unfold f_hung; rw [if_neg (by omega)])
 | (refine ev J15 _ f15 ?_
    unfold f_hung; rw [if_pos (by omega), if_pos (by omega), hHt])
 | (refine ev J15 _ f15 ?_
    unfold f_hung; rw [if_neg (by omega)])
 | (refine ev J15 _ f15 ?_
    unfold f_hung; rw [if_pos (by omega), if_neg (by omega), hHt]
    unfold lowP
    rw [if_neg (fun h9 => h9.1 (by omega))])
 | (refine ev J15 _ f15 ?_
    unfold f_hung; rw [if_pos (by omega), if_neg (by omega), hHt]
    cases hg : cpp (ftA A e) H 0 0 [] with
    | nil => exfalso; have h9 := hlen.1; rw [hg] at h9; have h8 : (([] : List (List Nat)).length : Int) = 0 := rfl; omega
    | cons x r =>
      have hx : (cpp (ftA A e) H 0 0 []).head? = some x := by rw [hg]; rfl
      rw [low_hd hft hx (show k.toNat < H by omega)]
      exact (n15.2.1 x hx k.toNat (by omega)).symm))
    · refine x_aload_n dX12_hung_23 rfl ?_
      refine x_getIv (z := wbA (ftA A e) H 0) dX12_hung_24 gf_RX12_467 (k_ob_306 cs) (fun _ _ => rfl) (by exact w15) ?_
      refine x_goto 64 dX12_hung_27 (by decide) ?_
      exact x_ireturn dX12_hung_64 rfl (by omega) (by omega) (by first
 | (refine ev I _ Fhg.rf ?_
    unfold f_hung; rw [if_neg (by omega)])
 | (refine ev J15 _ f15 ?_
    unfold f_hung; rw [if_pos (by omega), if_pos (by omega), hHt])
 | (refine ev J15 _ f15 ?_
    unfold f_hung; rw [if_neg (by omega)])
 | (refine ev J15 _ f15 ?_
    unfold f_hung; rw [if_pos (by omega), if_neg (by omega), hHt]
    unfold lowP
    rw [if_neg (fun h9 => h9.1 (by omega))])
 | (refine ev J15 _ f15 ?_
    unfold f_hung; rw [if_pos (by omega), if_neg (by omega), hHt]
    cases hg : cpp (ftA A e) H 0 0 [] with
    | nil => exfalso; have h9 := hlen.1; rw [hg] at h9; have h8 : (([] : List (List Nat)).length : Int) = 0 := rfl; omega
    | cons x r =>
      have hx : (cpp (ftA A e) H 0 0 []).head? = some x := by rw [hg]; rfl
      rw [low_hd hft hx (show k.toNat < H by omega)]
      exact (n15.2.1 x hx k.toNat (by omega)).symm))
  · refine x_bipush dX12_hung_10 (by decide) ?_
    exact x_ireturn dX12_hung_12 rfl (by omega) (by omega) (by first
 | (refine ev I _ Fhg.rf ?_
    unfold f_hung; rw [if_neg (by omega)])
 | (refine ev J15 _ f15 ?_
    unfold f_hung; rw [if_pos (by omega), if_pos (by omega), hHt])
 | (refine ev J15 _ f15 ?_
    unfold f_hung; rw [if_neg (by omega)])
 | (refine ev J15 _ f15 ?_
    unfold f_hung; rw [if_pos (by omega), if_neg (by omega), hHt]
    unfold lowP
    rw [if_neg (fun h9 => h9.1 (by omega))])
 | (refine ev J15 _ f15 ?_
    unfold f_hung; rw [if_pos (by omega), if_neg (by omega), hHt]
    cases hg : cpp (ftA A e) H 0 0 [] with
    | nil => exfalso; have h9 := hlen.1; rw [hg] at h9; have h8 : (([] : List (List Nat)).length : Int) = 0 := rfl; omega
    | cons x r =>
      have hx : (cpp (ftA A e) H 0 0 []).head? = some x := by rw [hg]; rfl
      rw [low_hd hft hx (show k.toNat < H by omega)]
      exact (n15.2.1 x hx k.toNat (by omega)).symm))
theorem dX12_look_0 : decode prog_14_method_136_code 0 = .ok (.iload_n 1, 1) := by decide +kernel
theorem dX12_look_1 : decode prog_14_method_136_code 1 = .ok (.iconst 0, 1) := by decide +kernel
theorem dX12_look_2 : decode prog_14_method_136_code 2 = .ok (.bipush 9, 2) := by decide +kernel
theorem dX12_look_4 : decode prog_14_method_136_code 4 = .ok (.invokestatic 81, 3) := by decide +kernel
theorem dX12_look_7 : decode prog_14_method_136_code 7 = .ok (.ifCond .ne 5, 3) := by decide +kernel
theorem dX12_look_10 : decode prog_14_method_136_code 10 = .ok (.iconst (-1), 1) := by decide +kernel
theorem dX12_look_11 : decode prog_14_method_136_code 11 = .ok (.ireturn, 1) := by decide +kernel
theorem dX12_look_12 : decode prog_14_method_136_code 12 = .ok (.aload_n 0, 1) := by decide +kernel
theorem dX12_look_13 : decode prog_14_method_136_code 13 = .ok (.iload_n 1, 1) := by decide +kernel
theorem dX12_look_14 : decode prog_14_method_136_code 14 = .ok (.invokevirtual 476, 3) := by decide +kernel
theorem dX12_look_17 : decode prog_14_method_136_code 17 = .ok (.iconst (-1), 1) := by decide +kernel
theorem dX12_look_18 : decode prog_14_method_136_code 18 = .ok (.istore_n 2, 1) := by decide +kernel
theorem dX12_look_19 : decode prog_14_method_136_code 19 = .ok (.ldc_w 423, 3) := by decide +kernel
theorem dX12_look_22 : decode prog_14_method_136_code 22 = .ok (.istore_n 3, 1) := by decide +kernel
theorem dX12_look_23 : decode prog_14_method_136_code 23 = .ok (.iconst 0, 1) := by decide +kernel
theorem dX12_look_24 : decode prog_14_method_136_code 24 = .ok (.istore 4, 2) := by decide +kernel
theorem dX12_look_26 : decode prog_14_method_136_code 26 = .ok (.iload 4, 2) := by decide +kernel
theorem dX12_look_28 : decode prog_14_method_136_code 28 = .ok (.aload_n 0, 1) := by decide +kernel
theorem dX12_look_29 : decode prog_14_method_136_code 29 = .ok (.getfield 7, 3) := by decide +kernel
theorem dX12_look_32 : decode prog_14_method_136_code 32 = .ok (.iconst 4, 1) := by decide +kernel
theorem dX12_look_33 : decode prog_14_method_136_code 33 = .ok (.iaload, 1) := by decide +kernel
theorem dX12_look_34 : decode prog_14_method_136_code 34 = .ok (.if_icmp .ge 89, 3) := by decide +kernel
theorem dX12_look_37 : decode prog_14_method_136_code 37 = .ok (.aload_n 0, 1) := by decide +kernel
theorem dX12_look_38 : decode prog_14_method_136_code 38 = .ok (.getfield 467, 3) := by decide +kernel
theorem dX12_look_41 : decode prog_14_method_136_code 41 = .ok (.iconst 1, 1) := by decide +kernel
theorem dX12_look_42 : decode prog_14_method_136_code 42 = .ok (.if_icmp .le 81, 3) := by decide +kernel
theorem dX12_look_45 : decode prog_14_method_136_code 45 = .ok (.iconst 0, 1) := by decide +kernel
theorem dX12_look_46 : decode prog_14_method_136_code 46 = .ok (.istore 5, 2) := by decide +kernel
theorem dX12_look_48 : decode prog_14_method_136_code 48 = .ok (.iconst 0, 1) := by decide +kernel
theorem dX12_look_49 : decode prog_14_method_136_code 49 = .ok (.istore 6, 2) := by decide +kernel
theorem dX12_look_51 : decode prog_14_method_136_code 51 = .ok (.iload 6, 2) := by decide +kernel
theorem dX12_look_53 : decode prog_14_method_136_code 53 = .ok (.bipush 8, 2) := by decide +kernel
theorem dX12_look_55 : decode prog_14_method_136_code 55 = .ok (.if_icmp .ge 47, 3) := by decide +kernel
theorem dX12_look_58 : decode prog_14_method_136_code 58 = .ok (.aload_n 0, 1) := by decide +kernel
theorem dX12_look_59 : decode prog_14_method_136_code 59 = .ok (.getfield 68, 3) := by decide +kernel
theorem dX12_look_62 : decode prog_14_method_136_code 62 = .ok (.bipush 8, 2) := by decide +kernel
theorem dX12_look_64 : decode prog_14_method_136_code 64 = .ok (.iload 4, 2) := by decide +kernel
theorem dX12_look_66 : decode prog_14_method_136_code 66 = .ok (.imul, 1) := by decide +kernel
theorem dX12_look_67 : decode prog_14_method_136_code 67 = .ok (.iload 6, 2) := by decide +kernel
theorem dX12_look_69 : decode prog_14_method_136_code 69 = .ok (.iadd, 1) := by decide +kernel
theorem dX12_look_70 : decode prog_14_method_136_code 70 = .ok (.iaload, 1) := by decide +kernel
theorem dX12_look_71 : decode prog_14_method_136_code 71 = .ok (.iload 5, 2) := by decide +kernel
theorem dX12_look_73 : decode prog_14_method_136_code 73 = .ok (.if_icmp .le 19, 3) := by decide +kernel
theorem dX12_look_76 : decode prog_14_method_136_code 76 = .ok (.aload_n 0, 1) := by decide +kernel
theorem dX12_look_77 : decode prog_14_method_136_code 77 = .ok (.getfield 68, 3) := by decide +kernel
theorem dX12_look_80 : decode prog_14_method_136_code 80 = .ok (.bipush 8, 2) := by decide +kernel
theorem dX12_look_82 : decode prog_14_method_136_code 82 = .ok (.iload 4, 2) := by decide +kernel
theorem dX12_look_84 : decode prog_14_method_136_code 84 = .ok (.imul, 1) := by decide +kernel
theorem dX12_look_85 : decode prog_14_method_136_code 85 = .ok (.iload 6, 2) := by decide +kernel
theorem dX12_look_87 : decode prog_14_method_136_code 87 = .ok (.iadd, 1) := by decide +kernel
theorem dX12_look_88 : decode prog_14_method_136_code 88 = .ok (.iaload, 1) := by decide +kernel
theorem dX12_look_89 : decode prog_14_method_136_code 89 = .ok (.goto 5, 3) := by decide +kernel
theorem dX12_look_92 : decode prog_14_method_136_code 92 = .ok (.iload 5, 2) := by decide +kernel
theorem dX12_look_94 : decode prog_14_method_136_code 94 = .ok (.istore 5, 2) := by decide +kernel
theorem dX12_look_96 : decode prog_14_method_136_code 96 = .ok (.iinc 6 1, 3) := by decide +kernel
theorem dX12_look_99 : decode prog_14_method_136_code 99 = .ok (.goto (-48), 3) := by decide +kernel
theorem dX12_look_102 : decode prog_14_method_136_code 102 = .ok (.iload 5, 2) := by decide +kernel
theorem dX12_look_104 : decode prog_14_method_136_code 104 = .ok (.iload_n 3, 1) := by decide +kernel
theorem dX12_look_105 : decode prog_14_method_136_code 105 = .ok (.if_icmp .lt 6, 3) := by decide +kernel
theorem dX12_look_108 : decode prog_14_method_136_code 108 = .ok (.goto 9, 3) := by decide +kernel
theorem dX12_look_111 : decode prog_14_method_136_code 111 = .ok (.iload 5, 2) := by decide +kernel
theorem dX12_look_113 : decode prog_14_method_136_code 113 = .ok (.istore_n 3, 1) := by decide +kernel
theorem dX12_look_114 : decode prog_14_method_136_code 114 = .ok (.iload 4, 2) := by decide +kernel
theorem dX12_look_116 : decode prog_14_method_136_code 116 = .ok (.istore_n 2, 1) := by decide +kernel
theorem dX12_look_117 : decode prog_14_method_136_code 117 = .ok (.iinc 4 1, 3) := by decide +kernel
theorem dX12_look_120 : decode prog_14_method_136_code 120 = .ok (.goto (-94), 3) := by decide +kernel
theorem dX12_look_123 : decode prog_14_method_136_code 123 = .ok (.iload_n 2, 1) := by decide +kernel
theorem dX12_look_124 : decode prog_14_method_136_code 124 = .ok (.ireturn, 1) := by decide +kernel
theorem ml_le {ft : Nat → Nat} {H h : Nat} {B : Int} (hB : 0 ≤ B) : ∀ q : Nat, (∀ z, z < q → wwK ft H h z 256 ≤ B) → mlK ft H h q ≤ B := by
  intro q
  induction q with
  | zero => intro _; exact hB
  | succ q ih =>
    intro hh
    have h1 := ih (fun z hz => hh z (by omega))
    have h2 := hh q (by omega)
    show (if wwK ft H h q 256 ≤ mlK ft H h q then mlK ft H h q else wwK ft H h q 256) ≤ B
    split <;> omega
theorem lp_look1 {e : Int} {H h : Nat} {fd le : Int} (cs : CS S R) (hb : BA A) (h6 : H ≤ 6) (hh : h < H) (hw : ∀ q, q < 8 → I 322 (8 * h + q) = wwK (ftA A e) H h q 256) (hK : WP n 0 0 mX12_look Post 102 [(0, .ref (S.2.1 306)), (1, .int (iI e)), (2, .int (iI fd)), (3, .int (iI le)), (4, .int (iI (h : Int))), (5, .int (iI (mlK (ftA A e) H h 8)))] [] 0 0 S I R) : ∀ (d q : Nat), q ≤ 8 → 8 - q = d → WP n 0 0 mX12_look Post 51 [(0, .ref (S.2.1 306)), (1, .int (iI e)), (2, .int (iI fd)), (3, .int (iI le)), (4, .int (iI (h : Int))), (5, .int (iI (mlK (ftA A e) H h q))), (6, .int (iI (q : Int)))] [] 0 0 S I R := by
  have hft : ∀ h, ftA A e h < 256 := fun h => ftA_lt hb
  intro d
  induction d using Nat.strongRecOn with
  | ind d ih =>
    intro q h1 h2
    have mb := mlK_b (H := H) (h := h) hft hh h6 q h1
    have es : mlK (ftA A e) H h (q + 1) = if wwK (ftA A e) H h q 256 ≤ mlK (ftA A e) H h q then mlK (ftA A e) H h q else wwK (ftA A e) H h q 256 := rfl
    refine x_iload dX12_look_51 rfl ?_
    refine x_bipush dX12_look_53 (by decide) ?_
    refine x_icmp_ge 102 dX12_look_55 (by decide) ⟨(by omega), (by omega)⟩ (fun w55 => ?_) (fun w55 => ?_)
    · refine x_sub [0, 1, 2, 3, 4, 5] rfl ?_
      obtain rfl : q = 8 := by omega
      exact hK
    · have wb := wwK_b (H := H) (h := h) (q := q) hft hh h6 (by omega) 256 (by omega)
      refine x_aload_n dX12_look_58 rfl ?_
      refine x_getR (b := 322) dX12_look_59 gf_RX12_68 (k_ob_306 cs) (fun _ _ => rfl) (k_r_306_35 cs) ?_
      refine x_bipush dX12_look_62 (by decide) ?_
      refine x_iload dX12_look_64 rfl ?_
      refine x_imul dX12_look_66 ?_
      refine x_iload dX12_look_67 rfl ?_
      refine x_iadd dX12_look_69 ?_
      refine x_iaload dX12_look_70 (k_ar_322 cs) (by omega) (by omega) ?_
      rw [show I 322 (8 * (h : Int) + (q : Int)).toNat = wwK (ftA A e) H h q 256 by rw [show (8 * (h : Int) + (q : Int)).toNat = 8 * h + q by omega]; exact hw q (by omega)]
      refine x_iload dX12_look_71 rfl ?_
      refine x_icmp_le 92 dX12_look_73 (by decide) ⟨(by omega), (by omega)⟩ (fun w73 => ?_) (fun w73 => ?_)
      · refine x_iload dX12_look_92 rfl ?_
        refine x_istore (lv2 := [(5, _), (0, _), (1, _), (2, _), (3, _), (4, _), (6, _)]) dX12_look_94 (by decide) rfl ?_
        refine x_iinc (lv2 := [(6, _), (5, _), (0, _), (1, _), (2, _), (3, _), (4, _)]) dX12_look_96 rfl (by decide) rfl ?_
        refine x_goto 51 dX12_look_99 (by decide) ?_
        refine x_sub [2, 3, 4, 5, 6, 1, 0] rfl ?_
        have h9 := ih (8 - (q + 1)) (by omega) (q + 1) (by omega) rfl
        rw [show ((q + 1 : Nat) : Int) = (q : Int) + 1 from rfl, es] at h9
        first
        | (rw [if_pos (by omega)] at h9; exact h9)
        | (rw [if_neg (by omega)] at h9; exact h9)
      · refine x_aload_n dX12_look_76 rfl ?_
        refine x_getR (b := 322) dX12_look_77 gf_RX12_68 (k_ob_306 cs) (fun _ _ => rfl) (k_r_306_35 cs) ?_
        refine x_bipush dX12_look_80 (by decide) ?_
        refine x_iload dX12_look_82 rfl ?_
        refine x_imul dX12_look_84 ?_
        refine x_iload dX12_look_85 rfl ?_
        refine x_iadd dX12_look_87 ?_
        refine x_iaload dX12_look_88 (k_ar_322 cs) (by omega) (by omega) ?_
        rw [show I 322 (8 * (h : Int) + (q : Int)).toNat = wwK (ftA A e) H h q 256 by rw [show (8 * (h : Int) + (q : Int)).toNat = 8 * h + q by omega]; exact hw q (by omega)]
        refine x_goto 94 dX12_look_89 (by decide) ?_
        refine x_istore (lv2 := [(5, _), (0, _), (1, _), (2, _), (3, _), (4, _), (6, _)]) dX12_look_94 (by decide) rfl ?_
        refine x_iinc (lv2 := [(6, _), (5, _), (0, _), (1, _), (2, _), (3, _), (4, _)]) dX12_look_96 rfl (by decide) rfl ?_
        refine x_goto 51 dX12_look_99 (by decide) ?_
        refine x_sub [2, 3, 4, 5, 6, 1, 0] rfl ?_
        have h9 := ih (8 - (q + 1)) (by omega) (q + 1) (by omega) rfl
        rw [show ((q + 1 : Nat) : Int) = (q : Int) + 1 from rfl, es] at h9
        first
        | (rw [if_pos (by omega)] at h9; exact h9)
        | (rw [if_neg (by omega)] at h9; exact h9)
theorem lp_look {e : Int} {H : Nat} (cs : CS S R) (hb : BA A) (h6 : H ≤ 6) (hA : I 307 = A) (hH : A 4 = (H : Int)) (h36 : I 306 36 = wbA (ftA A e) H 0) (hwb : 1 < wbA (ftA A e) H 0 ∧ wbA (ftA A e) H 0 ≤ 262144) (hw : ∀ h, h < H → ∀ q, q < 8 → I 322 (8 * h + q) = wwK (ftA A e) H h q 256 ∧ wwK (ftA A e) H h q 256 ≤ 262144) (hp : Post (some (.int (iI (wlK (ftA A e) H H).1))) S I R) : ∀ (d h : Nat) (le : Int), h ≤ H → H - h = d → ((wlK (ftA A e) H h).1 = -1 ∧ le = 1000000 ∨ (wlK (ftA A e) H h).1 ≠ -1 ∧ le = (wlK (ftA A e) H h).2) → WP n 0 0 mX12_look Post 26 [(0, .ref (S.2.1 306)), (1, .int (iI e)), (2, .int (iI (wlK (ftA A e) H h).1)), (3, .int (iI le)), (4, .int (iI (h : Int)))] [] 0 0 S I R := by
  have hft : ∀ h, ftA A e h < 256 := fun h => ftA_lt hb
  intro d
  induction d using Nat.strongRecOn with
  | ind d ih =>
    intro h le h1 h2 hle
    have wb := wlK_b (H := H) hft h6 h h1
    have es : wlK (ftA A e) H (h + 1) = if (wlK (ftA A e) H h).1 = -1 ∨ mlK (ftA A e) H h 8 < (wlK (ftA A e) H h).2 then ((h : Int), mlK (ftA A e) H h 8) else wlK (ftA A e) H h := rfl
    refine x_iload dX12_look_26 rfl ?_
    refine x_aload_n dX12_look_28 rfl ?_
    refine x_getR (b := 307) dX12_look_29 gf_RX12_7 (k_ob_306 cs) (fun _ _ => rfl) (k_r_306_0 cs) ?_
    refine x_iconst dX12_look_32 ?_
    refine x_ald7 (kk := 4) (v := A 4) dX12_look_33 cs (by omega) (by omega) (by rw [hA]; repeat (first | rfl | rw [upA_s] | rw [upA_o (by omega)])) ?_
    refine x_icmp_ge 123 dX12_look_34 (by decide) ⟨(by omega), (by omega)⟩ (fun w34 => ?_) (fun w34 => ?_)
    · refine x_iload_n dX12_look_123 rfl ?_
      exact x_ireturn dX12_look_124 rfl (by omega) (by omega) (by obtain rfl : h = H := (by omega); exact hp)
    · refine x_aload_n dX12_look_37 rfl ?_
      refine x_getIv (z := wbA (ftA A e) H 0) dX12_look_38 gf_RX12_467 (k_ob_306 cs) (fun _ _ => rfl) (by exact h36) ?_
      refine x_iconst dX12_look_41 ?_
      refine x_icmp_le 123 dX12_look_42 (by decide) ⟨(by omega), (by omega)⟩ (fun w42 => ?_) (fun w42 => ?_)
      · exfalso; omega
      · refine x_iconst dX12_look_45 ?_
        refine x_istore (lv2 := [(5, _), (0, _), (1, _), (2, _), (3, _), (4, _)]) dX12_look_46 (by decide) rfl ?_
        refine x_iconst dX12_look_48 ?_
        refine x_istore (lv2 := [(6, _), (5, _), (0, _), (1, _), (2, _), (3, _), (4, _)]) dX12_look_49 (by decide) rfl ?_
        refine x_sub [2, 3, 4, 5, 6, 1, 0] rfl ?_
        have mb := mlK_b (H := H) (h := h) hft (by omega) h6 8 (by omega)
        have ml := ml_le (ft := ftA A e) (H := H) (h := h) (B := 262144) (by omega) 8 (fun z hz => (hw h (by omega) z hz).2)
        refine lp_look1 (e := e) (H := H) (h := h) (fd := (wlK (ftA A e) H h).1) (le := le) cs hb h6 (by omega) (fun q hq => (hw h (by omega) q hq).1) ?_ 8 0 (by omega) rfl
        refine x_iload dX12_look_102 rfl ?_
        refine x_iload_n dX12_look_104 rfl ?_
        refine x_icmp_lt 111 dX12_look_105 (by decide) ⟨(by omega), (by omega)⟩ (fun w105 => ?_) (fun w105 => ?_)
        · refine x_iload dX12_look_111 rfl ?_
          refine x_istore_n (lv2 := [(3, _), (0, _), (1, _), (2, _), (4, _), (5, _)]) dX12_look_113 (by decide) rfl ?_
          refine x_iload dX12_look_114 rfl ?_
          refine x_istore_n (lv2 := [(2, _), (3, _), (0, _), (1, _), (4, _), (5, _)]) dX12_look_116 (by decide) rfl ?_
          refine x_iinc (lv2 := [(4, _), (2, _), (3, _), (0, _), (1, _), (5, _)]) dX12_look_117 rfl (by decide) rfl ?_
          refine x_goto 26 dX12_look_120 (by decide) ?_
          refine x_sub [3, 4, 1, 2, 0] rfl ?_
          first
          | (have h9 := ih (H - (h + 1)) (by omega) (h + 1) (mlK (ftA A e) H h 8) (by omega) rfl (by rw [es, if_pos (by omega)]; right; dsimp only; omega)
             rw [es, if_pos (by omega)] at h9
             exact h9)
          | (have h9 := ih (H - (h + 1)) (by omega) (h + 1) le (by omega) rfl (by rw [es, if_neg (by omega)]; exact hle)
             rw [es, if_neg (by omega)] at h9
             exact h9)
        · refine x_goto 117 dX12_look_108 (by decide) ?_
          refine x_iinc (lv2 := [(4, _), (0, _), (1, _), (2, _), (3, _), (5, _)]) dX12_look_117 rfl (by decide) rfl ?_
          refine x_goto 26 dX12_look_120 (by decide) ?_
          refine x_sub [1, 2, 3, 4, 0] rfl ?_
          first
          | (have h9 := ih (H - (h + 1)) (by omega) (h + 1) (mlK (ftA A e) H h 8) (by omega) rfl (by rw [es, if_pos (by omega)]; right; dsimp only; omega)
             rw [es, if_pos (by omega)] at h9
             exact h9)
          | (have h9 := ih (H - (h + 1)) (by omega) (h + 1) le (by omega) rfl (by rw [es, if_neg (by omega)]; exact hle)
             rw [es, if_neg (by omega)] at h9
             exact h9)
theorem sp_X12_look {e : Int} (cs : CS S R) (hb : BA A) (hn : 4 ≤ n) (hA : I 307 = A) (he : Rg e) (hp : ∀ J, Fhg I J → Post (some (.int (iI (f_look A e)))) S J R) : Call n 0 0 mX12_look [.ref (S.2.1 306), .int (iI e)] S I R Post := by
  have b4 := hb.2.1.2.2.2.1
  have hft : ∀ h, ftA A e h < 256 := fun h => ftA_lt hb
  obtain ⟨H, hH⟩ : ∃ H : Nat, A 4 = (H : Int) := ⟨(A 4).toNat, by omega⟩
  have hlen := hg_len hb (e := e) (H := H) (by omega)
  have hHt : (A 4).toNat = H := by omega
  have ev : ∀ (J : CI) (v : Int), Fhg I J → f_look A e = v → Post (some (.int (iI v))) S J R := fun J v h1 h2 => by rw [← h2]; exact hp J h1
  refine Call.of (by decide +kernel) (Nat.le_of_ble_eq_true rfl) ?_
  show WP _ _ _ _ _ 0 [(0, _), (1, _)] [] 0 0 _ _ _
  refine x_iload_n dX12_look_0 rfl ?_
  refine x_iconst dX12_look_1 ?_
  refine x_bipush dX12_look_2 (by decide) ?_
  refine x_callS3 (mc1 := 0) (ms1 := 0) dX12_look_4 cv_RX12_81 (Nat.le_of_ble_eq_true rfl) (n1 := n - 1) (by omega) (by omega) (by omega) ?_
  refine sp_X12_isIn (by omega) (by omega) (by omega) (fun r4 hr4 => ?_)
  refine x_if_ne 12 dX12_look_7 (by decide) (by omega) (fun w7 => ?_) (fun w7 => ?_)
  · refine x_aload_n dX12_look_12 rfl ?_
    refine x_iload_n dX12_look_13 rfl ?_
    refine x_callV1 (mc1 := 0) (ms1 := 0) dX12_look_14 cv_RX12_476 (ci := 12) (k_ob_306 cs) rfl (Nat.le_of_ble_eq_true rfl) (n1 := n - 1) (by omega) (by omega) (by omega) ?_
    refine sp_X12_layHung (e := e) (H := H) (A := A) cs hb (by omega) hA hH (by omega) (fun J14 f14 n14 => ?_)
    have a14 : J14 307 = A := by rw [f14.1 307 (by omega) (by omega) (by omega) (by omega)]; exact hA
    have w14 : J14 306 36 = wbA (ftA A e) H 0 := by rw [n14.1]; exact hlen.1
    have o14 : ∀ h, h < H → ∀ q, q < 8 → J14 322 (8 * h + q) = wwK (ftA A e) H h q 256 ∧ wwK (ftA A e) H h q 256 ≤ 262144 := fun h hh q hq => by
      have g1 := n14.2.2 h hh q hq
      have g2 := often_ww (H := H) hft hq hh
      have g3 := cntL_b (h := h) (q := q) (cpp (ftA A e) H 0 0 [])
      exact ⟨g1.trans g2, by omega⟩
    refine x_iconst dX12_look_17 ?_
    refine x_istore_n (lv2 := [(2, _), (0, _), (1, _)]) dX12_look_18 (by decide) rfl ?_
    refine x_ldcw (z := 1000000) dX12_look_19 (bw_in (lwt_9 (List.mem_of_getElem? (i := 2) (by decide +kernel))) (by decide +kernel)) ?_
    refine x_istore_n (lv2 := [(3, _), (2, _), (0, _), (1, _)]) dX12_look_22 (by decide) rfl ?_
    refine x_iconst dX12_look_23 ?_
    refine x_istore (lv2 := [(4, _), (3, _), (2, _), (0, _), (1, _)]) dX12_look_24 (by decide) rfl ?_
    refine x_sub [3, 4, 2, 1, 0] rfl ?_
    by_cases hone : wbA (ftA A e) H 0 ≤ 1
    · have hv : f_look A e = -1 := by
        unfold f_look lookP
        rw [if_pos (by omega), hHt, if_pos hone]
      have hq := ev J14 _ f14 hv
      refine x_iload dX12_look_26 rfl ?_
      refine x_aload_n dX12_look_28 rfl ?_
      refine x_getR (b := 307) dX12_look_29 gf_RX12_7 (k_ob_306 cs) (fun _ _ => rfl) (k_r_306_0 cs) ?_
      refine x_iconst dX12_look_32 ?_
      refine x_ald7 (kk := 4) (v := A 4) dX12_look_33 cs (by omega) (by omega) (by rw [a14]; repeat (first | rfl | rw [upA_s] | rw [upA_o (by omega)])) ?_
      refine x_icmp_ge 123 dX12_look_34 (by decide) ⟨(by omega), (by omega)⟩ (fun w34 => ?_) (fun w34 => ?_)
      · refine x_iload_n dX12_look_123 rfl ?_
        exact x_ireturn dX12_look_124 rfl (by omega) (by omega) (hq)
      · refine x_aload_n dX12_look_37 rfl ?_
        refine x_getIv (z := wbA (ftA A e) H 0) dX12_look_38 gf_RX12_467 (k_ob_306 cs) (fun _ _ => rfl) (by exact w14) ?_
        refine x_iconst dX12_look_41 ?_
        refine x_icmp_le 123 dX12_look_42 (by decide) ⟨(by omega), (by omega)⟩ (fun w42 => ?_) (fun w42 => ?_)
        · refine x_iload_n dX12_look_123 rfl ?_
          exact x_ireturn dX12_look_124 rfl (by omega) (by omega) (hq)
        · exfalso; omega
    · have hv : f_look A e = (wlK (ftA A e) H H).1 := by
        unfold f_look lookP
        rw [if_pos (by omega), hHt, if_neg hone]
      exact lp_look (I := J14) (e := e) (H := H) cs hb (by omega) a14 hH w14 (by omega) o14 (ev J14 _ f14 hv) H 0 1000000 (by omega) rfl (Or.inl ⟨rfl, rfl⟩)
  · refine x_iconst dX12_look_10 ?_
    exact x_ireturn dX12_look_11 rfl (by omega) (by omega) (by
  refine ev I _ Fhg.rf ?_
  unfold f_look; rw [if_neg (by omega)])
end Hg4s
