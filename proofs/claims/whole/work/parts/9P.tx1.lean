section Tx1s
variable {n mc ms : Nat} {M : Md} {pc : Nat} {lv : List (Nat × Value)} {st : List Value} {k j : Nat} {Post : PT} {S : Sh} {I : CI} {R : CR} {A : Nat → Int} {tx : Nat → Nat → Int}
/-- S2 has all the cells of S, and more -/
def Gr (S S2 : Sh) : Prop := S.1 ≤ S2.1 ∧ ∀ a, a < S.1 → S2.2.1 a = S.2.1 a ∧ S2.2.2.1 a = S.2.2.1 a ∧ S2.2.2.2.1 a = S.2.2.2.1 a
theorem Gr.rf : Gr S S := ⟨Nat.le_refl _, fun _ _ => ⟨rfl, rfl, rfl⟩⟩
theorem Gr.tr {S2 S3 : Sh} (h : Gr S S2) (h2 : Gr S2 S3) : Gr S S3 := ⟨Nat.le_trans h.1 h2.1, fun a ha => by
  have h3 := h.2 a ha
  have h4 := h2.2 a (Nat.lt_of_lt_of_le ha h.1)
  exact ⟨h4.1.trans h3.1, h4.2.1.trans h3.2.1, h4.2.2.trans h3.2.2⟩⟩
theorem Nw.gr {S2 : Sh} {kd N : Nat} (h : Nw S S2 kd N) : Gr S S2 := ⟨by rw [h.1]; omega, fun a ha => h.2.1 a (by omega)⟩
theorem Gr.ob {S2 : Sh} {a ci : Nat} (h : Gr S S2) (hb : OB S a ci) : OB S2 a ci := ⟨Nat.lt_of_lt_of_le hb.1 h.1, by rw [(h.2 a hb.1).2.1]; exact hb.2⟩
theorem Gr.ar {S2 : Sh} {a ci N : Nat} (h : Gr S S2) (hb : AR S a ci N) : AR S2 a ci N := ⟨Nat.lt_of_lt_of_le hb.1 h.1, by rw [(h.2 a hb.1).2.1]; exact hb.2.1, by rw [(h.2 a hb.1).2.2]; exact hb.2.2⟩
theorem Gr.ad {S2 : Sh} {a : Nat} (h : Gr S S2) (ha : a < S.1) : S2.2.1 a = S.2.1 a := (h.2 a ha).1
theorem ob_lt {a ci : Nat} (h : OB S a ci) : a < S.1 := h.1
theorem ar_lt {a ci N : Nat} (h : AR S a ci N) : a < S.1 := h.1
theorem Gr.cs {S2 : Sh} {R2 : CR} (h : Gr S S2) (cs : CS S R) (hR : ∀ a, a < 325 → R2 a = R a) : CS S2 R2 := by
  obtain ⟨h1, h2, h3, h4, h5, h6⟩ := cs
  have hst : ∀ a, a < 300 → ST S R a → ST S2 R2 a := by
    intro a ha hs
    obtain ⟨s1, s2, s3, s4, s5, s6, s7⟩ := hs
    exact ⟨h.ob s1, by rw [hR a (by omega)]; exact s2, by rw [hR a (by omega)]; exact s3, by rw [hR a (by omega)]; exact s4, h.ar s5, h.ar s6, h.ar s7⟩
  refine ⟨fun e he => h.ob (h1 e he), fun e he => h.ar (h2 e he), fun e he => ?_, fun i hi => ?_, fun i hi => ?_, Nat.le_trans h6 h.1⟩
  · have hb : ∀ e ∈ rfL, e.1 < 325 := by decide
    rw [hR _ (hb e he)]; exact h3 e he
  · rw [hR 10 (by omega)]
    exact ⟨(h4 i hi).1, hst _ (by omega) (h4 i hi).2⟩
  · rw [hR 149 (by omega)]
    exact ⟨(h5 i hi).1, hst _ (by omega) (h5 i hi).2⟩
theorem dJ7_copyOf_59c91_0 : decode prog_23_method_123_code 0 = .ok (.iload_n 1, 1) := by decide +kernel
theorem dJ7_copyOf_59c91_1 : decode prog_23_method_123_code 1 = .ok (.aload_n 0, 1) := by decide +kernel
theorem dJ7_copyOf_59c91_2 : decode prog_23_method_123_code 2 = .ok (.arraylength, 1) := by decide +kernel
theorem dJ7_copyOf_59c91_3 : decode prog_23_method_123_code 3 = .ok (.if_icmp .ne 11, 3) := by decide +kernel
theorem dJ7_copyOf_59c91_6 : decode prog_23_method_123_code 6 = .ok (.aload_n 0, 1) := by decide +kernel
theorem dJ7_copyOf_59c91_7 : decode prog_23_method_123_code 7 = .ok (.invokevirtual 316, 3) := by decide +kernel
theorem dJ7_copyOf_59c91_10 : decode prog_23_method_123_code 10 = .ok (.checkcast 317, 3) := by decide +kernel
theorem dJ7_copyOf_59c91_13 : decode prog_23_method_123_code 13 = .ok (.areturn, 1) := by decide +kernel
theorem dJ7_copyOf_59c91_14 : decode prog_23_method_123_code 14 = .ok (.iload_n 1, 1) := by decide +kernel
theorem dJ7_copyOf_59c91_15 : decode prog_23_method_123_code 15 = .ok (.newarray .int, 2) := by decide +kernel
theorem dJ7_copyOf_59c91_17 : decode prog_23_method_123_code 17 = .ok (.astore_n 2, 1) := by decide +kernel
theorem dJ7_copyOf_59c91_18 : decode prog_23_method_123_code 18 = .ok (.aload_n 0, 1) := by decide +kernel
theorem dJ7_copyOf_59c91_19 : decode prog_23_method_123_code 19 = .ok (.iconst 0, 1) := by decide +kernel
theorem dJ7_copyOf_59c91_20 : decode prog_23_method_123_code 20 = .ok (.aload_n 2, 1) := by decide +kernel
theorem dJ7_copyOf_59c91_21 : decode prog_23_method_123_code 21 = .ok (.iconst 0, 1) := by decide +kernel
theorem dJ7_copyOf_59c91_22 : decode prog_23_method_123_code 22 = .ok (.aload_n 0, 1) := by decide +kernel
theorem dJ7_copyOf_59c91_23 : decode prog_23_method_123_code 23 = .ok (.arraylength, 1) := by decide +kernel
theorem dJ7_copyOf_59c91_24 : decode prog_23_method_123_code 24 = .ok (.iload_n 1, 1) := by decide +kernel
theorem dJ7_copyOf_59c91_25 : decode prog_23_method_123_code 25 = .ok (.invokestatic 304, 3) := by decide +kernel
theorem dJ7_copyOf_59c91_28 : decode prog_23_method_123_code 28 = .ok (.invokestatic 150, 3) := by decide +kernel
theorem dJ7_copyOf_59c91_31 : decode prog_23_method_123_code 31 = .ok (.aload_n 2, 1) := by decide +kernel
theorem dJ7_copyOf_59c91_32 : decode prog_23_method_123_code 32 = .ok (.areturn, 1) := by decide +kernel
theorem cw_J7_150 : Cond.methodLink RJ7 150 arraycopyName ∈ bigW ∧ Cond.native arraycopyName ∈ bigW ∧ Cond.static arraycopyName ∈ bigW ∧ Cond.initialized "java/lang/System" ∈ bigW := ⟨bw_in (lwt_4 (List.mem_of_getElem? (i := 24) rfl)) rfl, bw_in (lwt_2 (List.mem_of_getElem? (i := 196) rfl)) rfl, bw_in (lwt_2 (List.mem_of_getElem? (i := 195) rfl)) rfl, bw_in (lwt_1 (List.mem_of_getElem? (i := 12) rfl)) rfl⟩
theorem sp_copyOf {a N L : Nat} (hn : 2 ≤ n) (hA : AR S a 13 N) (hN : N ≤ 300) (hL : L ≤ N) (hrb : RB S R) (hp : ∀ (S2 : Sh) (J : CI), Nw S S2 13 L → (∀ x, x ≠ S.1 → J x = I x) → (∀ i, i < L → J S.1 i = I a i) → Post (some (.ref (S2.2.1 S.1))) S2 J (zR R S.1)) : Call n 1 L mJ7_copyOf_59c91 [.ref (S.2.1 a), .int (iI (L : Int))] S I R Post := by
  have hne : a ≠ S.1 := by have := hA.1; omega
  refine Call.of (by decide +kernel) (Nat.le_of_ble_eq_true rfl) ?_
  show WP _ _ _ _ _ 0 [(0, _), (1, _)] [] 0 0 _ _ _
  refine x_iload_n dJ7_copyOf_59c91_0 rfl ?_
  refine x_aload_n dJ7_copyOf_59c91_1 rfl ?_
  refine x_alen dJ7_copyOf_59c91_2 (by first | exact hA | exact hA2) ?_
  refine x_icmp_ne 14 dJ7_copyOf_59c91_3 (by decide) ⟨(by omega), (by omega)⟩ (fun w3 => ?_) (fun w3 => ?_)
  · refine x_iload_n dJ7_copyOf_59c91_14 rfl ?_
    refine x_newai dJ7_copyOf_59c91_15 rfl (by omega) hrb (by omega) (by omega) (fun S2 nw => ?_)
    have hA2 := Nw.ar nw hA
    have hN2 := Nw.nar nw
    rw [← (nw.2.1 a hne).1]
    refine x_astore_n (lv2 := [(2, _), (0, _), (1, _)]) dJ7_copyOf_59c91_17 (by decide) rfl ?_
    refine x_aload_n dJ7_copyOf_59c91_18 rfl ?_
    refine x_iconst dJ7_copyOf_59c91_19 ?_
    refine x_aload_n dJ7_copyOf_59c91_20 rfl ?_
    refine x_iconst dJ7_copyOf_59c91_21 ?_
    refine x_aload_n dJ7_copyOf_59c91_22 rfl ?_
    refine x_alen dJ7_copyOf_59c91_23 (by first | exact hA | exact hA2) ?_
    refine x_iload_n dJ7_copyOf_59c91_24 rfl ?_
    refine x_mmin dJ7_copyOf_59c91_25 cv_RJ7_304 (by omega) (Nat.le_of_ble_eq_true rfl) (by omega) (by omega) (by omega) (fun r25 hr25 => ?_)
    refine x_copyi (a := a) (b := S.1) dJ7_copyOf_59c91_28 cw_J7_150 (by omega) (Nat.le_of_ble_eq_true rfl) (N0 := N) (N1 := L) hA2 hN2 (by omega) (by omega) (by omega) ?_
    refine x_aload_n dJ7_copyOf_59c91_31 rfl ?_
    exact x_areturn dJ7_copyOf_59c91_32 rfl (by first | exact Or.inl ⟨_, rfl⟩ | exact Or.inr ⟨_, rfl⟩) (by first | exact Or.inr ⟨_, rfl⟩ | exact Or.inl rfl) (by omega) (by omega) (by first
 | exact hp S2 _ nw (fun x hx => clI_o hx) (fun i hi => clI_s _ _ _ _)
 | (refine hp S2 _ nw (fun x hx => ?_) (fun i hi => ?_)
    · funext q; rw [cpI_o hx, zI_o hx]
    · rw [cpI_s (by omega), zI_o hne]
      congr 1
      omega))
  · refine x_aload_n dJ7_copyOf_59c91_6 rfl ?_
    obtain rfl : L = N := by omega
    refine x_clone dJ7_copyOf_59c91_7 (bw_in (lwt_4 (List.mem_of_getElem? (i := 16) rfl)) rfl) hA hrb (by omega) (Nat.le_of_ble_eq_true rfl) (by omega) (by omega) (fun S2 nw => ?_)
    refine x_castI dJ7_copyOf_59c91_10 (bw_in (lwt_4 (List.mem_of_getElem? (i := 22) rfl)) rfl) (Nw.nar nw) ?_
    exact x_areturn dJ7_copyOf_59c91_13 rfl (by first | exact Or.inl ⟨_, rfl⟩ | exact Or.inr ⟨_, rfl⟩) (by first | exact Or.inr ⟨_, rfl⟩ | exact Or.inl rfl) (by omega) (by omega) (by first
 | exact hp S2 _ nw (fun x hx => clI_o hx) (fun i hi => clI_s _ _ _ _)
 | (refine hp S2 _ nw (fun x hx => ?_) (fun i hi => ?_)
    · funext q; rw [cpI_o hx, zI_o hx]
    · rw [cpI_s (by omega), zI_o hne]
      congr 1
      omega))
theorem dX8_init_0 : decode prog_10_method_1_code 0 = .ok (.aload_n 0, 1) := by decide +kernel
theorem dX8_init_1 : decode prog_10_method_1_code 1 = .ok (.invokespecial 3, 3) := by decide +kernel
theorem dX8_init_4 : decode prog_10_method_1_code 4 = .ok (.aload_n 0, 1) := by decide +kernel
theorem dX8_init_5 : decode prog_10_method_1_code 5 = .ok (.aload_n 1, 1) := by decide +kernel
theorem dX8_init_6 : decode prog_10_method_1_code 6 = .ok (.getfield 9, 3) := by decide +kernel
theorem dX8_init_9 : decode prog_10_method_1_code 9 = .ok (.aload_n 1, 1) := by decide +kernel
theorem dX8_init_10 : decode prog_10_method_1_code 10 = .ok (.getfield 15, 3) := by decide +kernel
theorem dX8_init_13 : decode prog_10_method_1_code 13 = .ok (.invokestatic 19, 3) := by decide +kernel
theorem dX8_init_16 : decode prog_10_method_1_code 16 = .ok (.putfield 25, 3) := by decide +kernel
theorem dX8_init_19 : decode prog_10_method_1_code 19 = .ok (.aload_n 0, 1) := by decide +kernel
theorem dX8_init_20 : decode prog_10_method_1_code 20 = .ok (.aload_n 1, 1) := by decide +kernel
theorem dX8_init_21 : decode prog_10_method_1_code 21 = .ok (.getfield 28, 3) := by decide +kernel
theorem dX8_init_24 : decode prog_10_method_1_code 24 = .ok (.aload_n 1, 1) := by decide +kernel
theorem dX8_init_25 : decode prog_10_method_1_code 25 = .ok (.getfield 31, 3) := by decide +kernel
theorem dX8_init_28 : decode prog_10_method_1_code 28 = .ok (.iconst 4, 1) := by decide +kernel
theorem dX8_init_29 : decode prog_10_method_1_code 29 = .ok (.imul, 1) := by decide +kernel
theorem dX8_init_30 : decode prog_10_method_1_code 30 = .ok (.invokestatic 19, 3) := by decide +kernel
theorem dX8_init_33 : decode prog_10_method_1_code 33 = .ok (.putfield 34, 3) := by decide +kernel
theorem dX8_init_36 : decode prog_10_method_1_code 36 = .ok (.aload_n 0, 1) := by decide +kernel
theorem dX8_init_37 : decode prog_10_method_1_code 37 = .ok (.aload_n 1, 1) := by decide +kernel
theorem dX8_init_38 : decode prog_10_method_1_code 38 = .ok (.getfield 31, 3) := by decide +kernel
theorem dX8_init_41 : decode prog_10_method_1_code 41 = .ok (.putfield 35, 3) := by decide +kernel
theorem dX8_init_44 : decode prog_10_method_1_code 44 = .ok (.aload_n 0, 1) := by decide +kernel
theorem dX8_init_45 : decode prog_10_method_1_code 45 = .ok (.aload_n 1, 1) := by decide +kernel
theorem dX8_init_46 : decode prog_10_method_1_code 46 = .ok (.getfield 36, 3) := by decide +kernel
theorem dX8_init_49 : decode prog_10_method_1_code 49 = .ok (.putfield 39, 3) := by decide +kernel
theorem dX8_init_52 : decode prog_10_method_1_code 52 = .ok (.aload_n 0, 1) := by decide +kernel
theorem dX8_init_53 : decode prog_10_method_1_code 53 = .ok (.aload_n 1, 1) := by decide +kernel
theorem dX8_init_54 : decode prog_10_method_1_code 54 = .ok (.getfield 40, 3) := by decide +kernel
theorem dX8_init_57 : decode prog_10_method_1_code 57 = .ok (.putfield 43, 3) := by decide +kernel
theorem dX8_init_60 : decode prog_10_method_1_code 60 = .ok (.aload_n 0, 1) := by decide +kernel
theorem dX8_init_61 : decode prog_10_method_1_code 61 = .ok (.aload_n 1, 1) := by decide +kernel
theorem dX8_init_62 : decode prog_10_method_1_code 62 = .ok (.getfield 44, 3) := by decide +kernel
theorem dX8_init_65 : decode prog_10_method_1_code 65 = .ok (.putfield 47, 3) := by decide +kernel
theorem dX8_init_68 : decode prog_10_method_1_code 68 = .ok (.aload_n 0, 1) := by decide +kernel
theorem dX8_init_69 : decode prog_10_method_1_code 69 = .ok (.aload_n 1, 1) := by decide +kernel
theorem dX8_init_70 : decode prog_10_method_1_code 70 = .ok (.getfield 48, 3) := by decide +kernel
theorem dX8_init_73 : decode prog_10_method_1_code 73 = .ok (.putfield 51, 3) := by decide +kernel
theorem dX8_init_76 : decode prog_10_method_1_code 76 = .ok (.return_, 1) := by decide +kernel
/-- what the reader holds, as a text's row -/
def txO (J : CI) : Nat → Int := fun i => if i = 0 then J 287 7 else if i ≤ 4 then J 287 (7 + i) else if i = 5 then J 287 6 else if i < 106 then J 290 (i - 6) else J 289 (i - 106)
theorem txO_c {J : CI} {i : Nat} (h : i < 100) : txO J (6 + i) = J 290 i := by
  unfold txO
  rw [if_neg (by omega), if_neg (by omega), if_neg (by omega), if_pos (by omega)]
  congr 1
  omega
theorem txO_d {J : CI} {i : Nat} : txO J (106 + i) = J 289 i := by
  unfold txO
  rw [if_neg (by omega), if_neg (by omega), if_neg (by omega), if_neg (by omega)]
  congr 1
  omega
theorem sp_X8_init {b c1 c2 : Nat} (cs : CS S R) (hn : 4 ≤ n) (hb : OB S b 8) (hbl : 325 ≤ b) (hs : S.1 = b + 1) (hrb : RB S R) (h6 : I 287 6 = (c1 : Int) ∧ c1 ≤ 300) (h7 : I 287 7 = (c2 : Int) ∧ c2 ≤ 24) (hp : ∀ (S2 : Sh) (J : CI) (R2 : CR), Gr S S2 → S2.1 = b + 3 → RB S2 R2 → (∀ a, a < b → J a = I a ∧ R2 a = R a) → TXr S2 R2 J b (txO I) → Post none S2 J R2) : Call n 2 396 mX8_init [.ref (S.2.1 b), .ref (S.2.1 287)] S I R Post := by
  refine Call.of (by decide +kernel) (Nat.le_of_ble_eq_true rfl) ?_
  show WP _ _ _ _ _ 0 [(0, _), (1, _)] [] 0 0 _ _ _
  refine x_aload_n dX8_init_0 rfl ?_
  refine x_objInit dX8_init_1 oi_RX8_3 (by omega) (Nat.le_of_ble_eq_true rfl) ?_
  refine x_aload_n dX8_init_4 rfl ?_
  refine x_aload_n dX8_init_5 rfl ?_
  refine x_getR dX8_init_6 gf_RX8_9 (by first | exact k_ob_287 cs | exact k_ob_287 cs2 | exact k_ob_287 cs3 | exact hb3 | exact hb2) (fun _ _ => rfl) (by first | exact k_r_287_1 cs | exact k_r_287_2 cs2) ?_
  refine x_aload_n dX8_init_9 rfl ?_
  refine x_getIv (z := (c1 : Int)) dX8_init_10 gf_RX8_15 (by first | exact k_ob_287 cs | exact k_ob_287 cs2 | exact k_ob_287 cs3 | exact hb3 | exact hb2) (fun _ _ => rfl) (by first | exact h6.1 | (rw [j13 287 (by omega)]; exact h7.1) | ((repeat rw [uI_o (by omega)]); rw [j30 287 (by omega), j13 287 (by omega)]; rfl)) ?_
  refine x_callS2 (mc1 := 1) (ms1 := c1) dX8_init_13 cv_RX8_19 (Nat.le_of_ble_eq_true rfl) (n1 := n - 1) (by omega) (by omega) (by omega) ?_
  refine sp_copyOf (a := 289) (N := 300) (L := c1) (by omega) (k_ar_289 cs) (by omega) (by omega) hrb (fun S2 J13 nw2 j13 v13 => ?_)
  have g2 := Nw.gr nw2
  have l2 : S2.1 = b + 2 := by rw [nw2.1]; omega
  have hb2 := g2.ob hb
  have cs2 := g2.cs (R2 := uR (zR R S.1) b 0 (some S.1)) cs (fun a ha => by rw [uR_row (by omega), zR_o (by omega)])
  have rb2 : RB S2 (uR (zR R S.1) b 0 (some S.1)) := RB.ur (RB.zr hrb g2.1 S.1) (fun q hq => by have h9 := Option.some.inj hq; omega)
  rw [← g2.ad hb.1, ← g2.ad (a := 287) (by omega)]
  refine x_putRF dX8_init_16 gf_RX8_25 (by first | exact k_ob_287 cs | exact k_ob_287 cs2 | exact k_ob_287 cs3 | exact hb3 | exact hb2) rfl (fun _ _ => rfl) (fun _ => rfl) (fun _ => rfl) rfl rfl ?_
  refine x_aload_n dX8_init_19 rfl ?_
  refine x_aload_n dX8_init_20 rfl ?_
  refine x_getR dX8_init_21 gf_RX8_28 (by first | exact k_ob_287 cs | exact k_ob_287 cs2 | exact k_ob_287 cs3 | exact hb3 | exact hb2) (fun _ _ => rfl) (by first | exact k_r_287_1 cs | exact k_r_287_2 cs2) ?_
  refine x_aload_n dX8_init_24 rfl ?_
  refine x_getIv (z := (c2 : Int)) dX8_init_25 gf_RX8_31 (by first | exact k_ob_287 cs | exact k_ob_287 cs2 | exact k_ob_287 cs3 | exact hb3 | exact hb2) (fun _ _ => rfl) (by first | exact h6.1 | (rw [j13 287 (by omega)]; exact h7.1) | ((repeat rw [uI_o (by omega)]); rw [j30 287 (by omega), j13 287 (by omega)]; rfl)) ?_
  refine x_iconst dX8_init_28 ?_
  refine x_imul dX8_init_29 ?_
  refine x_callS2 (mc1 := 1) (ms1 := 4 * c2) dX8_init_30 cv_RX8_19 (Nat.le_of_ble_eq_true rfl) (n1 := n - 1) (by omega) (by omega) (by omega) ?_
  rw [show (c2 : Int) * 4 = ((4 * c2 : Nat) : Int) by omega]
  refine sp_copyOf (a := 290) (N := 96) (L := 4 * c2) (by omega) (k_ar_290 cs2) (by omega) (by omega) rb2 (fun S3 J30 nw3 j30 v30 => ?_)
  have g3 := Nw.gr nw3
  have l3 : S3.1 = b + 3 := by rw [nw3.1]; omega
  have hb3 := g3.ob hb2
  have cs3 := g3.cs (R2 := uR (zR (uR (zR R S.1) b 0 (some S.1)) S2.1) b 1 (some S2.1)) cs2 (fun a ha => by rw [uR_row (by omega), zR_o (by omega)])
  have rb3 : RB S3 (uR (zR (uR (zR R S.1) b 0 (some S.1)) S2.1) b 1 (some S2.1)) := RB.ur (RB.zr rb2 g3.1 S2.1) (fun q hq => by have h9 := Option.some.inj hq; omega)
  rw [← g3.ad hb2.1, ← g3.ad (a := 287) (by omega)]
  refine x_putRF dX8_init_33 gf_RX8_34 (by first | exact k_ob_287 cs | exact k_ob_287 cs2 | exact k_ob_287 cs3 | exact hb3 | exact hb2) rfl (fun _ _ => rfl) (fun _ => rfl) (fun _ => rfl) rfl rfl ?_
  refine x_aload_n dX8_init_36 rfl ?_
  refine x_aload_n dX8_init_37 rfl ?_
  refine x_getIv (z := txO I 0) dX8_init_38 gf_RX8_31 (by first | exact k_ob_287 cs | exact k_ob_287 cs2 | exact k_ob_287 cs3 | exact hb3 | exact hb2) (fun _ _ => rfl) (by first | exact h6.1 | (rw [j13 287 (by omega)]; exact h7.1) | ((repeat rw [uI_o (by omega)]); rw [j30 287 (by omega), j13 287 (by omega)]; rfl)) ?_
  refine x_putIF dX8_init_41 gf_RX8_35 (by first | exact k_ob_287 cs | exact k_ob_287 cs2 | exact k_ob_287 cs3 | exact hb3 | exact hb2) rfl rfl rfl ?_
  refine x_aload_n dX8_init_44 rfl ?_
  refine x_aload_n dX8_init_45 rfl ?_
  refine x_getIv (z := txO I 1) dX8_init_46 gf_RX8_36 (by first | exact k_ob_287 cs | exact k_ob_287 cs2 | exact k_ob_287 cs3 | exact hb3 | exact hb2) (fun _ _ => rfl) (by first | exact h6.1 | (rw [j13 287 (by omega)]; exact h7.1) | ((repeat rw [uI_o (by omega)]); rw [j30 287 (by omega), j13 287 (by omega)]; rfl)) ?_
  refine x_putIF dX8_init_49 gf_RX8_39 (by first | exact k_ob_287 cs | exact k_ob_287 cs2 | exact k_ob_287 cs3 | exact hb3 | exact hb2) rfl rfl rfl ?_
  refine x_aload_n dX8_init_52 rfl ?_
  refine x_aload_n dX8_init_53 rfl ?_
  refine x_getIv (z := txO I 2) dX8_init_54 gf_RX8_40 (by first | exact k_ob_287 cs | exact k_ob_287 cs2 | exact k_ob_287 cs3 | exact hb3 | exact hb2) (fun _ _ => rfl) (by first | exact h6.1 | (rw [j13 287 (by omega)]; exact h7.1) | ((repeat rw [uI_o (by omega)]); rw [j30 287 (by omega), j13 287 (by omega)]; rfl)) ?_
  refine x_putIF dX8_init_57 gf_RX8_43 (by first | exact k_ob_287 cs | exact k_ob_287 cs2 | exact k_ob_287 cs3 | exact hb3 | exact hb2) rfl rfl rfl ?_
  refine x_aload_n dX8_init_60 rfl ?_
  refine x_aload_n dX8_init_61 rfl ?_
  refine x_getIv (z := txO I 3) dX8_init_62 gf_RX8_44 (by first | exact k_ob_287 cs | exact k_ob_287 cs2 | exact k_ob_287 cs3 | exact hb3 | exact hb2) (fun _ _ => rfl) (by first | exact h6.1 | (rw [j13 287 (by omega)]; exact h7.1) | ((repeat rw [uI_o (by omega)]); rw [j30 287 (by omega), j13 287 (by omega)]; rfl)) ?_
  refine x_putIF dX8_init_65 gf_RX8_47 (by first | exact k_ob_287 cs | exact k_ob_287 cs2 | exact k_ob_287 cs3 | exact hb3 | exact hb2) rfl rfl rfl ?_
  refine x_aload_n dX8_init_68 rfl ?_
  refine x_aload_n dX8_init_69 rfl ?_
  refine x_getIv (z := txO I 4) dX8_init_70 gf_RX8_48 (by first | exact k_ob_287 cs | exact k_ob_287 cs2 | exact k_ob_287 cs3 | exact hb3 | exact hb2) (fun _ _ => rfl) (by first | exact h6.1 | (rw [j13 287 (by omega)]; exact h7.1) | ((repeat rw [uI_o (by omega)]); rw [j30 287 (by omega), j13 287 (by omega)]; rfl)) ?_
  refine x_putIF dX8_init_73 gf_RX8_51 (by first | exact k_ob_287 cs | exact k_ob_287 cs2 | exact k_ob_287 cs3 | exact hb3 | exact hb2) rfl rfl rfl ?_
  exact x_return dX8_init_76 rfl (by omega) (by omega) (by
  have e0 : txO I 5 = (c1 : Int) := h6.1
  have e7 : txO I 0 = (c2 : Int) := h7.1
  refine hp S3 _ _ (g2.tr g3) l3 rb3 (fun a ha => ⟨?_, ?_⟩) ⟨hbl, hb3, ?_, ?_, ?_, ?_, ?_, ?_, ⟨?_, ?_, ?_, ?_, ?_⟩, fun i hi => ?_, fun i hi => ?_⟩
  · rw [uI_row (by omega), uI_row (by omega), uI_row (by omega), uI_row (by omega), uI_row (by omega), j30 a (by omega), j13 a (by omega)]
  · rw [uR_row (by omega), zR_o (by omega), uR_row (by omega), zR_o (by omega)]
  · rw [uR_o (by omega), zR_o (by omega), uR_s, hs]
  · rw [uR_s, l2]
  · omega
  · omega
  · have h9 := g3.ar (Nw.nar nw2)
    rw [hs] at h9
    rw [e0]; exact h9
  · have h9 := Nw.nar nw3
    rw [l2] at h9
    rw [e7]; exact h9
  · rw [uI_o (by omega), uI_o (by omega), uI_o (by omega), uI_o (by omega), uI_s]
  · rw [uI_o (by omega), uI_o (by omega), uI_o (by omega), uI_s]
  · rw [uI_o (by omega), uI_o (by omega), uI_s]
  · rw [uI_o (by omega), uI_s]
  · rw [uI_s]
  · rw [txO_d, uI_row (by omega), uI_row (by omega), uI_row (by omega), uI_row (by omega), uI_row (by omega), j30 (b + 1) (by omega), ← hs, v13 i (by omega)]
  · rw [txO_c (by omega), uI_row (by omega), uI_row (by omega), uI_row (by omega), uI_row (by omega), uI_row (by omega), ← l2, v30 i (by omega), j13 290 (by omega)])
end Tx1s
