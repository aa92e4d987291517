section Ctor2
variable {n mc ms : Nat} {M : Md} {pc : Nat} {lv : List (Nat × Value)} {st : List Value} {k j : Nat} {Post : PT} {S : Sh} {I : CI} {R : CR} {A : Nat → Int} {tx : Nat → Nat → Int}
theorem x_nqputs {b kk ci N idx idx2 : Nat} {z : Int} {ty : FieldType} (d1 : decode M.2.1 pc = .ok (.anewarray idx2, 3)) (hlk : Cond.classLink M.1.cls idx2 RX6 ∈ bigW) (d2 : decode M.2.1 (pc + 3) = .ok (.putfield idx, 3)) (gf : GF M.1.cls idx ci kk true) (hb : OB S b ci) (hf : fty ci kk = ty) (hfv : ∀ z r, fv ty z r = va_rf r) (hnr : ∀ x, narrow ty (.ref x) = .ref x) (hft : ∀ x, fits ty (.ref x) = true) (hini : M.1.name = "<init>") (hdecl : vwCl[ci]?.map (fun q => q.1) = some M.1.cls) (hz : z = (N : Int)) (hN : N ≤ 100000) (hrb : RB S R) (hk : k + 1 ≤ mc) (hj : j + N ≤ ms) (h : ∀ (S2 : Sh) (J : CI) (R2 : CR), Gr S S2 → S2.1 = S.1 + 1 → RB S2 R2 → (∀ x, x < S.1 → J x = I x) → (∀ x q, x < S.1 → (x ≠ b ∨ q ≠ kk) → R2 x q = R x q) → R2 b kk = some S.1 → AR S2 S.1 16 N → (∀ q, R2 S.1 q = none) → WP n mc ms M Post (pc + 6) lv st (k + 1) (j + N) S2 J R2) : WP n mc ms M Post pc lv (.int (iI z) :: .ref (S.2.1 b) :: st) k j S I R := by
  have hb1 := hb.1
  refine x_newqs d1 hlk hz hN hrb hk hj (fun S2 nw => ?_)
  rw [← (nw.2.1 b (by omega)).1]
  refine x_putRF d2 gf (Nw.ob nw hb) hf hfv hnr hft hini hdecl ?_
  exact h S2 _ _ (Nw.gr nw) nw.1 (RB.ur (RB.zr hrb (Nw.gr nw).1 S.1) (fun q hq => by have h9 := Option.some.inj hq; have h8 := nw.1; omega)) (fun x hx => zI_o (by omega)) (fun x q h1 h2 => by rw [uR_o h2, zR_o (by omega)]) (uR_s _ _ _ _) (Nw.nar nw) (fun q => by rw [uR_o (by omega), zR_s])
theorem x_nqputt {b kk ci N idx idx2 : Nat} {z : Int} {ty : FieldType} (d1 : decode M.2.1 pc = .ok (.anewarray idx2, 3)) (hlk : Cond.classLink M.1.cls idx2 RX8 ∈ bigW) (d2 : decode M.2.1 (pc + 3) = .ok (.putfield idx, 3)) (gf : GF M.1.cls idx ci kk true) (hb : OB S b ci) (hf : fty ci kk = ty) (hfv : ∀ z r, fv ty z r = va_rf r) (hnr : ∀ x, narrow ty (.ref x) = .ref x) (hft : ∀ x, fits ty (.ref x) = true) (hini : M.1.name = "<init>") (hdecl : vwCl[ci]?.map (fun q => q.1) = some M.1.cls) (hz : z = (N : Int)) (hN : N ≤ 100000) (hrb : RB S R) (hk : k + 1 ≤ mc) (hj : j + N ≤ ms) (h : ∀ (S2 : Sh) (J : CI) (R2 : CR), Gr S S2 → S2.1 = S.1 + 1 → RB S2 R2 → (∀ x, x < S.1 → J x = I x) → (∀ x q, x < S.1 → (x ≠ b ∨ q ≠ kk) → R2 x q = R x q) → R2 b kk = some S.1 → AR S2 S.1 17 N → (∀ q, R2 S.1 q = none) → WP n mc ms M Post (pc + 6) lv st (k + 1) (j + N) S2 J R2) : WP n mc ms M Post pc lv (.int (iI z) :: .ref (S.2.1 b) :: st) k j S I R := by
  have hb1 := hb.1
  refine x_newqt d1 hlk hz hN hrb hk hj (fun S2 nw => ?_)
  rw [← (nw.2.1 b (by omega)).1]
  refine x_putRF d2 gf (Nw.ob nw hb) hf hfv hnr hft hini hdecl ?_
  exact h S2 _ _ (Nw.gr nw) nw.1 (RB.ur (RB.zr hrb (Nw.gr nw).1 S.1) (fun q hq => by have h9 := Option.some.inj hq; have h8 := nw.1; omega)) (fun x hx => zI_o (by omega)) (fun x q h1 h2 => by rw [uR_o h2, zR_o (by omega)]) (uR_s _ _ _ _) (Nw.nar nw) (fun q => by rw [uR_o (by omega), zR_s])
def TdZ (J : CI) (a : Nat) : Prop := (J a 6 = 0 ∧ J a 7 = 0 ∧ J a 8 = 0 ∧ J a 9 = 0) ∧ (∀ q, q < 4 → J (a + 1) q = -1) ∧ (∀ q, J (a + 2) q = 0) ∧ (∀ q, J (a + 3) q = 0) ∧ (∀ q, J (a + 4) q = 0) ∧ (∀ q, J (a + 5) q = 0) ∧ ∀ q, J (a + 6) q = 0
theorem TS.rr {a : Nat} {R2 : CR} (hr : ∀ x q, a ≤ x → R2 x q = R x q) (h : TS S R a) : TS S R2 a := by
  obtain ⟨s1, ⟨r0, r1, r2, r3, r4, r5⟩, s2⟩ := h
  exact ⟨s1, ⟨by rw [hr _ _ (Nat.le_refl _)]; exact r0, by rw [hr _ _ (Nat.le_refl _)]; exact r1, by rw [hr _ _ (Nat.le_refl _)]; exact r2, by rw [hr _ _ (Nat.le_refl _)]; exact r3, by rw [hr _ _ (Nat.le_refl _)]; exact r4, by rw [hr _ _ (Nat.le_refl _)]; exact r5⟩, s2⟩
theorem dX9_init_0 : decode prog_11_method_1_code 0 = .ok (.aload_n 0, 1) := by decide +kernel
theorem dX9_init_1 : decode prog_11_method_1_code 1 = .ok (.invokespecial 3, 3) := by decide +kernel
theorem dX9_init_4 : decode prog_11_method_1_code 4 = .ok (.aload_n 0, 1) := by decide +kernel
theorem dX9_init_5 : decode prog_11_method_1_code 5 = .ok (.iconst 4, 1) := by decide +kernel
theorem dX9_init_6 : decode prog_11_method_1_code 6 = .ok (.newarray .int, 2) := by decide +kernel
theorem dX9_init_8 : decode prog_11_method_1_code 8 = .ok (.dup, 1) := by decide +kernel
theorem dX9_init_9 : decode prog_11_method_1_code 9 = .ok (.iconst 0, 1) := by decide +kernel
theorem dX9_init_10 : decode prog_11_method_1_code 10 = .ok (.iconst (-1), 1) := by decide +kernel
theorem dX9_init_11 : decode prog_11_method_1_code 11 = .ok (.iastore, 1) := by decide +kernel
theorem dX9_init_12 : decode prog_11_method_1_code 12 = .ok (.dup, 1) := by decide +kernel
theorem dX9_init_13 : decode prog_11_method_1_code 13 = .ok (.iconst 1, 1) := by decide +kernel
theorem dX9_init_14 : decode prog_11_method_1_code 14 = .ok (.iconst (-1), 1) := by decide +kernel
theorem dX9_init_15 : decode prog_11_method_1_code 15 = .ok (.iastore, 1) := by decide +kernel
theorem dX9_init_16 : decode prog_11_method_1_code 16 = .ok (.dup, 1) := by decide +kernel
theorem dX9_init_17 : decode prog_11_method_1_code 17 = .ok (.iconst 2, 1) := by decide +kernel
theorem dX9_init_18 : decode prog_11_method_1_code 18 = .ok (.iconst (-1), 1) := by decide +kernel
theorem dX9_init_19 : decode prog_11_method_1_code 19 = .ok (.iastore, 1) := by decide +kernel
theorem dX9_init_20 : decode prog_11_method_1_code 20 = .ok (.dup, 1) := by decide +kernel
theorem dX9_init_21 : decode prog_11_method_1_code 21 = .ok (.iconst 3, 1) := by decide +kernel
theorem dX9_init_22 : decode prog_11_method_1_code 22 = .ok (.iconst (-1), 1) := by decide +kernel
theorem dX9_init_23 : decode prog_11_method_1_code 23 = .ok (.iastore, 1) := by decide +kernel
theorem dX9_init_24 : decode prog_11_method_1_code 24 = .ok (.putfield 9, 3) := by decide +kernel
theorem dX9_init_27 : decode prog_11_method_1_code 27 = .ok (.aload_n 0, 1) := by decide +kernel
theorem dX9_init_28 : decode prog_11_method_1_code 28 = .ok (.bipush 6, 2) := by decide +kernel
theorem dX9_init_30 : decode prog_11_method_1_code 30 = .ok (.newarray .int, 2) := by decide +kernel
theorem dX9_init_32 : decode prog_11_method_1_code 32 = .ok (.putfield 15, 3) := by decide +kernel
theorem dX9_init_35 : decode prog_11_method_1_code 35 = .ok (.aload_n 0, 1) := by decide +kernel
theorem dX9_init_36 : decode prog_11_method_1_code 36 = .ok (.bipush 10, 2) := by decide +kernel
theorem dX9_init_38 : decode prog_11_method_1_code 38 = .ok (.newarray .int, 2) := by decide +kernel
theorem dX9_init_40 : decode prog_11_method_1_code 40 = .ok (.putfield 18, 3) := by decide +kernel
theorem dX9_init_43 : decode prog_11_method_1_code 43 = .ok (.aload_n 0, 1) := by decide +kernel
theorem dX9_init_44 : decode prog_11_method_1_code 44 = .ok (.bipush 10, 2) := by decide +kernel
theorem dX9_init_46 : decode prog_11_method_1_code 46 = .ok (.newarray .int, 2) := by decide +kernel
theorem dX9_init_48 : decode prog_11_method_1_code 48 = .ok (.putfield 21, 3) := by decide +kernel
theorem dX9_init_51 : decode prog_11_method_1_code 51 = .ok (.aload_n 0, 1) := by decide +kernel
theorem dX9_init_52 : decode prog_11_method_1_code 52 = .ok (.bipush 8, 2) := by decide +kernel
theorem dX9_init_54 : decode prog_11_method_1_code 54 = .ok (.newarray .int, 2) := by decide +kernel
theorem dX9_init_56 : decode prog_11_method_1_code 56 = .ok (.putfield 24, 3) := by decide +kernel
theorem dX9_init_59 : decode prog_11_method_1_code 59 = .ok (.aload_n 0, 1) := by decide +kernel
theorem dX9_init_60 : decode prog_11_method_1_code 60 = .ok (.bipush 8, 2) := by decide +kernel
theorem dX9_init_62 : decode prog_11_method_1_code 62 = .ok (.newarray .int, 2) := by decide +kernel
theorem dX9_init_64 : decode prog_11_method_1_code 64 = .ok (.putfield 27, 3) := by decide +kernel
theorem dX9_init_67 : decode prog_11_method_1_code 67 = .ok (.return_, 1) := by decide +kernel
theorem sp_X9_init {b : Nat} (hn : 2 ≤ n) (hb : OB S b 9) (hS : S.1 = b + 1) (hrb : RB S R) (hz : ∀ q, I b q = 0) (hp : ∀ (S2 : Sh) (J : CI) (R2 : CR), Gr S S2 → S2.1 = b + 7 → RB S2 R2 → (∀ x, x < b → J x = I x ∧ R2 x = R x) → (TS S2 R2 b) → (TdZ J b) → Post none S2 J R2) : Call n 6 46 mX9_init [.ref (S.2.1 b)] S I R Post := by
  have n6 : nfd 6 = 9 := rfl
  have n9 : nfd 9 = 10 := rfl
  have gr0 : Gr S S := Gr.rf
  have l0 : S.1 = b + 1 := hS
  have ob0 : OB S b 9 := hb
  have rb0 := hrb
  refine Call.of (by decide +kernel) (Nat.le_of_ble_eq_true rfl) ?_
  show WP _ _ _ _ _ 0 [(0, _)] [] 0 0 _ _ _
  refine x_aload_n dX9_init_0 rfl ?_
  refine x_objInit dX9_init_1 oi_RX9_3 (by omega) (Nat.le_of_ble_eq_true rfl) ?_
  refine x_aload_n dX9_init_4 rfl ?_
  refine x_iconst dX9_init_5 ?_
  refine x_newai (N := 4) dX9_init_6 rfl (by omega) rb0 (by omega) (by omega) (fun S1 nw1 => ?_)
  rw [← Gr.ad (Nw.gr nw1) (a := b) (by omega)]
  have a1 := Nw.nar nw1
  refine x_dup dX9_init_8 rfl ?_
  refine x_iconst dX9_init_9 ?_
  refine x_iconst dX9_init_10 ?_
  refine x_iastore dX9_init_11 a1 (by omega) (by omega) ?_
  refine x_dup dX9_init_12 rfl ?_
  refine x_iconst dX9_init_13 ?_
  refine x_iconst dX9_init_14 ?_
  refine x_iastore dX9_init_15 a1 (by omega) (by omega) ?_
  refine x_dup dX9_init_16 rfl ?_
  refine x_iconst dX9_init_17 ?_
  refine x_iconst dX9_init_18 ?_
  refine x_iastore dX9_init_19 a1 (by omega) (by omega) ?_
  refine x_dup dX9_init_20 rfl ?_
  refine x_iconst dX9_init_21 ?_
  refine x_iconst dX9_init_22 ?_
  refine x_iastore dX9_init_23 a1 (by omega) (by omega) ?_
  refine x_putRF dX9_init_24 gf_RX9_9 (Nw.ob nw1 ob0) rfl (fun _ _ => rfl) (fun _ => rfl) (fun _ => rfl) rfl rfl ?_
  obtain ⟨J1, hJ1⟩ : ∃ J1, J1 = uI (uI (uI (uI (zI I S.1) S.1 (0 : Int).toNat (-1)) S.1 (1 : Int).toNat (-1)) S.1 (2 : Int).toNat (-1)) S.1 (3 : Int).toNat (-1) := ⟨_, rfl⟩
  obtain ⟨R1, hR1⟩ : ∃ R1, R1 = uR (zR R S.1) b 0 (some S.1) := ⟨_, rfl⟩
  rw [← hJ1, ← hR1]
  have gr1 : Gr S S1 := Nw.gr nw1
  have l1 : S1.1 = b + 2 := by rw [nw1.1]; omega
  have ob1 := Gr.ob gr1 ob0
  have rb1 : RB S1 R1 := by rw [hR1]; exact RB.ur (RB.zr hrb gr1.1 S.1) (fun q hq => by have h9 := Option.some.inj hq; omega)
  have fJ1 : ∀ x, x < S.1 → J1 x = I x := fun x hx => by rw [hJ1, uI_row (by omega), uI_row (by omega), uI_row (by omega), uI_row (by omega), zI_o (by omega)]
  have fR1 : ∀ x q, x < S.1 → (x ≠ b ∨ q ≠ 0) → R1 x q = R x q := fun x q h1 h2 => by rw [hR1, uR_o h2, zR_o (by omega)]
  have r1 : R1 b 0 = some S.1 := by rw [hR1]; exact uR_s _ _ _ _
  have z1 : ∀ q, q < 4 → J1 S.1 q = -1 := by
    intro q hq
    rw [hJ1]
    have h9 : q = 0 ∨ q = 1 ∨ q = 2 ∨ q = 3 := by omega
    rcases h9 with rfl | rfl | rfl | rfl
    · rw [uI_o (by omega), uI_o (by omega), uI_o (by omega)]; exact uI_s _ _ _ _
    · rw [uI_o (by omega), uI_o (by omega)]; exact uI_s _ _ _ _
    · rw [uI_o (by omega)]; exact uI_s _ _ _ _
    · exact uI_s _ _ _ _
  refine x_aload_n dX9_init_27 rfl ?_
  refine x_bipush dX9_init_28 (by decide) ?_
  refine x_naputi (N := 6) dX9_init_30 dX9_init_32 gf_RX9_15 ob1 rfl (fun _ _ => rfl) (fun _ => rfl) (fun _ => rfl) rfl rfl rfl (by omega) rb1 (by omega) (by omega) (fun S2 J2 R2 gr2 lq2 rb2 fJ2 fR2 r2 ar2 z2 => ?_)
  have l2 : S2.1 = b + 3 := by omega
  have ob2 := Gr.ob gr2 ob1
  rw [← Gr.ad gr2 (a := b) (by omega)]
  refine x_aload_n dX9_init_35 rfl ?_
  refine x_bipush dX9_init_36 (by decide) ?_
  refine x_naputi (N := 10) dX9_init_38 dX9_init_40 gf_RX9_18 ob2 rfl (fun _ _ => rfl) (fun _ => rfl) (fun _ => rfl) rfl rfl rfl (by omega) rb2 (by omega) (by omega) (fun S3 J3 R3 gr3 lq3 rb3 fJ3 fR3 r3 ar3 z3 => ?_)
  have l3 : S3.1 = b + 4 := by omega
  have ob3 := Gr.ob gr3 ob2
  rw [← Gr.ad gr3 (a := b) (by omega)]
  refine x_aload_n dX9_init_43 rfl ?_
  refine x_bipush dX9_init_44 (by decide) ?_
  refine x_naputi (N := 10) dX9_init_46 dX9_init_48 gf_RX9_21 ob3 rfl (fun _ _ => rfl) (fun _ => rfl) (fun _ => rfl) rfl rfl rfl (by omega) rb3 (by omega) (by omega) (fun S4 J4 R4 gr4 lq4 rb4 fJ4 fR4 r4 ar4 z4 => ?_)
  have l4 : S4.1 = b + 5 := by omega
  have ob4 := Gr.ob gr4 ob3
  rw [← Gr.ad gr4 (a := b) (by omega)]
  refine x_aload_n dX9_init_51 rfl ?_
  refine x_bipush dX9_init_52 (by decide) ?_
  refine x_naputi (N := 8) dX9_init_54 dX9_init_56 gf_RX9_24 ob4 rfl (fun _ _ => rfl) (fun _ => rfl) (fun _ => rfl) rfl rfl rfl (by omega) rb4 (by omega) (by omega) (fun S5 J5 R5 gr5 lq5 rb5 fJ5 fR5 r5 ar5 z5 => ?_)
  have l5 : S5.1 = b + 6 := by omega
  have ob5 := Gr.ob gr5 ob4
  rw [← Gr.ad gr5 (a := b) (by omega)]
  refine x_aload_n dX9_init_59 rfl ?_
  refine x_bipush dX9_init_60 (by decide) ?_
  refine x_naputi (N := 8) dX9_init_62 dX9_init_64 gf_RX9_27 ob5 rfl (fun _ _ => rfl) (fun _ => rfl) (fun _ => rfl) rfl rfl rfl (by omega) rb5 (by omega) (by omega) (fun S6 J6 R6 gr6 lq6 rb6 fJ6 fR6 r6 ar6 z6 => ?_)
  have l6 : S6.1 = b + 7 := by omega
  have ob6 := Gr.ob gr6 ob5
  rw [← Gr.ad gr6 (a := b) (by omega)]
  refine x_return dX9_init_67 rfl (by omega) (by omega) ?_
  refine hp S6 _ R6 ((Gr.tr gr1 (Gr.tr gr2 (Gr.tr gr3 (Gr.tr gr4 (Gr.tr gr5 gr6)))))) l6 rb6 (fun x hx => ⟨?_, ?_⟩) ⟨ob6, ⟨?_, ?_, ?_, ?_, ?_, ?_⟩, ⟨?_, ?_, ?_, ?_, ?_, ?_⟩⟩ ⟨⟨?_, ?_, ?_, ?_⟩, fun q hq => ?_, fun q => ?_, fun q => ?_, fun q => ?_, fun q => ?_, fun q => ?_⟩
  · rw [fJ6 (x) (by omega), fJ5 (x) (by omega), fJ4 (x) (by omega), fJ3 (x) (by omega), fJ2 (x) (by omega), fJ1 (x) (by omega)]
  · funext q; rw [fR6 (x) (q) (by omega) (by omega), fR5 (x) (q) (by omega) (by omega), fR4 (x) (q) (by omega) (by omega), fR3 (x) (q) (by omega) (by omega), fR2 (x) (q) (by omega) (by omega), fR1 (x) (q) (by omega) (by omega)]
  · rw [fR6 (b) (0) (by omega) (by omega), fR5 (b) (0) (by omega) (by omega), fR4 (b) (0) (by omega) (by omega), fR3 (b) (0) (by omega) (by omega), fR2 (b) (0) (by omega) (by omega), r1, l0]
  · rw [fR6 (b) (1) (by omega) (by omega), fR5 (b) (1) (by omega) (by omega), fR4 (b) (1) (by omega) (by omega), fR3 (b) (1) (by omega) (by omega), r2, l1]
  · rw [fR6 (b) (2) (by omega) (by omega), fR5 (b) (2) (by omega) (by omega), fR4 (b) (2) (by omega) (by omega), r3, l2]
  · rw [fR6 (b) (3) (by omega) (by omega), fR5 (b) (3) (by omega) (by omega), r4, l3]
  · rw [fR6 (b) (4) (by omega) (by omega), r5, l4]
  · rw [r6, l5]
  · rw [← l0]; exact Gr.ar (Gr.tr gr2 (Gr.tr gr3 (Gr.tr gr4 (Gr.tr gr5 gr6)))) a1
  · rw [← l1]; exact Gr.ar (Gr.tr gr3 (Gr.tr gr4 (Gr.tr gr5 gr6))) ar2
  · rw [← l2]; exact Gr.ar (Gr.tr gr4 (Gr.tr gr5 gr6)) ar3
  · rw [← l3]; exact Gr.ar (Gr.tr gr5 gr6) ar4
  · rw [← l4]; exact Gr.ar gr6 ar5
  · rw [← l5]; exact ar6
  · rw [fJ6 (b) (by omega), fJ5 (b) (by omega), fJ4 (b) (by omega), fJ3 (b) (by omega), fJ2 (b) (by omega), fJ1 (b) (by omega)]; exact hz _
  · rw [fJ6 (b) (by omega), fJ5 (b) (by omega), fJ4 (b) (by omega), fJ3 (b) (by omega), fJ2 (b) (by omega), fJ1 (b) (by omega)]; exact hz _
  · rw [fJ6 (b) (by omega), fJ5 (b) (by omega), fJ4 (b) (by omega), fJ3 (b) (by omega), fJ2 (b) (by omega), fJ1 (b) (by omega)]; exact hz _
  · rw [fJ6 (b) (by omega), fJ5 (b) (by omega), fJ4 (b) (by omega), fJ3 (b) (by omega), fJ2 (b) (by omega), fJ1 (b) (by omega)]; exact hz _
  · rw [fJ6 (b + 1) (by omega), fJ5 (b + 1) (by omega), fJ4 (b + 1) (by omega), fJ3 (b + 1) (by omega), fJ2 (b + 1) (by omega), ← l0]; exact z1 q hq
  · rw [fJ6 (b + 2) (by omega), fJ5 (b + 2) (by omega), fJ4 (b + 2) (by omega), fJ3 (b + 2) (by omega), ← l1]; exact z2 q
  · rw [fJ6 (b + 3) (by omega), fJ5 (b + 3) (by omega), fJ4 (b + 3) (by omega), ← l2]; exact z3 q
  · rw [fJ6 (b + 4) (by omega), fJ5 (b + 4) (by omega), ← l3]; exact z4 q
  · rw [fJ6 (b + 5) (by omega), ← l4]; exact z5 q
  · rw [← l5]; exact z6 q
theorem dX0_init_0 : decode prog_2_method_1_code 0 = .ok (.aload_n 0, 1) := by decide +kernel
theorem dX0_init_1 : decode prog_2_method_1_code 1 = .ok (.invokespecial 3, 3) := by decide +kernel
theorem dX0_init_4 : decode prog_2_method_1_code 4 = .ok (.aload_n 0, 1) := by decide +kernel
theorem dX0_init_5 : decode prog_2_method_1_code 5 = .ok (.new 9, 3) := by decide +kernel
theorem dX0_init_8 : decode prog_2_method_1_code 8 = .ok (.dup, 1) := by decide +kernel
theorem dX0_init_9 : decode prog_2_method_1_code 9 = .ok (.invokespecial 11, 3) := by decide +kernel
theorem dX0_init_12 : decode prog_2_method_1_code 12 = .ok (.putfield 12, 3) := by decide +kernel
theorem dX0_init_15 : decode prog_2_method_1_code 15 = .ok (.aload_n 0, 1) := by decide +kernel
theorem dX0_init_16 : decode prog_2_method_1_code 16 = .ok (.aload_n 1, 1) := by decide +kernel
theorem dX0_init_17 : decode prog_2_method_1_code 17 = .ok (.putfield 18, 3) := by decide +kernel
theorem dX0_init_20 : decode prog_2_method_1_code 20 = .ok (.aload_n 0, 1) := by decide +kernel
theorem dX0_init_21 : decode prog_2_method_1_code 21 = .ok (.aload_n 2, 1) := by decide +kernel
theorem dX0_init_22 : decode prog_2_method_1_code 22 = .ok (.putfield 22, 3) := by decide +kernel
theorem dX0_init_25 : decode prog_2_method_1_code 25 = .ok (.return_, 1) := by decide +kernel
theorem sp_X0_init {b w v : Nat} (hn : 4 ≤ n) (hb : OB S b 0) (hw : w < b) (hv : v < b) (hS : S.1 = b + 1) (hrb : RB S R) (hz : ∀ q, I b q = 0) (hp : ∀ (S2 : Sh) (J : CI) (R2 : CR), Gr S S2 → S2.1 = b + 5 → RB S2 R2 → (∀ x, x < b → J x = I x ∧ R2 x = R x) → (OB S2 b 0 ∧ ST S2 R2 (b + 1) ∧ R2 b 2 = some (b + 1) ∧ R2 b 0 = some w ∧ R2 b 1 = some v) → (True) → Post none S2 J R2) : Call n 4 33 mX0_init [.ref (S.2.1 b), .ref (S.2.1 w), .ref (S.2.1 v)] S I R Post := by
  have n6 : nfd 6 = 9 := rfl
  have n9 : nfd 9 = 10 := rfl
  have gr0 : Gr S S := Gr.rf
  have l0 : S.1 = b + 1 := hS
  have ob0 : OB S b 0 := hb
  have rb0 := hrb
  refine Call.of (by decide +kernel) (Nat.le_of_ble_eq_true rfl) ?_
  show WP _ _ _ _ _ 0 [(0, _), (1, _), (2, _)] [] 0 0 _ _ _
  refine x_aload_n dX0_init_0 rfl ?_
  refine x_objInit dX0_init_1 oi_RX0_3 (by omega) (Nat.le_of_ble_eq_true rfl) ?_
  refine x_aload_n dX0_init_4 rfl ?_
  refine x_obput (n1 := n - 1) (sz := 4) (ms1 := 24) (fun S R a => ST S R a) StZ (fun S R R2 a hr h => ST.rr hr h) dX0_init_5 dX0_init_8 dX0_init_9 dX0_init_12 nw_RX0_9 cv_RX0_11 (fun P1 T1 I1 R1 a1 h1 h2 h3 h4 h5 => sp_X6_init (by omega) h1 h2 h3 h4 h5) gf_RX0_12  ob0 rfl (fun _ _ => rfl) (fun _ => rfl) (fun _ => rfl) rfl rfl (by omega) rb0 (by omega) (by omega) (fun S1 J1 R1 gr1 lq1 rb1 fJ1 fR1 r1 sh1 va1 => ?_)
  have l1 : S1.1 = b + 5 := by omega
  have ob1 := Gr.ob gr1 ob0
  rw [← Gr.ad gr1 (a := b) (by omega), ← Gr.ad gr1 (a := w) (by omega), ← Gr.ad gr1 (a := v) (by omega)]
  refine x_aload_n dX0_init_15 rfl ?_
  refine x_aload_n dX0_init_16 rfl ?_
  refine x_putRF dX0_init_17 gf_RX0_18 ob1 rfl (fun _ _ => rfl) (fun _ => rfl) (fun _ => rfl) rfl rfl ?_
  refine x_aload_n dX0_init_20 rfl ?_
  refine x_aload_n dX0_init_21 rfl ?_
  refine x_putRF dX0_init_22 gf_RX0_22 ob1 rfl (fun _ _ => rfl) (fun _ => rfl) (fun _ => rfl) rfl rfl ?_
  refine x_return dX0_init_25 rfl (by omega) (by omega) ?_
  refine hp S1 _ _ gr1 l1 (RB.ur (RB.ur rb1 (fun q hq => by have h9 := Option.some.inj hq; omega)) (fun q hq => by have h9 := Option.some.inj hq; omega)) (fun x hx => ⟨fJ1 x (by omega), ?_⟩) ⟨ob1, ?_, ?_, ?_, ?_⟩ trivial
  · rw [uR_row (by omega), uR_row (by omega)]; funext q; rw [fR1 x q (by omega) (by omega)]
  · rw [← l0]; exact ST.rr (fun x q h9 => by rw [uR_row (by omega), uR_row (by omega)]) sh1
  · rw [uR_o (by omega), uR_o (by omega), r1, l0]
  · rw [uR_o (by omega), uR_s]
  · rw [uR_s]
end Ctor2
