section Ctor1
variable {n mc ms : Nat} {M : Md} {pc : Nat} {lv : List (Nat × Value)} {st : List Value} {k j : Nat} {Post : PT} {S : Sh} {I : CI} {R : CR} {A : Nat → Int} {tx : Nat → Nat → Int}
theorem x_naputi {b kk ci N idx : Nat} {z : Int} {ty : FieldType} (d1 : decode M.2.1 pc = .ok (.newarray .int, 2)) (d2 : decode M.2.1 (pc + 2) = .ok (.putfield idx, 3)) (gf : GF M.1.cls idx ci kk true) (hb : OB S b ci) (hf : fty ci kk = ty) (hfv : ∀ z r, fv ty z r = va_rf r) (hnr : ∀ x, narrow ty (.ref x) = .ref x) (hft : ∀ x, fits ty (.ref x) = true) (hini : M.1.name = "<init>") (hdecl : vwCl[ci]?.map (fun q => q.1) = some M.1.cls) (hz : z = (N : Int)) (hN : N ≤ 100000) (hrb : RB S R) (hk : k + 1 ≤ mc) (hj : j + N ≤ ms) (h : ∀ (S2 : Sh) (J : CI) (R2 : CR), Gr S S2 → S2.1 = S.1 + 1 → RB S2 R2 → (∀ x, x < S.1 → J x = I x) → (∀ x q, x < S.1 → (x ≠ b ∨ q ≠ kk) → R2 x q = R x q) → R2 b kk = some S.1 → AR S2 S.1 13 N → (∀ q, J S.1 q = 0) → WP n mc ms M Post (pc + 5) lv st (k + 1) (j + N) S2 J R2) : WP n mc ms M Post pc lv (.int (iI z) :: .ref (S.2.1 b) :: st) k j S I R := by
  have hb1 := hb.1
  refine x_newai d1 hz hN hrb hk hj (fun S2 nw => ?_)
  rw [← (nw.2.1 b (by omega)).1]
  refine x_putRF d2 gf (Nw.ob nw hb) hf hfv hnr hft hini hdecl ?_
  exact h S2 _ _ (Nw.gr nw) nw.1 (RB.ur (RB.zr hrb (Nw.gr nw).1 S.1) (fun q hq => by have h9 := Option.some.inj hq; have h8 := nw.1; omega)) (fun x hx => zI_o (by omega)) (fun x q h1 h2 => by rw [uR_o h2, zR_o (by omega)]) (uR_s _ _ _ _) (Nw.nar nw) (fun q => zI_s _ _ _)
theorem x_naputl {b kk ci N idx : Nat} {z : Int} {ty : FieldType} (d1 : decode M.2.1 pc = .ok (.newarray .long, 2)) (d2 : decode M.2.1 (pc + 2) = .ok (.putfield idx, 3)) (gf : GF M.1.cls idx ci kk true) (hb : OB S b ci) (hf : fty ci kk = ty) (hfv : ∀ z r, fv ty z r = va_rf r) (hnr : ∀ x, narrow ty (.ref x) = .ref x) (hft : ∀ x, fits ty (.ref x) = true) (hini : M.1.name = "<init>") (hdecl : vwCl[ci]?.map (fun q => q.1) = some M.1.cls) (hz : z = (N : Int)) (hN : N ≤ 100000) (hrb : RB S R) (hk : k + 1 ≤ mc) (hj : j + N ≤ ms) (h : ∀ (S2 : Sh) (J : CI) (R2 : CR), Gr S S2 → S2.1 = S.1 + 1 → RB S2 R2 → (∀ x, x < S.1 → J x = I x) → (∀ x q, x < S.1 → (x ≠ b ∨ q ≠ kk) → R2 x q = R x q) → R2 b kk = some S.1 → AR S2 S.1 14 N → (∀ q, J S.1 q = 0) → WP n mc ms M Post (pc + 5) lv st (k + 1) (j + N) S2 J R2) : WP n mc ms M Post pc lv (.int (iI z) :: .ref (S.2.1 b) :: st) k j S I R := by
  have hb1 := hb.1
  refine x_newal d1 hz hN hrb hk hj (fun S2 nw => ?_)
  rw [← (nw.2.1 b (by omega)).1]
  refine x_putRF d2 gf (Nw.ob nw hb) hf hfv hnr hft hini hdecl ?_
  exact h S2 _ _ (Nw.gr nw) nw.1 (RB.ur (RB.zr hrb (Nw.gr nw).1 S.1) (fun q hq => by have h9 := Option.some.inj hq; have h8 := nw.1; omega)) (fun x hx => zI_o (by omega)) (fun x q h1 h2 => by rw [uR_o h2, zR_o (by omega)]) (uR_s _ _ _ _) (Nw.nar nw) (fun q => zI_s _ _ _)
theorem x_naputz {b kk ci N idx : Nat} {z : Int} {ty : FieldType} (d1 : decode M.2.1 pc = .ok (.newarray .boolean, 2)) (d2 : decode M.2.1 (pc + 2) = .ok (.putfield idx, 3)) (gf : GF M.1.cls idx ci kk true) (hb : OB S b ci) (hf : fty ci kk = ty) (hfv : ∀ z r, fv ty z r = va_rf r) (hnr : ∀ x, narrow ty (.ref x) = .ref x) (hft : ∀ x, fits ty (.ref x) = true) (hini : M.1.name = "<init>") (hdecl : vwCl[ci]?.map (fun q => q.1) = some M.1.cls) (hz : z = (N : Int)) (hN : N ≤ 100000) (hrb : RB S R) (hk : k + 1 ≤ mc) (hj : j + N ≤ ms) (h : ∀ (S2 : Sh) (J : CI) (R2 : CR), Gr S S2 → S2.1 = S.1 + 1 → RB S2 R2 → (∀ x, x < S.1 → J x = I x) → (∀ x q, x < S.1 → (x ≠ b ∨ q ≠ kk) → R2 x q = R x q) → R2 b kk = some S.1 → AR S2 S.1 15 N → (∀ q, J S.1 q = 0) → WP n mc ms M Post (pc + 5) lv st (k + 1) (j + N) S2 J R2) : WP n mc ms M Post pc lv (.int (iI z) :: .ref (S.2.1 b) :: st) k j S I R := by
  have hb1 := hb.1
  refine x_newaz d1 hz hN hrb hk hj (fun S2 nw => ?_)
  rw [← (nw.2.1 b (by omega)).1]
  refine x_putRF d2 gf (Nw.ob nw hb) hf hfv hnr hft hini hdecl ?_
  exact h S2 _ _ (Nw.gr nw) nw.1 (RB.ur (RB.zr hrb (Nw.gr nw).1 S.1) (fun q hq => by have h9 := Option.some.inj hq; have h8 := nw.1; omega)) (fun x hx => zI_o (by omega)) (fun x q h1 h2 => by rw [uR_o h2, zR_o (by omega)]) (uR_s _ _ _ _) (Nw.nar nw) (fun q => zI_s _ _ _)
theorem x_obput {n1 sz ms1 b kk ci c2 idx idx2 idx3 : Nat} {M1 : Md} {ty : FieldType} (SHP : Sh → CR → Nat → Prop) (VAL : CI → Nat → Prop) (hSHP : ∀ (S : Sh) (R R2 : CR) (a : Nat), (∀ x q, a ≤ x → R2 x q = R x q) → SHP S R a → SHP S R2 a) (d1 : decode M.2.1 pc = .ok (.new idx, 3)) (d2 : decode M.2.1 (pc + 3) = .ok (.dup, 1)) (d3 : decode M.2.1 (pc + 4) = .ok (.invokespecial idx2, 3)) (d4 : decode M.2.1 (pc + 7) = .ok (.putfield idx3, 3)) (nw : NWf M.1.cls idx c2) (cv : CINf M.1.cls idx2 M1 0) (hctor : ∀ (P1 : PT) (S : Sh) (I : CI) (R : CR) (a : Nat), OB S a c2 → S.1 = a + 1 → RB S R → (∀ q, I a q = 0) → (∀ (S2 : Sh) (J : CI) (R2 : CR), Gr S S2 → S2.1 = a + sz → RB S2 R2 → (∀ x, x < a → J x = I x ∧ R2 x = R x) → SHP S2 R2 a → VAL J a → P1 none S2 J R2) → Call n1 (sz - 1) ms1 M1 [.ref (S.2.1 a)] S I R P1) (gf : GF M.1.cls idx3 ci kk true) (hb : OB S b ci) (hf : fty ci kk = ty) (hfv : ∀ z r, fv ty z r = va_rf r) (hnr : ∀ x, narrow ty (.ref x) = .ref x) (hft : ∀ x, fits ty (.ref x) = true) (hini : M.1.name = "<init>") (hdecl : vwCl[ci]?.map (fun q => q.1) = some M.1.cls) (hn : n1 + 1 ≤ n) (hrb : RB S R) (hk : k + 1 + (sz - 1) ≤ mc ∧ 0 < sz) (hj : j + nfd c2 + ms1 ≤ ms) (h : ∀ (S2 : Sh) (J : CI) (R2 : CR), Gr S S2 → S2.1 = S.1 + sz → RB S2 R2 → (∀ x, x < S.1 → J x = I x) → (∀ x q, x < S.1 → (x ≠ b ∨ q ≠ kk) → R2 x q = R x q) → R2 b kk = some S.1 → SHP S2 R2 S.1 → VAL J S.1 → WP n mc ms M Post (pc + 10) lv [] (k + 1 + (sz - 1)) (j + nfd c2 + ms1) S2 J R2) : WP n mc ms M Post pc lv [.ref (S.2.1 b)] k j S I R := by
  have hb1 := hb.1
  refine x_new d1 nw hrb (by omega) (by omega) (fun S1 w1 => ?_)
  rw [← Gr.ad (Nw.gr w1) hb1]
  refine x_dup d2 rfl ?_
  refine x_callIN0 (b := S.1) (mc1 := sz - 1) (ms1 := ms1) d3 cv (Nat.le_of_ble_eq_true rfl) hn (by omega) (by omega) ?_
  refine hctor _ S1 _ _ S.1 (Nw.nob w1) w1.1 (RB.zr hrb (Nw.gr w1).1 _) (fun q => zI_s _ _ _) (fun S2 J R2 gx lx rx fx sx vx => ?_)
  have lw := w1.1
  show WP n mc ms M Post (pc + 7) lv [.ref (S1.2.1 S.1), .ref (S1.2.1 b)] _ _ S2 J R2
  rw [← Gr.ad gx (a := b) (by omega), ← Gr.ad gx (a := S.1) (by omega)]
  refine x_putRF d4 gf (Gr.ob gx (Nw.ob w1 hb)) hf hfv hnr hft hini hdecl ?_
  refine h S2 J _ (Gr.tr (Nw.gr w1) gx) lx (RB.ur rx (fun q hq => by have h9 := Option.some.inj hq; omega)) (fun x hx => by rw [(fx x hx).1, zI_o (by omega)]) (fun x q h1 h2 => by rw [uR_o h2, (fx x h1).2, zR_o (by omega)]) (uR_s _ _ _ _) (hSHP S2 R2 _ S.1 (fun x q h1 => uR_o (by omega)) sx) vx
def StZ (J : CI) (a : Nat) : Prop := (J a 3 = 0 ∧ J a 4 = 0 ∧ J a 5 = 0 ∧ J a 6 = 0 ∧ J a 7 = 373 ∧ J a 8 = 0) ∧ (∀ q, J (a + 1) q = 0) ∧ (∀ q, J (a + 2) q = 0) ∧ ∀ q, J (a + 3) q = 0
theorem ST.rr {a : Nat} {R2 : CR} (hr : ∀ x q, a ≤ x → R2 x q = R x q) (h : ST S R a) : ST S R2 a := by
  obtain ⟨s1, s2, s3, s4, s5, s6, s7⟩ := h
  exact ⟨s1, by rw [hr _ _ (Nat.le_refl _)]; exact s2, by rw [hr _ _ (Nat.le_refl _)]; exact s3, by rw [hr _ _ (Nat.le_refl _)]; exact s4, s5, s6, s7⟩
theorem dX6_init_0 : decode prog_8_method_1_code 0 = .ok (.aload_n 0, 1) := by decide +kernel
theorem dX6_init_1 : decode prog_8_method_1_code 1 = .ok (.invokespecial 3, 3) := by decide +kernel
theorem dX6_init_4 : decode prog_8_method_1_code 4 = .ok (.aload_n 0, 1) := by decide +kernel
theorem dX6_init_5 : decode prog_8_method_1_code 5 = .ok (.bipush 8, 2) := by decide +kernel
theorem dX6_init_7 : decode prog_8_method_1_code 7 = .ok (.newarray .int, 2) := by decide +kernel
theorem dX6_init_9 : decode prog_8_method_1_code 9 = .ok (.putfield 9, 3) := by decide +kernel
theorem dX6_init_12 : decode prog_8_method_1_code 12 = .ok (.aload_n 0, 1) := by decide +kernel
theorem dX6_init_13 : decode prog_8_method_1_code 13 = .ok (.bipush 8, 2) := by decide +kernel
theorem dX6_init_15 : decode prog_8_method_1_code 15 = .ok (.newarray .int, 2) := by decide +kernel
theorem dX6_init_17 : decode prog_8_method_1_code 17 = .ok (.putfield 15, 3) := by decide +kernel
theorem dX6_init_20 : decode prog_8_method_1_code 20 = .ok (.aload_n 0, 1) := by decide +kernel
theorem dX6_init_21 : decode prog_8_method_1_code 21 = .ok (.bipush 8, 2) := by decide +kernel
theorem dX6_init_23 : decode prog_8_method_1_code 23 = .ok (.newarray .int, 2) := by decide +kernel
theorem dX6_init_25 : decode prog_8_method_1_code 25 = .ok (.putfield 18, 3) := by decide +kernel
theorem dX6_init_28 : decode prog_8_method_1_code 28 = .ok (.aload_n 0, 1) := by decide +kernel
theorem dX6_init_29 : decode prog_8_method_1_code 29 = .ok (.sipush 373, 3) := by decide +kernel
theorem dX6_init_32 : decode prog_8_method_1_code 32 = .ok (.putfield 21, 3) := by decide +kernel
theorem dX6_init_35 : decode prog_8_method_1_code 35 = .ok (.return_, 1) := by decide +kernel
theorem sp_X6_init {b : Nat} (hn : 2 ≤ n) (hb : OB S b 6) (hS : S.1 = b + 1) (hrb : RB S R) (hz : ∀ q, I b q = 0) (hp : ∀ (S2 : Sh) (J : CI) (R2 : CR), Gr S S2 → S2.1 = b + 4 → RB S2 R2 → (∀ x, x < b → J x = I x ∧ R2 x = R x) → (ST S2 R2 b) → (StZ J b) → Post none S2 J R2) : Call n 3 24 mX6_init [.ref (S.2.1 b)] S I R Post := by
  have n6 : nfd 6 = 9 := rfl
  have n9 : nfd 9 = 10 := rfl
  have gr0 : Gr S S := Gr.rf
  have l0 : S.1 = b + 1 := hS
  have ob0 : OB S b 6 := hb
  have rb0 := hrb
  refine Call.of (by decide +kernel) (Nat.le_of_ble_eq_true rfl) ?_
  show WP _ _ _ _ _ 0 [(0, _)] [] 0 0 _ _ _
  refine x_aload_n dX6_init_0 rfl ?_
  refine x_objInit dX6_init_1 oi_RX6_3 (by omega) (Nat.le_of_ble_eq_true rfl) ?_
  refine x_aload_n dX6_init_4 rfl ?_
  refine x_bipush dX6_init_5 (by decide) ?_
  refine x_naputi (N := 8) dX6_init_7 dX6_init_9 gf_RX6_9 ob0 rfl (fun _ _ => rfl) (fun _ => rfl) (fun _ => rfl) rfl rfl rfl (by omega) rb0 (by omega) (by omega) (fun S1 J1 R1 gr1 lq1 rb1 fJ1 fR1 r1 ar1 z1 => ?_)
  have l1 : S1.1 = b + 2 := by omega
  have ob1 := Gr.ob gr1 ob0
  rw [← Gr.ad gr1 (a := b) (by omega)]
  refine x_aload_n dX6_init_12 rfl ?_
  refine x_bipush dX6_init_13 (by decide) ?_
  refine x_naputi (N := 8) dX6_init_15 dX6_init_17 gf_RX6_15 ob1 rfl (fun _ _ => rfl) (fun _ => rfl) (fun _ => rfl) rfl rfl rfl (by omega) rb1 (by omega) (by omega) (fun S2 J2 R2 gr2 lq2 rb2 fJ2 fR2 r2 ar2 z2 => ?_)
  have l2 : S2.1 = b + 3 := by omega
  have ob2 := Gr.ob gr2 ob1
  rw [← Gr.ad gr2 (a := b) (by omega)]
  refine x_aload_n dX6_init_20 rfl ?_
  refine x_bipush dX6_init_21 (by decide) ?_
  refine x_naputi (N := 8) dX6_init_23 dX6_init_25 gf_RX6_18 ob2 rfl (fun _ _ => rfl) (fun _ => rfl) (fun _ => rfl) rfl rfl rfl (by omega) rb2 (by omega) (by omega) (fun S3 J3 R3 gr3 lq3 rb3 fJ3 fR3 r3 ar3 z3 => ?_)
  have l3 : S3.1 = b + 4 := by omega
  have ob3 := Gr.ob gr3 ob2
  rw [← Gr.ad gr3 (a := b) (by omega)]
  refine x_aload_n dX6_init_28 rfl ?_
  refine x_sipush dX6_init_29 (by decide) ?_
  refine x_putI dX6_init_32 gf_RX6_21 ob3 rfl ?_
  refine x_return dX6_init_35 rfl (by omega) (by omega) ?_
  refine hp S3 _ R3 ((Gr.tr gr1 (Gr.tr gr2 gr3))) l3 rb3 (fun x hx => ⟨?_, ?_⟩) ⟨ob3, ?_, ?_, ?_, ?_, ?_, ?_⟩ ⟨⟨?_, ?_, ?_, ?_, ?_, ?_⟩, fun q => ?_, fun q => ?_, fun q => ?_⟩
  · rw [uI_row (by omega), fJ3 (x) (by omega), fJ2 (x) (by omega), fJ1 (x) (by omega)]
  · funext q; rw [fR3 (x) (q) (by omega) (by omega), fR2 (x) (q) (by omega) (by omega), fR1 (x) (q) (by omega) (by omega)]
  · rw [fR3 (b) (0) (by omega) (by omega), fR2 (b) (0) (by omega) (by omega), r1, l0]
  · rw [fR3 (b) (1) (by omega) (by omega), r2, l1]
  · rw [r3, l2]
  · rw [← l0]; exact Gr.ar ((Gr.tr gr2 gr3)) ar1
  · rw [← l1]; exact Gr.ar (gr3) ar2
  · rw [← l2]; exact ar3
  · rw [uI_o (by omega), fJ3 (b) (by omega), fJ2 (b) (by omega), fJ1 (b) (by omega)]; exact hz _
  · rw [uI_o (by omega), fJ3 (b) (by omega), fJ2 (b) (by omega), fJ1 (b) (by omega)]; exact hz _
  · rw [uI_o (by omega), fJ3 (b) (by omega), fJ2 (b) (by omega), fJ1 (b) (by omega)]; exact hz _
  · rw [uI_o (by omega), fJ3 (b) (by omega), fJ2 (b) (by omega), fJ1 (b) (by omega)]; exact hz _
  · rw [uI_s]
  · rw [uI_o (by omega), fJ3 (b) (by omega), fJ2 (b) (by omega), fJ1 (b) (by omega)]; exact hz _
  · rw [uI_row (by omega), fJ3 (b + 1) (by omega), fJ2 (b + 1) (by omega), ← l0]; exact z1 q
  · rw [uI_row (by omega), fJ3 (b + 2) (by omega), ← l1]; exact z2 q
  · rw [uI_row (by omega), ← l2]; exact z3 q
theorem dX5_init_0 : decode prog_7_method_1_code 0 = .ok (.aload_n 0, 1) := by decide +kernel
theorem dX5_init_1 : decode prog_7_method_1_code 1 = .ok (.invokespecial 3, 3) := by decide +kernel
theorem dX5_init_4 : decode prog_7_method_1_code 4 = .ok (.aload_n 0, 1) := by decide +kernel
theorem dX5_init_5 : decode prog_7_method_1_code 5 = .ok (.sipush 300, 3) := by decide +kernel
theorem dX5_init_8 : decode prog_7_method_1_code 8 = .ok (.newarray .int, 2) := by decide +kernel
theorem dX5_init_10 : decode prog_7_method_1_code 10 = .ok (.putfield 9, 3) := by decide +kernel
theorem dX5_init_13 : decode prog_7_method_1_code 13 = .ok (.aload_n 0, 1) := by decide +kernel
theorem dX5_init_14 : decode prog_7_method_1_code 14 = .ok (.sipush 300, 3) := by decide +kernel
theorem dX5_init_17 : decode prog_7_method_1_code 17 = .ok (.newarray .int, 2) := by decide +kernel
theorem dX5_init_19 : decode prog_7_method_1_code 19 = .ok (.putfield 15, 3) := by decide +kernel
theorem dX5_init_22 : decode prog_7_method_1_code 22 = .ok (.aload_n 0, 1) := by decide +kernel
theorem dX5_init_23 : decode prog_7_method_1_code 23 = .ok (.bipush 96, 2) := by decide +kernel
theorem dX5_init_25 : decode prog_7_method_1_code 25 = .ok (.newarray .int, 2) := by decide +kernel
theorem dX5_init_27 : decode prog_7_method_1_code 27 = .ok (.putfield 18, 3) := by decide +kernel
theorem dX5_init_30 : decode prog_7_method_1_code 30 = .ok (.aload_n 0, 1) := by decide +kernel
theorem dX5_init_31 : decode prog_7_method_1_code 31 = .ok (.iconst (-1), 1) := by decide +kernel
theorem dX5_init_32 : decode prog_7_method_1_code 32 = .ok (.putfield 21, 3) := by decide +kernel
theorem dX5_init_35 : decode prog_7_method_1_code 35 = .ok (.aload_n 0, 1) := by decide +kernel
theorem dX5_init_36 : decode prog_7_method_1_code 36 = .ok (.iconst (-1), 1) := by decide +kernel
theorem dX5_init_37 : decode prog_7_method_1_code 37 = .ok (.putfield 25, 3) := by decide +kernel
theorem dX5_init_40 : decode prog_7_method_1_code 40 = .ok (.return_, 1) := by decide +kernel
theorem sp_X5_init {b : Nat} (hn : 2 ≤ n) (hb : OB S b 5) (hS : S.1 = b + 1) (hrb : RB S R) (hz : ∀ q, I b q = 0) (hp : ∀ (S2 : Sh) (J : CI) (R2 : CR), Gr S S2 → S2.1 = b + 4 → RB S2 R2 → (∀ x, x < b → J x = I x ∧ R2 x = R x) → (OB S2 b 5 ∧ AR S2 (b + 1) 13 300 ∧ AR S2 (b + 2) 13 300 ∧ AR S2 (b + 3) 13 96 ∧ R2 b 0 = some (b + 1) ∧ R2 b 1 = some (b + 2) ∧ R2 b 2 = some (b + 3)) → ((∀ q, J (b + 1) q = 0) ∧ (∀ q, J (b + 2) q = 0) ∧ (∀ q, J (b + 3) q = 0) ∧ J b 4 = -1 ∧ J b 5 = -1 ∧ J b 3 = 0 ∧ J b 12 = 0) → Post none S2 J R2) : Call n 3 696 mX5_init [.ref (S.2.1 b)] S I R Post := by
  have n6 : nfd 6 = 9 := rfl
  have n9 : nfd 9 = 10 := rfl
  have gr0 : Gr S S := Gr.rf
  have l0 : S.1 = b + 1 := hS
  have ob0 : OB S b 5 := hb
  have rb0 := hrb
  refine Call.of (by decide +kernel) (Nat.le_of_ble_eq_true rfl) ?_
  show WP _ _ _ _ _ 0 [(0, _)] [] 0 0 _ _ _
  refine x_aload_n dX5_init_0 rfl ?_
  refine x_objInit dX5_init_1 oi_RX5_3 (by omega) (Nat.le_of_ble_eq_true rfl) ?_
  refine x_aload_n dX5_init_4 rfl ?_
  refine x_sipush dX5_init_5 (by decide) ?_
  refine x_naputi (N := 300) dX5_init_8 dX5_init_10 gf_RX5_9 ob0 rfl (fun _ _ => rfl) (fun _ => rfl) (fun _ => rfl) rfl rfl rfl (by omega) rb0 (by omega) (by omega) (fun S1 J1 R1 gr1 lq1 rb1 fJ1 fR1 r1 ar1 z1 => ?_)
  have l1 : S1.1 = b + 2 := by omega
  have ob1 := Gr.ob gr1 ob0
  rw [← Gr.ad gr1 (a := b) (by omega)]
  refine x_aload_n dX5_init_13 rfl ?_
  refine x_sipush dX5_init_14 (by decide) ?_
  refine x_naputi (N := 300) dX5_init_17 dX5_init_19 gf_RX5_15 ob1 rfl (fun _ _ => rfl) (fun _ => rfl) (fun _ => rfl) rfl rfl rfl (by omega) rb1 (by omega) (by omega) (fun S2 J2 R2 gr2 lq2 rb2 fJ2 fR2 r2 ar2 z2 => ?_)
  have l2 : S2.1 = b + 3 := by omega
  have ob2 := Gr.ob gr2 ob1
  rw [← Gr.ad gr2 (a := b) (by omega)]
  refine x_aload_n dX5_init_22 rfl ?_
  refine x_bipush dX5_init_23 (by decide) ?_
  refine x_naputi (N := 96) dX5_init_25 dX5_init_27 gf_RX5_18 ob2 rfl (fun _ _ => rfl) (fun _ => rfl) (fun _ => rfl) rfl rfl rfl (by omega) rb2 (by omega) (by omega) (fun S3 J3 R3 gr3 lq3 rb3 fJ3 fR3 r3 ar3 z3 => ?_)
  have l3 : S3.1 = b + 4 := by omega
  have ob3 := Gr.ob gr3 ob2
  rw [← Gr.ad gr3 (a := b) (by omega)]
  refine x_aload_n dX5_init_30 rfl ?_
  refine x_iconst dX5_init_31 ?_
  refine x_putI dX5_init_32 gf_RX5_21 ob3 rfl ?_
  refine x_aload_n dX5_init_35 rfl ?_
  refine x_iconst dX5_init_36 ?_
  refine x_putI dX5_init_37 gf_RX5_25 ob3 rfl ?_
  refine x_return dX5_init_40 rfl (by omega) (by omega) ?_
  refine hp S3 _ _ ((Gr.tr gr1 (Gr.tr gr2 gr3))) l3 rb3 (fun x hx => ⟨?_, ?_⟩) ⟨ob3, ?_, ?_, ?_, ?_, ?_, ?_⟩ ⟨fun q => ?_, fun q => ?_, fun q => ?_, ?_, ?_, ?_, ?_⟩
  · rw [uI_row (by omega), uI_row (by omega), fJ3 (x) (by omega), fJ2 (x) (by omega), fJ1 (x) (by omega)]
  · funext q; rw [fR3 (x) (q) (by omega) (by omega), fR2 (x) (q) (by omega) (by omega), fR1 (x) (q) (by omega) (by omega)]
  · rw [← l0]; exact Gr.ar (Gr.tr gr2 gr3) ar1
  · rw [← l1]; exact Gr.ar gr3 ar2
  · rw [← l2]; exact ar3
  · rw [fR3 (b) (0) (by omega) (by omega), fR2 (b) (0) (by omega) (by omega), r1, l0]
  · rw [fR3 (b) (1) (by omega) (by omega), r2, l1]
  · rw [r3, l2]
  · rw [uI_row (by omega), uI_row (by omega), fJ3 (b + 1) (by omega), fJ2 (b + 1) (by omega), ← l0]; exact z1 q
  · rw [uI_row (by omega), uI_row (by omega), fJ3 (b + 2) (by omega), ← l1]; exact z2 q
  · rw [uI_row (by omega), uI_row (by omega), ← l2]; exact z3 q
  · rw [uI_o (by omega), uI_s]
  · rw [uI_s]
  · rw [uI_o (by omega), uI_o (by omega), fJ3 (b) (by omega), fJ2 (b) (by omega), fJ1 (b) (by omega)]; exact hz _
  · rw [uI_o (by omega), uI_o (by omega), fJ3 (b) (by omega), fJ2 (b) (by omega), fJ1 (b) (by omega)]; exact hz _
theorem dX3_init_0 : decode prog_5_method_1_code 0 = .ok (.aload_n 0, 1) := by decide +kernel
theorem dX3_init_1 : decode prog_5_method_1_code 1 = .ok (.invokespecial 3, 3) := by decide +kernel
theorem dX3_init_4 : decode prog_5_method_1_code 4 = .ok (.aload_n 0, 1) := by decide +kernel
theorem dX3_init_5 : decode prog_5_method_1_code 5 = .ok (.bipush 8, 2) := by decide +kernel
theorem dX3_init_7 : decode prog_5_method_1_code 7 = .ok (.newarray .int, 2) := by decide +kernel
theorem dX3_init_9 : decode prog_5_method_1_code 9 = .ok (.putfield 9, 3) := by decide +kernel
theorem dX3_init_12 : decode prog_5_method_1_code 12 = .ok (.aload_n 0, 1) := by decide +kernel
theorem dX3_init_13 : decode prog_5_method_1_code 13 = .ok (.sipush 303, 3) := by decide +kernel
theorem dX3_init_16 : decode prog_5_method_1_code 16 = .ok (.newarray .int, 2) := by decide +kernel
theorem dX3_init_18 : decode prog_5_method_1_code 18 = .ok (.putfield 15, 3) := by decide +kernel
theorem dX3_init_21 : decode prog_5_method_1_code 21 = .ok (.aload_n 0, 1) := by decide +kernel
theorem dX3_init_22 : decode prog_5_method_1_code 22 = .ok (.aload_n 1, 1) := by decide +kernel
theorem dX3_init_23 : decode prog_5_method_1_code 23 = .ok (.putfield 18, 3) := by decide +kernel
theorem dX3_init_26 : decode prog_5_method_1_code 26 = .ok (.return_, 1) := by decide +kernel
theorem sp_X3_init {b w : Nat} (hn : 2 ≤ n) (hb : OB S b 3) (hw : w < b) (hS : S.1 = b + 1) (hrb : RB S R) (hz : ∀ q, I b q = 0) (hp : ∀ (S2 : Sh) (J : CI) (R2 : CR), Gr S S2 → S2.1 = b + 3 → RB S2 R2 → (∀ x, x < b → J x = I x ∧ R2 x = R x) → (OB S2 b 3 ∧ AR S2 (b + 1) 13 8 ∧ AR S2 (b + 2) 13 303 ∧ R2 b 1 = some (b + 1) ∧ R2 b 2 = some (b + 2) ∧ R2 b 0 = some w) → ((∀ q, J (b + 1) q = 0) ∧ (∀ q, J (b + 2) q = 0)) → Post none S2 J R2) : Call n 2 311 mX3_init [.ref (S.2.1 b), .ref (S.2.1 w)] S I R Post := by
  have n6 : nfd 6 = 9 := rfl
  have n9 : nfd 9 = 10 := rfl
  have gr0 : Gr S S := Gr.rf
  have l0 : S.1 = b + 1 := hS
  have ob0 : OB S b 3 := hb
  have rb0 := hrb
  refine Call.of (by decide +kernel) (Nat.le_of_ble_eq_true rfl) ?_
  show WP _ _ _ _ _ 0 [(0, _), (1, _)] [] 0 0 _ _ _
  refine x_aload_n dX3_init_0 rfl ?_
  refine x_objInit dX3_init_1 oi_RX3_3 (by omega) (Nat.le_of_ble_eq_true rfl) ?_
  refine x_aload_n dX3_init_4 rfl ?_
  refine x_bipush dX3_init_5 (by decide) ?_
  refine x_naputi (N := 8) dX3_init_7 dX3_init_9 gf_RX3_9 ob0 rfl (fun _ _ => rfl) (fun _ => rfl) (fun _ => rfl) rfl rfl rfl (by omega) rb0 (by omega) (by omega) (fun S1 J1 R1 gr1 lq1 rb1 fJ1 fR1 r1 ar1 z1 => ?_)
  have l1 : S1.1 = b + 2 := by omega
  have ob1 := Gr.ob gr1 ob0
  rw [← Gr.ad gr1 (a := b) (by omega), ← Gr.ad gr1 (a := w) (by omega)]
  refine x_aload_n dX3_init_12 rfl ?_
  refine x_sipush dX3_init_13 (by decide) ?_
  refine x_naputi (N := 303) dX3_init_16 dX3_init_18 gf_RX3_15 ob1 rfl (fun _ _ => rfl) (fun _ => rfl) (fun _ => rfl) rfl rfl rfl (by omega) rb1 (by omega) (by omega) (fun S2 J2 R2 gr2 lq2 rb2 fJ2 fR2 r2 ar2 z2 => ?_)
  have l2 : S2.1 = b + 3 := by omega
  have ob2 := Gr.ob gr2 ob1
  rw [← Gr.ad gr2 (a := b) (by omega), ← Gr.ad gr2 (a := w) (by omega)]
  refine x_aload_n dX3_init_21 rfl ?_
  refine x_aload_n dX3_init_22 rfl ?_
  refine x_putRF dX3_init_23 gf_RX3_18 ob2 rfl (fun _ _ => rfl) (fun _ => rfl) (fun _ => rfl) rfl rfl ?_
  refine x_return dX3_init_26 rfl (by omega) (by omega) ?_
  refine hp S2 _ _ ((Gr.tr gr1 gr2)) l2 (RB.ur rb2 (fun q hq => by have h9 := Option.some.inj hq; omega)) (fun x hx => ⟨?_, ?_⟩) ⟨ob2, ?_, ?_, ?_, ?_, ?_⟩ ⟨fun q => ?_, fun q => ?_⟩
  · rw [fJ2 (x) (by omega), fJ1 (x) (by omega)]
  · rw [uR_row (by omega)]; funext q; rw [fR2 (x) (q) (by omega) (by omega), fR1 (x) (q) (by omega) (by omega)]
  · rw [← l0]; exact Gr.ar gr2 ar1
  · rw [← l1]; exact ar2
  · rw [uR_o (by omega), fR2 (b) (1) (by omega) (by omega), r1, l0]
  · rw [uR_o (by omega), r2, l1]
  · rw [uR_s]
  · rw [fJ2 (b + 1) (by omega), ← l0]; exact z1 q
  · rw [← l1]; exact z2 q
theorem dX7_init_0 : decode prog_9_method_1_code 0 = .ok (.aload_n 0, 1) := by decide +kernel
theorem dX7_init_1 : decode prog_9_method_1_code 1 = .ok (.invokespecial 3, 3) := by decide +kernel
theorem dX7_init_4 : decode prog_9_method_1_code 4 = .ok (.aload_n 0, 1) := by decide +kernel
theorem dX7_init_5 : decode prog_9_method_1_code 5 = .ok (.bipush 36, 2) := by decide +kernel
theorem dX7_init_7 : decode prog_9_method_1_code 7 = .ok (.newarray .int, 2) := by decide +kernel
theorem dX7_init_9 : decode prog_9_method_1_code 9 = .ok (.putfield 9, 3) := by decide +kernel
theorem dX7_init_12 : decode prog_9_method_1_code 12 = .ok (.aload_n 0, 1) := by decide +kernel
theorem dX7_init_13 : decode prog_9_method_1_code 13 = .ok (.bipush 6, 2) := by decide +kernel
theorem dX7_init_15 : decode prog_9_method_1_code 15 = .ok (.newarray .int, 2) := by decide +kernel
theorem dX7_init_17 : decode prog_9_method_1_code 17 = .ok (.putfield 15, 3) := by decide +kernel
theorem dX7_init_20 : decode prog_9_method_1_code 20 = .ok (.aload_n 0, 1) := by decide +kernel
theorem dX7_init_21 : decode prog_9_method_1_code 21 = .ok (.bipush 6, 2) := by decide +kernel
theorem dX7_init_23 : decode prog_9_method_1_code 23 = .ok (.newarray .int, 2) := by decide +kernel
theorem dX7_init_25 : decode prog_9_method_1_code 25 = .ok (.putfield 18, 3) := by decide +kernel
theorem dX7_init_28 : decode prog_9_method_1_code 28 = .ok (.aload_n 0, 1) := by decide +kernel
theorem dX7_init_29 : decode prog_9_method_1_code 29 = .ok (.aload_n 1, 1) := by decide +kernel
theorem dX7_init_30 : decode prog_9_method_1_code 30 = .ok (.putfield 21, 3) := by decide +kernel
theorem dX7_init_33 : decode prog_9_method_1_code 33 = .ok (.aload_n 0, 1) := by decide +kernel
theorem dX7_init_34 : decode prog_9_method_1_code 34 = .ok (.aload_n 2, 1) := by decide +kernel
theorem dX7_init_35 : decode prog_9_method_1_code 35 = .ok (.putfield 25, 3) := by decide +kernel
theorem dX7_init_38 : decode prog_9_method_1_code 38 = .ok (.return_, 1) := by decide +kernel
theorem sp_X7_init {b w v : Nat} (hn : 2 ≤ n) (hb : OB S b 7) (hw : w < b) (hv : v < b) (hS : S.1 = b + 1) (hrb : RB S R) (hz : ∀ q, I b q = 0) (hp : ∀ (S2 : Sh) (J : CI) (R2 : CR), Gr S S2 → S2.1 = b + 4 → RB S2 R2 → (∀ x, x < b → J x = I x ∧ R2 x = R x) → (OB S2 b 7 ∧ AR S2 (b + 1) 13 36 ∧ AR S2 (b + 2) 13 6 ∧ AR S2 (b + 3) 13 6 ∧ R2 b 2 = some (b + 1) ∧ R2 b 3 = some (b + 2) ∧ R2 b 4 = some (b + 3) ∧ R2 b 0 = some w ∧ R2 b 1 = some v) → ((∀ q, J (b + 1) q = 0) ∧ (∀ q, J (b + 2) q = 0) ∧ (∀ q, J (b + 3) q = 0)) → Post none S2 J R2) : Call n 3 48 mX7_init [.ref (S.2.1 b), .ref (S.2.1 w), .ref (S.2.1 v)] S I R Post := by
  have n6 : nfd 6 = 9 := rfl
  have n9 : nfd 9 = 10 := rfl
  have gr0 : Gr S S := Gr.rf
  have l0 : S.1 = b + 1 := hS
  have ob0 : OB S b 7 := hb
  have rb0 := hrb
  refine Call.of (by decide +kernel) (Nat.le_of_ble_eq_true rfl) ?_
  show WP _ _ _ _ _ 0 [(0, _), (1, _), (2, _)] [] 0 0 _ _ _
  refine x_aload_n dX7_init_0 rfl ?_
  refine x_objInit dX7_init_1 oi_RX7_3 (by omega) (Nat.le_of_ble_eq_true rfl) ?_
  refine x_aload_n dX7_init_4 rfl ?_
  refine x_bipush dX7_init_5 (by decide) ?_
  refine x_naputi (N := 36) dX7_init_7 dX7_init_9 gf_RX7_9 ob0 rfl (fun _ _ => rfl) (fun _ => rfl) (fun _ => rfl) rfl rfl rfl (by omega) rb0 (by omega) (by omega) (fun S1 J1 R1 gr1 lq1 rb1 fJ1 fR1 r1 ar1 z1 => ?_)
  have l1 : S1.1 = b + 2 := by omega
  have ob1 := Gr.ob gr1 ob0
  rw [← Gr.ad gr1 (a := b) (by omega), ← Gr.ad gr1 (a := w) (by omega), ← Gr.ad gr1 (a := v) (by omega)]
  refine x_aload_n dX7_init_12 rfl ?_
  refine x_bipush dX7_init_13 (by decide) ?_
  refine x_naputi (N := 6) dX7_init_15 dX7_init_17 gf_RX7_15 ob1 rfl (fun _ _ => rfl) (fun _ => rfl) (fun _ => rfl) rfl rfl rfl (by omega) rb1 (by omega) (by omega) (fun S2 J2 R2 gr2 lq2 rb2 fJ2 fR2 r2 ar2 z2 => ?_)
  have l2 : S2.1 = b + 3 := by omega
  have ob2 := Gr.ob gr2 ob1
  rw [← Gr.ad gr2 (a := b) (by omega), ← Gr.ad gr2 (a := w) (by omega), ← Gr.ad gr2 (a := v) (by omega)]
  refine x_aload_n dX7_init_20 rfl ?_
  refine x_bipush dX7_init_21 (by decide) ?_
  refine x_naputi (N := 6) dX7_init_23 dX7_init_25 gf_RX7_18 ob2 rfl (fun _ _ => rfl) (fun _ => rfl) (fun _ => rfl) rfl rfl rfl (by omega) rb2 (by omega) (by omega) (fun S3 J3 R3 gr3 lq3 rb3 fJ3 fR3 r3 ar3 z3 => ?_)
  have l3 : S3.1 = b + 4 := by omega
  have ob3 := Gr.ob gr3 ob2
  rw [← Gr.ad gr3 (a := b) (by omega), ← Gr.ad gr3 (a := w) (by omega), ← Gr.ad gr3 (a := v) (by omega)]
  refine x_aload_n dX7_init_28 rfl ?_
  refine x_aload_n dX7_init_29 rfl ?_
  refine x_putRF dX7_init_30 gf_RX7_21 ob3 rfl (fun _ _ => rfl) (fun _ => rfl) (fun _ => rfl) rfl rfl ?_
  refine x_aload_n dX7_init_33 rfl ?_
  refine x_aload_n dX7_init_34 rfl ?_
  refine x_putRF dX7_init_35 gf_RX7_25 ob3 rfl (fun _ _ => rfl) (fun _ => rfl) (fun _ => rfl) rfl rfl ?_
  refine x_return dX7_init_38 rfl (by omega) (by omega) ?_
  refine hp S3 _ _ ((Gr.tr gr1 (Gr.tr gr2 gr3))) l3 (RB.ur (RB.ur rb3 (fun q hq => by have h9 := Option.some.inj hq; omega)) (fun q hq => by have h9 := Option.some.inj hq; omega)) (fun x hx => ⟨?_, ?_⟩) ⟨ob3, ?_, ?_, ?_, ?_, ?_, ?_, ?_, ?_⟩ ⟨fun q => ?_, fun q => ?_, fun q => ?_⟩
  · rw [fJ3 (x) (by omega), fJ2 (x) (by omega), fJ1 (x) (by omega)]
  · rw [uR_row (by omega), uR_row (by omega)]; funext q; rw [fR3 (x) (q) (by omega) (by omega), fR2 (x) (q) (by omega) (by omega), fR1 (x) (q) (by omega) (by omega)]
  · rw [← l0]; exact Gr.ar (Gr.tr gr2 gr3) ar1
  · rw [← l1]; exact Gr.ar gr3 ar2
  · rw [← l2]; exact ar3
  · rw [uR_o (by omega), uR_o (by omega), fR3 (b) (2) (by omega) (by omega), fR2 (b) (2) (by omega) (by omega), r1, l0]
  · rw [uR_o (by omega), uR_o (by omega), fR3 (b) (3) (by omega) (by omega), r2, l1]
  · rw [uR_o (by omega), uR_o (by omega), r3, l2]
  · rw [uR_o (by omega), uR_s]
  · rw [uR_s]
  · rw [fJ3 (b + 1) (by omega), fJ2 (b + 1) (by omega), ← l0]; exact z1 q
  · rw [fJ3 (b + 2) (by omega), ← l1]; exact z2 q
  · rw [← l2]; exact z3 q
theorem dX4_init_0 : decode prog_6_method_1_code 0 = .ok (.aload_n 0, 1) := by decide +kernel
theorem dX4_init_1 : decode prog_6_method_1_code 1 = .ok (.invokespecial 3, 3) := by decide +kernel
theorem dX4_init_4 : decode prog_6_method_1_code 4 = .ok (.aload_n 0, 1) := by decide +kernel
theorem dX4_init_5 : decode prog_6_method_1_code 5 = .ok (.iconst 5, 1) := by decide +kernel
theorem dX4_init_6 : decode prog_6_method_1_code 6 = .ok (.newarray .int, 2) := by decide +kernel
theorem dX4_init_8 : decode prog_6_method_1_code 8 = .ok (.putfield 9, 3) := by decide +kernel
theorem dX4_init_11 : decode prog_6_method_1_code 11 = .ok (.aload_n 0, 1) := by decide +kernel
theorem dX4_init_12 : decode prog_6_method_1_code 12 = .ok (.iconst 5, 1) := by decide +kernel
theorem dX4_init_13 : decode prog_6_method_1_code 13 = .ok (.newarray .int, 2) := by decide +kernel
theorem dX4_init_15 : decode prog_6_method_1_code 15 = .ok (.putfield 15, 3) := by decide +kernel
theorem dX4_init_18 : decode prog_6_method_1_code 18 = .ok (.aload_n 0, 1) := by decide +kernel
theorem dX4_init_19 : decode prog_6_method_1_code 19 = .ok (.bipush 8, 2) := by decide +kernel
theorem dX4_init_21 : decode prog_6_method_1_code 21 = .ok (.newarray .int, 2) := by decide +kernel
theorem dX4_init_23 : decode prog_6_method_1_code 23 = .ok (.putfield 18, 3) := by decide +kernel
theorem dX4_init_26 : decode prog_6_method_1_code 26 = .ok (.aload_n 0, 1) := by decide +kernel
theorem dX4_init_27 : decode prog_6_method_1_code 27 = .ok (.aload_n 1, 1) := by decide +kernel
theorem dX4_init_28 : decode prog_6_method_1_code 28 = .ok (.putfield 21, 3) := by decide +kernel
theorem dX4_init_31 : decode prog_6_method_1_code 31 = .ok (.aload_n 0, 1) := by decide +kernel
theorem dX4_init_32 : decode prog_6_method_1_code 32 = .ok (.aload_n 2, 1) := by decide +kernel
theorem dX4_init_33 : decode prog_6_method_1_code 33 = .ok (.putfield 25, 3) := by decide +kernel
theorem dX4_init_36 : decode prog_6_method_1_code 36 = .ok (.return_, 1) := by decide +kernel
theorem sp_X4_init {b w v : Nat} (hn : 2 ≤ n) (hb : OB S b 4) (hw : w < b) (hv : v < b) (hS : S.1 = b + 1) (hrb : RB S R) (hz : ∀ q, I b q = 0) (hp : ∀ (S2 : Sh) (J : CI) (R2 : CR), Gr S S2 → S2.1 = b + 4 → RB S2 R2 → (∀ x, x < b → J x = I x ∧ R2 x = R x) → (OB S2 b 4 ∧ AR S2 (b + 1) 13 5 ∧ AR S2 (b + 2) 13 5 ∧ AR S2 (b + 3) 13 8 ∧ R2 b 0 = some (b + 1) ∧ R2 b 5 = some (b + 2) ∧ R2 b 6 = some (b + 3) ∧ R2 b 3 = some w ∧ R2 b 4 = some v) → ((∀ q, J (b + 1) q = 0) ∧ (∀ q, J (b + 2) q = 0) ∧ (∀ q, J (b + 3) q = 0)) → Post none S2 J R2) : Call n 3 18 mX4_init [.ref (S.2.1 b), .ref (S.2.1 w), .ref (S.2.1 v)] S I R Post := by
  have n6 : nfd 6 = 9 := rfl
  have n9 : nfd 9 = 10 := rfl
  have gr0 : Gr S S := Gr.rf
  have l0 : S.1 = b + 1 := hS
  have ob0 : OB S b 4 := hb
  have rb0 := hrb
  refine Call.of (by decide +kernel) (Nat.le_of_ble_eq_true rfl) ?_
  show WP _ _ _ _ _ 0 [(0, _), (1, _), (2, _)] [] 0 0 _ _ _
  refine x_aload_n dX4_init_0 rfl ?_
  refine x_objInit dX4_init_1 oi_RX4_3 (by omega) (Nat.le_of_ble_eq_true rfl) ?_
  refine x_aload_n dX4_init_4 rfl ?_
  refine x_iconst dX4_init_5 ?_
  refine x_naputi (N := 5) dX4_init_6 dX4_init_8 gf_RX4_9 ob0 rfl (fun _ _ => rfl) (fun _ => rfl) (fun _ => rfl) rfl rfl rfl (by omega) rb0 (by omega) (by omega) (fun S1 J1 R1 gr1 lq1 rb1 fJ1 fR1 r1 ar1 z1 => ?_)
  have l1 : S1.1 = b + 2 := by omega
  have ob1 := Gr.ob gr1 ob0
  rw [← Gr.ad gr1 (a := b) (by omega), ← Gr.ad gr1 (a := w) (by omega), ← Gr.ad gr1 (a := v) (by omega)]
  refine x_aload_n dX4_init_11 rfl ?_
  refine x_iconst dX4_init_12 ?_
  refine x_naputi (N := 5) dX4_init_13 dX4_init_15 gf_RX4_15 ob1 rfl (fun _ _ => rfl) (fun _ => rfl) (fun _ => rfl) rfl rfl rfl (by omega) rb1 (by omega) (by omega) (fun S2 J2 R2 gr2 lq2 rb2 fJ2 fR2 r2 ar2 z2 => ?_)
  have l2 : S2.1 = b + 3 := by omega
  have ob2 := Gr.ob gr2 ob1
  rw [← Gr.ad gr2 (a := b) (by omega), ← Gr.ad gr2 (a := w) (by omega), ← Gr.ad gr2 (a := v) (by omega)]
  refine x_aload_n dX4_init_18 rfl ?_
  refine x_bipush dX4_init_19 (by decide) ?_
  refine x_naputi (N := 8) dX4_init_21 dX4_init_23 gf_RX4_18 ob2 rfl (fun _ _ => rfl) (fun _ => rfl) (fun _ => rfl) rfl rfl rfl (by omega) rb2 (by omega) (by omega) (fun S3 J3 R3 gr3 lq3 rb3 fJ3 fR3 r3 ar3 z3 => ?_)
  have l3 : S3.1 = b + 4 := by omega
  have ob3 := Gr.ob gr3 ob2
  rw [← Gr.ad gr3 (a := b) (by omega), ← Gr.ad gr3 (a := w) (by omega), ← Gr.ad gr3 (a := v) (by omega)]
  refine x_aload_n dX4_init_26 rfl ?_
  refine x_aload_n dX4_init_27 rfl ?_
  refine x_putRF dX4_init_28 gf_RX4_21 ob3 rfl (fun _ _ => rfl) (fun _ => rfl) (fun _ => rfl) rfl rfl ?_
  refine x_aload_n dX4_init_31 rfl ?_
  refine x_aload_n dX4_init_32 rfl ?_
  refine x_putRF dX4_init_33 gf_RX4_25 ob3 rfl (fun _ _ => rfl) (fun _ => rfl) (fun _ => rfl) rfl rfl ?_
  refine x_return dX4_init_36 rfl (by omega) (by omega) ?_
  refine hp S3 _ _ ((Gr.tr gr1 (Gr.tr gr2 gr3))) l3 (RB.ur (RB.ur rb3 (fun q hq => by have h9 := Option.some.inj hq; omega)) (fun q hq => by have h9 := Option.some.inj hq; omega)) (fun x hx => ⟨?_, ?_⟩) ⟨ob3, ?_, ?_, ?_, ?_, ?_, ?_, ?_, ?_⟩ ⟨fun q => ?_, fun q => ?_, fun q => ?_⟩
  · rw [fJ3 (x) (by omega), fJ2 (x) (by omega), fJ1 (x) (by omega)]
  · rw [uR_row (by omega), uR_row (by omega)]; funext q; rw [fR3 (x) (q) (by omega) (by omega), fR2 (x) (q) (by omega) (by omega), fR1 (x) (q) (by omega) (by omega)]
  · rw [← l0]; exact Gr.ar (Gr.tr gr2 gr3) ar1
  · rw [← l1]; exact Gr.ar gr3 ar2
  · rw [← l2]; exact ar3
  · rw [uR_o (by omega), uR_o (by omega), fR3 (b) (0) (by omega) (by omega), fR2 (b) (0) (by omega) (by omega), r1, l0]
  · rw [uR_o (by omega), uR_o (by omega), fR3 (b) (5) (by omega) (by omega), r2, l1]
  · rw [uR_o (by omega), uR_o (by omega), r3, l2]
  · rw [uR_o (by omega), uR_s]
  · rw [uR_s]
  · rw [fJ3 (b + 1) (by omega), fJ2 (b + 1) (by omega), ← l0]; exact z1 q
  · rw [fJ3 (b + 2) (by omega), ← l1]; exact z2 q
  · rw [← l2]; exact z3 q
theorem dX2_init_0 : decode prog_4_method_1_code 0 = .ok (.aload_n 0, 1) := by decide +kernel
theorem dX2_init_1 : decode prog_4_method_1_code 1 = .ok (.invokespecial 3, 3) := by decide +kernel
theorem dX2_init_4 : decode prog_4_method_1_code 4 = .ok (.aload_n 0, 1) := by decide +kernel
theorem dX2_init_5 : decode prog_4_method_1_code 5 = .ok (.bipush 6, 2) := by decide +kernel
theorem dX2_init_7 : decode prog_4_method_1_code 7 = .ok (.newarray .int, 2) := by decide +kernel
theorem dX2_init_9 : decode prog_4_method_1_code 9 = .ok (.putfield 9, 3) := by decide +kernel
theorem dX2_init_12 : decode prog_4_method_1_code 12 = .ok (.aload_n 0, 1) := by decide +kernel
theorem dX2_init_13 : decode prog_4_method_1_code 13 = .ok (.sipush 256, 3) := by decide +kernel
theorem dX2_init_16 : decode prog_4_method_1_code 16 = .ok (.newarray .int, 2) := by decide +kernel
theorem dX2_init_18 : decode prog_4_method_1_code 18 = .ok (.putfield 15, 3) := by decide +kernel
theorem dX2_init_21 : decode prog_4_method_1_code 21 = .ok (.aload_n 0, 1) := by decide +kernel
theorem dX2_init_22 : decode prog_4_method_1_code 22 = .ok (.sipush 256, 3) := by decide +kernel
theorem dX2_init_25 : decode prog_4_method_1_code 25 = .ok (.newarray .int, 2) := by decide +kernel
theorem dX2_init_27 : decode prog_4_method_1_code 27 = .ok (.putfield 18, 3) := by decide +kernel
theorem dX2_init_30 : decode prog_4_method_1_code 30 = .ok (.aload_n 0, 1) := by decide +kernel
theorem dX2_init_31 : decode prog_4_method_1_code 31 = .ok (.aload_n 1, 1) := by decide +kernel
theorem dX2_init_32 : decode prog_4_method_1_code 32 = .ok (.putfield 21, 3) := by decide +kernel
theorem dX2_init_35 : decode prog_4_method_1_code 35 = .ok (.return_, 1) := by decide +kernel
theorem sp_X2_init {b w : Nat} (hn : 2 ≤ n) (hb : OB S b 2) (hw : w < b) (hS : S.1 = b + 1) (hrb : RB S R) (hz : ∀ q, I b q = 0) (hp : ∀ (S2 : Sh) (J : CI) (R2 : CR), Gr S S2 → S2.1 = b + 4 → RB S2 R2 → (∀ x, x < b → J x = I x ∧ R2 x = R x) → (OB S2 b 2 ∧ AR S2 (b + 1) 13 6 ∧ AR S2 (b + 2) 13 256 ∧ AR S2 (b + 3) 13 256 ∧ R2 b 1 = some (b + 1) ∧ R2 b 2 = some (b + 2) ∧ R2 b 3 = some (b + 3) ∧ R2 b 0 = some w) → ((∀ q, J (b + 1) q = 0) ∧ (∀ q, J (b + 2) q = 0) ∧ (∀ q, J (b + 3) q = 0)) → Post none S2 J R2) : Call n 3 518 mX2_init [.ref (S.2.1 b), .ref (S.2.1 w)] S I R Post := by
  have n6 : nfd 6 = 9 := rfl
  have n9 : nfd 9 = 10 := rfl
  have gr0 : Gr S S := Gr.rf
  have l0 : S.1 = b + 1 := hS
  have ob0 : OB S b 2 := hb
  have rb0 := hrb
  refine Call.of (by decide +kernel) (Nat.le_of_ble_eq_true rfl) ?_
  show WP _ _ _ _ _ 0 [(0, _), (1, _)] [] 0 0 _ _ _
  refine x_aload_n dX2_init_0 rfl ?_
  refine x_objInit dX2_init_1 oi_RX2_3 (by omega) (Nat.le_of_ble_eq_true rfl) ?_
  refine x_aload_n dX2_init_4 rfl ?_
  refine x_bipush dX2_init_5 (by decide) ?_
  refine x_naputi (N := 6) dX2_init_7 dX2_init_9 gf_RX2_9 ob0 rfl (fun _ _ => rfl) (fun _ => rfl) (fun _ => rfl) rfl rfl rfl (by omega) rb0 (by omega) (by omega) (fun S1 J1 R1 gr1 lq1 rb1 fJ1 fR1 r1 ar1 z1 => ?_)
  have l1 : S1.1 = b + 2 := by omega
  have ob1 := Gr.ob gr1 ob0
  rw [← Gr.ad gr1 (a := b) (by omega), ← Gr.ad gr1 (a := w) (by omega)]
  refine x_aload_n dX2_init_12 rfl ?_
  refine x_sipush dX2_init_13 (by decide) ?_
  refine x_naputi (N := 256) dX2_init_16 dX2_init_18 gf_RX2_15 ob1 rfl (fun _ _ => rfl) (fun _ => rfl) (fun _ => rfl) rfl rfl rfl (by omega) rb1 (by omega) (by omega) (fun S2 J2 R2 gr2 lq2 rb2 fJ2 fR2 r2 ar2 z2 => ?_)
  have l2 : S2.1 = b + 3 := by omega
  have ob2 := Gr.ob gr2 ob1
  rw [← Gr.ad gr2 (a := b) (by omega), ← Gr.ad gr2 (a := w) (by omega)]
  refine x_aload_n dX2_init_21 rfl ?_
  refine x_sipush dX2_init_22 (by decide) ?_
  refine x_naputi (N := 256) dX2_init_25 dX2_init_27 gf_RX2_18 ob2 rfl (fun _ _ => rfl) (fun _ => rfl) (fun _ => rfl) rfl rfl rfl (by omega) rb2 (by omega) (by omega) (fun S3 J3 R3 gr3 lq3 rb3 fJ3 fR3 r3 ar3 z3 => ?_)
  have l3 : S3.1 = b + 4 := by omega
  have ob3 := Gr.ob gr3 ob2
  rw [← Gr.ad gr3 (a := b) (by omega), ← Gr.ad gr3 (a := w) (by omega)]
  refine x_aload_n dX2_init_30 rfl ?_
  refine x_aload_n dX2_init_31 rfl ?_
  refine x_putRF dX2_init_32 gf_RX2_21 ob3 rfl (fun _ _ => rfl) (fun _ => rfl) (fun _ => rfl) rfl rfl ?_
  refine x_return dX2_init_35 rfl (by omega) (by omega) ?_
  refine hp S3 _ _ ((Gr.tr gr1 (Gr.tr gr2 gr3))) l3 (RB.ur rb3 (fun q hq => by have h9 := Option.some.inj hq; omega)) (fun x hx => ⟨?_, ?_⟩) ⟨ob3, ?_, ?_, ?_, ?_, ?_, ?_, ?_⟩ ⟨fun q => ?_, fun q => ?_, fun q => ?_⟩
  · rw [fJ3 (x) (by omega), fJ2 (x) (by omega), fJ1 (x) (by omega)]
  · rw [uR_row (by omega)]; funext q; rw [fR3 (x) (q) (by omega) (by omega), fR2 (x) (q) (by omega) (by omega), fR1 (x) (q) (by omega) (by omega)]
  · rw [← l0]; exact Gr.ar (Gr.tr gr2 gr3) ar1
  · rw [← l1]; exact Gr.ar gr3 ar2
  · rw [← l2]; exact ar3
  · rw [uR_o (by omega), fR3 (b) (1) (by omega) (by omega), fR2 (b) (1) (by omega) (by omega), r1, l0]
  · rw [uR_o (by omega), fR3 (b) (2) (by omega) (by omega), r2, l1]
  · rw [uR_o (by omega), r3, l2]
  · rw [uR_s]
  · rw [fJ3 (b + 1) (by omega), fJ2 (b + 1) (by omega), ← l0]; exact z1 q
  · rw [fJ3 (b + 2) (by omega), ← l1]; exact z2 q
  · rw [← l2]; exact z3 q
theorem dX1_init_0 : decode prog_3_method_1_code 0 = .ok (.aload_n 0, 1) := by decide +kernel
theorem dX1_init_1 : decode prog_3_method_1_code 1 = .ok (.invokespecial 3, 3) := by decide +kernel
theorem dX1_init_4 : decode prog_3_method_1_code 4 = .ok (.aload_n 0, 1) := by decide +kernel
theorem dX1_init_5 : decode prog_3_method_1_code 5 = .ok (.bipush 10, 2) := by decide +kernel
theorem dX1_init_7 : decode prog_3_method_1_code 7 = .ok (.newarray .int, 2) := by decide +kernel
theorem dX1_init_9 : decode prog_3_method_1_code 9 = .ok (.putfield 9, 3) := by decide +kernel
theorem dX1_init_12 : decode prog_3_method_1_code 12 = .ok (.aload_n 0, 1) := by decide +kernel
theorem dX1_init_13 : decode prog_3_method_1_code 13 = .ok (.bipush 10, 2) := by decide +kernel
theorem dX1_init_15 : decode prog_3_method_1_code 15 = .ok (.newarray .int, 2) := by decide +kernel
theorem dX1_init_17 : decode prog_3_method_1_code 17 = .ok (.putfield 15, 3) := by decide +kernel
theorem dX1_init_20 : decode prog_3_method_1_code 20 = .ok (.aload_n 0, 1) := by decide +kernel
theorem dX1_init_21 : decode prog_3_method_1_code 21 = .ok (.aload_n 1, 1) := by decide +kernel
theorem dX1_init_22 : decode prog_3_method_1_code 22 = .ok (.putfield 18, 3) := by decide +kernel
theorem dX1_init_25 : decode prog_3_method_1_code 25 = .ok (.return_, 1) := by decide +kernel
theorem sp_X1_init {b w : Nat} (hn : 2 ≤ n) (hb : OB S b 1) (hw : w < b) (hS : S.1 = b + 1) (hrb : RB S R) (hz : ∀ q, I b q = 0) (hp : ∀ (S2 : Sh) (J : CI) (R2 : CR), Gr S S2 → S2.1 = b + 3 → RB S2 R2 → (∀ x, x < b → J x = I x ∧ R2 x = R x) → (OB S2 b 1 ∧ AR S2 (b + 1) 13 10 ∧ AR S2 (b + 2) 13 10 ∧ R2 b 1 = some (b + 1) ∧ R2 b 2 = some (b + 2) ∧ R2 b 0 = some w) → ((∀ q, J (b + 1) q = 0) ∧ (∀ q, J (b + 2) q = 0)) → Post none S2 J R2) : Call n 2 20 mX1_init [.ref (S.2.1 b), .ref (S.2.1 w)] S I R Post := by
  have n6 : nfd 6 = 9 := rfl
  have n9 : nfd 9 = 10 := rfl
  have gr0 : Gr S S := Gr.rf
  have l0 : S.1 = b + 1 := hS
  have ob0 : OB S b 1 := hb
  have rb0 := hrb
  refine Call.of (by decide +kernel) (Nat.le_of_ble_eq_true rfl) ?_
  show WP _ _ _ _ _ 0 [(0, _), (1, _)] [] 0 0 _ _ _
  refine x_aload_n dX1_init_0 rfl ?_
  refine x_objInit dX1_init_1 oi_RX1_3 (by omega) (Nat.le_of_ble_eq_true rfl) ?_
  refine x_aload_n dX1_init_4 rfl ?_
  refine x_bipush dX1_init_5 (by decide) ?_
  refine x_naputi (N := 10) dX1_init_7 dX1_init_9 gf_RX1_9 ob0 rfl (fun _ _ => rfl) (fun _ => rfl) (fun _ => rfl) rfl rfl rfl (by omega) rb0 (by omega) (by omega) (fun S1 J1 R1 gr1 lq1 rb1 fJ1 fR1 r1 ar1 z1 => ?_)
  have l1 : S1.1 = b + 2 := by omega
  have ob1 := Gr.ob gr1 ob0
  rw [← Gr.ad gr1 (a := b) (by omega), ← Gr.ad gr1 (a := w) (by omega)]
  refine x_aload_n dX1_init_12 rfl ?_
  refine x_bipush dX1_init_13 (by decide) ?_
  refine x_naputi (N := 10) dX1_init_15 dX1_init_17 gf_RX1_15 ob1 rfl (fun _ _ => rfl) (fun _ => rfl) (fun _ => rfl) rfl rfl rfl (by omega) rb1 (by omega) (by omega) (fun S2 J2 R2 gr2 lq2 rb2 fJ2 fR2 r2 ar2 z2 => ?_)
  have l2 : S2.1 = b + 3 := by omega
  have ob2 := Gr.ob gr2 ob1
  rw [← Gr.ad gr2 (a := b) (by omega), ← Gr.ad gr2 (a := w) (by omega)]
  refine x_aload_n dX1_init_20 rfl ?_
  refine x_aload_n dX1_init_21 rfl ?_
  refine x_putRF dX1_init_22 gf_RX1_18 ob2 rfl (fun _ _ => rfl) (fun _ => rfl) (fun _ => rfl) rfl rfl ?_
  refine x_return dX1_init_25 rfl (by omega) (by omega) ?_
  refine hp S2 _ _ ((Gr.tr gr1 gr2)) l2 (RB.ur rb2 (fun q hq => by have h9 := Option.some.inj hq; omega)) (fun x hx => ⟨?_, ?_⟩) ⟨ob2, ?_, ?_, ?_, ?_, ?_⟩ ⟨fun q => ?_, fun q => ?_⟩
  · rw [fJ2 (x) (by omega), fJ1 (x) (by omega)]
  · rw [uR_row (by omega)]; funext q; rw [fR2 (x) (q) (by omega) (by omega), fR1 (x) (q) (by omega) (by omega)]
  · rw [← l0]; exact Gr.ar gr2 ar1
  · rw [← l1]; exact ar2
  · rw [uR_o (by omega), fR2 (b) (1) (by omega) (by omega), r1, l0]
  · rw [uR_o (by omega), r2, l1]
  · rw [uR_s]
  · rw [fJ2 (b + 1) (by omega), ← l0]; exact z1 q
  · rw [← l1]; exact z2 q
end Ctor1
