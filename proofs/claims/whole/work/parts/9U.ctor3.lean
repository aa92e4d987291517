section Ctor3
variable {n mc ms : Nat} {M : Md} {pc : Nat} {lv : List (Nat × Value)} {st : List Value} {k j : Nat} {Post : PT} {S : Sh} {I : CI} {R : CR} {A : Nat → Int} {tx : Nat → Nat → Int}
theorem dX10_init_0 : decode prog_12_method_1_code 0 = .ok (.aload_n 0, 1) := by decide +kernel
theorem dX10_init_1 : decode prog_12_method_1_code 1 = .ok (.invokespecial 3, 3) := by decide +kernel
theorem dX10_init_4 : decode prog_12_method_1_code 4 = .ok (.aload_n 0, 1) := by decide +kernel
theorem dX10_init_5 : decode prog_12_method_1_code 5 = .ok (.bipush 8, 2) := by decide +kernel
theorem dX10_init_7 : decode prog_12_method_1_code 7 = .ok (.newarray .int, 2) := by decide +kernel
theorem dX10_init_9 : decode prog_12_method_1_code 9 = .ok (.putfield 9, 3) := by decide +kernel
theorem dX10_init_12 : decode prog_12_method_1_code 12 = .ok (.aload_n 0, 1) := by decide +kernel
theorem dX10_init_13 : decode prog_12_method_1_code 13 = .ok (.bipush 8, 2) := by decide +kernel
theorem dX10_init_15 : decode prog_12_method_1_code 15 = .ok (.newarray .int, 2) := by decide +kernel
theorem dX10_init_17 : decode prog_12_method_1_code 17 = .ok (.putfield 15, 3) := by decide +kernel
theorem dX10_init_20 : decode prog_12_method_1_code 20 = .ok (.aload_n 0, 1) := by decide +kernel
theorem dX10_init_21 : decode prog_12_method_1_code 21 = .ok (.bipush 8, 2) := by decide +kernel
theorem dX10_init_23 : decode prog_12_method_1_code 23 = .ok (.newarray .int, 2) := by decide +kernel
theorem dX10_init_25 : decode prog_12_method_1_code 25 = .ok (.putfield 18, 3) := by decide +kernel
theorem dX10_init_28 : decode prog_12_method_1_code 28 = .ok (.aload_n 0, 1) := by decide +kernel
theorem dX10_init_29 : decode prog_12_method_1_code 29 = .ok (.bipush 8, 2) := by decide +kernel
theorem dX10_init_31 : decode prog_12_method_1_code 31 = .ok (.newarray .int, 2) := by decide +kernel
theorem dX10_init_33 : decode prog_12_method_1_code 33 = .ok (.putfield 21, 3) := by decide +kernel
theorem dX10_init_36 : decode prog_12_method_1_code 36 = .ok (.aload_n 0, 1) := by decide +kernel
theorem dX10_init_37 : decode prog_12_method_1_code 37 = .ok (.new 24, 3) := by decide +kernel
theorem dX10_init_40 : decode prog_12_method_1_code 40 = .ok (.dup, 1) := by decide +kernel
theorem dX10_init_41 : decode prog_12_method_1_code 41 = .ok (.invokespecial 26, 3) := by decide +kernel
theorem dX10_init_44 : decode prog_12_method_1_code 44 = .ok (.putfield 27, 3) := by decide +kernel
theorem dX10_init_47 : decode prog_12_method_1_code 47 = .ok (.aload_n 0, 1) := by decide +kernel
theorem dX10_init_48 : decode prog_12_method_1_code 48 = .ok (.bipush 30, 2) := by decide +kernel
theorem dX10_init_50 : decode prog_12_method_1_code 50 = .ok (.anewarray 24, 3) := by decide +kernel
theorem dX10_init_53 : decode prog_12_method_1_code 53 = .ok (.putfield 31, 3) := by decide +kernel
theorem dX10_init_56 : decode prog_12_method_1_code 56 = .ok (.aload_n 0, 1) := by decide +kernel
theorem dX10_init_57 : decode prog_12_method_1_code 57 = .ok (.bipush 120, 2) := by decide +kernel
theorem dX10_init_59 : decode prog_12_method_1_code 59 = .ok (.newarray .int, 2) := by decide +kernel
theorem dX10_init_61 : decode prog_12_method_1_code 61 = .ok (.putfield 35, 3) := by decide +kernel
theorem dX10_init_64 : decode prog_12_method_1_code 64 = .ok (.aload_n 0, 1) := by decide +kernel
theorem dX10_init_65 : decode prog_12_method_1_code 65 = .ok (.iconst 4, 1) := by decide +kernel
theorem dX10_init_66 : decode prog_12_method_1_code 66 = .ok (.anewarray 38, 3) := by decide +kernel
theorem dX10_init_69 : decode prog_12_method_1_code 69 = .ok (.putfield 40, 3) := by decide +kernel
theorem dX10_init_72 : decode prog_12_method_1_code 72 = .ok (.aload_n 0, 1) := by decide +kernel
theorem dX10_init_73 : decode prog_12_method_1_code 73 = .ok (.new 44, 3) := by decide +kernel
theorem dX10_init_76 : decode prog_12_method_1_code 76 = .ok (.dup, 1) := by decide +kernel
theorem dX10_init_77 : decode prog_12_method_1_code 77 = .ok (.invokespecial 46, 3) := by decide +kernel
theorem dX10_init_80 : decode prog_12_method_1_code 80 = .ok (.putfield 47, 3) := by decide +kernel
theorem dX10_init_83 : decode prog_12_method_1_code 83 = .ok (.aload_n 0, 1) := by decide +kernel
theorem dX10_init_84 : decode prog_12_method_1_code 84 = .ok (.iconst (-1), 1) := by decide +kernel
theorem dX10_init_85 : decode prog_12_method_1_code 85 = .ok (.putfield 51, 3) := by decide +kernel
theorem dX10_init_88 : decode prog_12_method_1_code 88 = .ok (.iconst 0, 1) := by decide +kernel
theorem dX10_init_89 : decode prog_12_method_1_code 89 = .ok (.istore_n 1, 1) := by decide +kernel
theorem dX10_init_90 : decode prog_12_method_1_code 90 = .ok (.iload_n 1, 1) := by decide +kernel
theorem dX10_init_91 : decode prog_12_method_1_code 91 = .ok (.bipush 30, 2) := by decide +kernel
theorem dX10_init_93 : decode prog_12_method_1_code 93 = .ok (.if_icmp .ge 22, 3) := by decide +kernel
theorem dX10_init_96 : decode prog_12_method_1_code 96 = .ok (.aload_n 0, 1) := by decide +kernel
theorem dX10_init_97 : decode prog_12_method_1_code 97 = .ok (.getfield 31, 3) := by decide +kernel
theorem dX10_init_100 : decode prog_12_method_1_code 100 = .ok (.iload_n 1, 1) := by decide +kernel
theorem dX10_init_101 : decode prog_12_method_1_code 101 = .ok (.new 24, 3) := by decide +kernel
theorem dX10_init_104 : decode prog_12_method_1_code 104 = .ok (.dup, 1) := by decide +kernel
theorem dX10_init_105 : decode prog_12_method_1_code 105 = .ok (.invokespecial 26, 3) := by decide +kernel
theorem dX10_init_108 : decode prog_12_method_1_code 108 = .ok (.aastore, 1) := by decide +kernel
theorem dX10_init_109 : decode prog_12_method_1_code 109 = .ok (.iinc 1 1, 3) := by decide +kernel
theorem dX10_init_112 : decode prog_12_method_1_code 112 = .ok (.goto (-22), 3) := by decide +kernel
theorem dX10_init_115 : decode prog_12_method_1_code 115 = .ok (.return_, 1) := by decide +kernel
theorem x_kj {k2 j2 : Nat} (hk : k = k2) (hj : j = j2) (h : WP n mc ms M Post pc lv st k2 j2 S I R) : WP n mc ms M Post pc lv st k j S I R := by
  subst hk hj; exact h
theorem ST.gr {S2 : Sh} {a : Nat} {R2 : CR} (g : Gr S S2) (hr : R2 a = R a) (h : ST S R a) : ST S2 R2 a := by
  obtain ⟨s1, s2, s3, s4, s5, s6, s7⟩ := h
  exact ⟨g.ob s1, by rw [hr]; exact s2, by rw [hr]; exact s3, by rw [hr]; exact s4, g.ar s5, g.ar s6, g.ar s7⟩
theorem TS.gr {S2 : Sh} {a : Nat} {R2 : CR} (g : Gr S S2) (hr : R2 a = R a) (h : TS S R a) : TS S2 R2 a := by
  obtain ⟨s1, ⟨r0, r1, r2, r3, r4, r5⟩, ⟨a1, a2, a3, a4, a5, a6⟩⟩ := h
  exact ⟨g.ob s1, ⟨by rw [hr]; exact r0, by rw [hr]; exact r1, by rw [hr]; exact r2, by rw [hr]; exact r3, by rw [hr]; exact r4, by rw [hr]; exact r5⟩, ⟨g.ar a1, g.ar a2, g.ar a3, g.ar a4, g.ar a5, g.ar a6⟩⟩
theorem lp_X10_init {b : Nat} {S0 : Sh} {I0 : CI} {R0 : CR} (hn : 4 ≤ n) (hob : OB S0 b 10) (har : AR S0 (b + 9) 16 30) (hr9 : R0 b 5 = some (b + 9)) (hp : ∀ (S2 : Sh) (J : CI) (R2 : CR), Gr S0 S2 → S2.1 = b + 139 → RB S2 R2 → (∀ x, x < b + 19 → J x = I0 x) → (∀ x q, x < b + 19 → x ≠ b + 9 → R2 x q = R0 x q) → (∀ q, q < 30 → R2 (b + 9) q = some (b + 19 + 4 * q) ∧ ST S2 R2 (b + 19 + 4 * q)) → Post none S2 J R2) : ∀ (dd i : Nat) (S : Sh) (J : CI) (R : CR), i ≤ 30 → 30 - i = dd → Gr S0 S → S.1 = b + 19 + 4 * i → RB S R → (∀ x, x < b + 19 → J x = I0 x) → (∀ x q, x < b + 19 → x ≠ b + 9 → R x q = R0 x q) → (∀ q, q < i → R (b + 9) q = some (b + 19 + 4 * q) ∧ ST S R (b + 19 + 4 * q)) → WP n 138 1265 mX10_init Post 90 [(0, .ref (S.2.1 b)), (1, .int (iI (i : Int)))] [] (18 + 4 * i) (275 + 33 * i) S J R := by
  have n6 : nfd 6 = 9 := rfl
  intro dd
  induction dd using Nat.strongRecOn with
  | ind dd ih =>
    intro i S J R hi hd g hs hrb fJ fR fS
    have ob0 := g.ob hob
    have ar0 := g.ar har
    have r0 : R b 5 = some (b + 9) := by rw [fR b 5 (by omega) (by omega)]; exact hr9
    refine x_iload_n dX10_init_90 rfl ?_
    refine x_bipush dX10_init_91 (by decide) ?_
    refine x_icmp_ge 115 dX10_init_93 (by decide) ⟨(by omega), (by omega)⟩ (fun w93 => ?_) (fun w93 => ?_)
    · obtain rfl : i = 30 := by omega
      exact x_return dX10_init_115 rfl (by omega) (by omega) (hp S J R g (by omega) hrb fJ fR fS)
    · refine x_aload_n dX10_init_96 rfl ?_
      refine x_getR (b := b + 9) dX10_init_97 gf_RX10_31 ob0 (fun _ _ => rfl) r0 ?_
      refine x_iload_n dX10_init_100 rfl ?_
      refine x_new dX10_init_101 nw_RX10_24 hrb (by omega) (by omega) (fun S1 w1 => ?_)
      have lw := w1.1
      rw [← Gr.ad (Nw.gr w1) (a := b) (by omega), ← Gr.ad (Nw.gr w1) (a := b + 9) (by omega)]
      refine x_dup dX10_init_104 rfl ?_
      refine x_callIN0 (b := S.1) (mc1 := 3) (ms1 := 24) dX10_init_105 cv_RX10_26 (Nat.le_of_ble_eq_true rfl) (n1 := n - 1) (by omega) (by omega) (by omega) ?_
      refine sp_X6_init (by omega) (Nw.nob w1) w1.1 (RB.zr hrb (Nw.gr w1).1 _) (fun q => zI_s _ _ _) (fun S2 J2 R2 gx lx rx fx sx vx => ?_)
      show WP n 138 1265 mX10_init Post 108 _ [.ref (S1.2.1 S.1), .int (iI (i : Int)), .ref (S1.2.1 (b + 9))] _ _ S2 J2 R2
      rw [← Gr.ad gx (a := b) (by omega), ← Gr.ad gx (a := S.1) (by omega), ← Gr.ad gx (a := b + 9) (by omega)]
      have gg : Gr S S2 := Gr.tr (Nw.gr w1) gx
      refine x_aastore_s dX10_init_108 (gg.ar ar0) (Gr.ob gx (Nw.nob w1)) (by omega) (by omega) ?_
      refine x_iinc (lv2 := [(1, _), (0, _)]) dX10_init_109 rfl (by decide) rfl ?_
      refine x_goto 90 dX10_init_112 (by decide) ?_
      refine x_sub [1, 0] rfl ?_
      refine x_kj (k2 := 18 + 4 * (i + 1)) (j2 := 275 + 33 * (i + 1)) (by omega) (by omega) ?_
      rw [show (i : Int) + 1 = ((i + 1 : Nat) : Int) by omega]
      have e9 : ∀ x q, (x ≠ b + 9 ∨ q ≠ i) → x < S.1 → uR R2 (b + 9) ((i : Int)).toNat (some S.1) x q = R x q := fun x q h1 h2 => by rw [uR_o (by omega), (fx x h2).2, zR_o (by omega)]
      have s9 : uR R2 (b + 9) ((i : Int)).toNat (some S.1) (b + 9) i = some S.1 := by rw [show ((i : Int)).toNat = i by omega]; exact uR_s _ _ _ _
      refine ih (30 - (i + 1)) (by omega) (i + 1) S2 J2 _ (by omega) rfl (Gr.tr g gg) (by omega) (RB.ur rx (fun q hq => by have h9 := Option.some.inj hq; omega)) (fun x hx => by rw [(fx x (by omega)).1, zI_o (by omega)]; exact fJ x hx) (fun x q h1 h2 => by rw [e9 x q (Or.inl h2) (by omega)]; exact fR x q h1 h2) (fun q hq => ?_)
      by_cases hqi : q = i
      · subst hqi
        rw [s9, ← hs]
        exact ⟨rfl, ST.rr (fun x q h9 => by rw [uR_o (by omega)]) sx⟩
      · rw [e9 (b + 9) q (Or.inr hqi) (by omega)]
        have hq2 := fS q (by omega)
        exact ⟨hq2.1, ST.gr gg (by funext z; rw [e9 (b + 19 + 4 * q) z (Or.inl (by omega)) (by omega)]) hq2.2⟩
def WZ (J : CI) (a : Nat) : Prop := (J a 9 = 0 ∧ J a 10 = 0 ∧ J a 11 = 0 ∧ J a 12 = -1) ∧ ((∀ q, J (a + 1) q = 0) ∧ (∀ q, J (a + 2) q = 0) ∧ (∀ q, J (a + 3) q = 0) ∧ ∀ q, J (a + 4) q = 0) ∧ StZ J (a + 5) ∧ TdZ J (a + 12)
theorem StZ.w {J K : CI} {a : Nat} (h : StZ J a) (e : ∀ x, a ≤ x → x < a + 4 → K x = J x) : StZ K a := by
  unfold StZ
  rw [e a (by omega) (by omega), e (a + 1) (by omega) (by omega), e (a + 2) (by omega) (by omega), e (a + 3) (by omega) (by omega)]
  exact h
theorem TdZ.w {J K : CI} {a : Nat} (h : TdZ J a) (e : ∀ x, a ≤ x → x < a + 7 → K x = J x) : TdZ K a := by
  unfold TdZ
  rw [e a (by omega) (by omega), e (a + 1) (by omega) (by omega), e (a + 2) (by omega) (by omega), e (a + 3) (by omega) (by omega), e (a + 4) (by omega) (by omega), e (a + 5) (by omega) (by omega), e (a + 6) (by omega) (by omega)]
  exact h
theorem sp_X10_init {b : Nat} (hn : 4 ≤ n) (hb : OB S b 10) (hS : S.1 = b + 1) (hrb : RB S R) (hz : ∀ q, I b q = 0) (hp : ∀ (S2 : Sh) (J : CI) (R2 : CR), Gr S S2 → S2.1 = b + 139 → RB S2 R2 → (∀ x, x < b → J x = I x ∧ R2 x = R x) → (WS S2 R2 b ∧ ∀ q, R2 (b + 11) q = none) → (WZ J b) → Post none S2 J R2) : Call n 138 1265 mX10_init [.ref (S.2.1 b)] S I R Post := by
  have n6 : nfd 6 = 9 := rfl
  have n9 : nfd 9 = 10 := rfl
  have gr0 : Gr S S := Gr.rf
  have l0 : S.1 = b + 1 := hS
  have ob0 : OB S b 10 := hb
  have rb0 := hrb
  refine Call.of (by decide +kernel) (Nat.le_of_ble_eq_true rfl) ?_
  show WP _ _ _ _ _ 0 [(0, _)] [] 0 0 _ _ _
  refine x_aload_n dX10_init_0 rfl ?_
  refine x_objInit dX10_init_1 oi_RX10_3 (by omega) (Nat.le_of_ble_eq_true rfl) ?_
  refine x_aload_n dX10_init_4 rfl ?_
  refine x_bipush dX10_init_5 (by decide) ?_
  refine x_naputi (N := 8) dX10_init_7 dX10_init_9 gf_RX10_9 ob0 rfl (fun _ _ => rfl) (fun _ => rfl) (fun _ => rfl) rfl rfl rfl (by omega) rb0 (by omega) (by omega) (fun S1 J1 R1 gr1 lq1 rb1 fJ1 fR1 r1 ar1 z1 => ?_)
  have l1 : S1.1 = b + 2 := by omega
  have ob1 := Gr.ob gr1 ob0
  rw [← Gr.ad gr1 (a := b) (by omega)]
  refine x_aload_n dX10_init_12 rfl ?_
  refine x_bipush dX10_init_13 (by decide) ?_
  refine x_naputi (N := 8) dX10_init_15 dX10_init_17 gf_RX10_15 ob1 rfl (fun _ _ => rfl) (fun _ => rfl) (fun _ => rfl) rfl rfl rfl (by omega) rb1 (by omega) (by omega) (fun S2 J2 R2 gr2 lq2 rb2 fJ2 fR2 r2 ar2 z2 => ?_)
  have l2 : S2.1 = b + 3 := by omega
  have ob2 := Gr.ob gr2 ob1
  rw [← Gr.ad gr2 (a := b) (by omega)]
  refine x_aload_n dX10_init_20 rfl ?_
  refine x_bipush dX10_init_21 (by decide) ?_
  refine x_naputi (N := 8) dX10_init_23 dX10_init_25 gf_RX10_18 ob2 rfl (fun _ _ => rfl) (fun _ => rfl) (fun _ => rfl) rfl rfl rfl (by omega) rb2 (by omega) (by omega) (fun S3 J3 R3 gr3 lq3 rb3 fJ3 fR3 r3 ar3 z3 => ?_)
  have l3 : S3.1 = b + 4 := by omega
  have ob3 := Gr.ob gr3 ob2
  rw [← Gr.ad gr3 (a := b) (by omega)]
  refine x_aload_n dX10_init_28 rfl ?_
  refine x_bipush dX10_init_29 (by decide) ?_
  refine x_naputi (N := 8) dX10_init_31 dX10_init_33 gf_RX10_21 ob3 rfl (fun _ _ => rfl) (fun _ => rfl) (fun _ => rfl) rfl rfl rfl (by omega) rb3 (by omega) (by omega) (fun S4 J4 R4 gr4 lq4 rb4 fJ4 fR4 r4 ar4 z4 => ?_)
  have l4 : S4.1 = b + 5 := by omega
  have ob4 := Gr.ob gr4 ob3
  rw [← Gr.ad gr4 (a := b) (by omega)]
  refine x_aload_n dX10_init_36 rfl ?_
  refine x_obput (n1 := n - 1) (sz := 4) (ms1 := 24) (fun S R a => ST S R a) StZ (fun S R R2 a hr h => ST.rr hr h) dX10_init_37 dX10_init_40 dX10_init_41 dX10_init_44 nw_RX10_24 cv_RX10_26 (fun P1 T1 I1 R1 a1 h1 h2 h3 h4 h5 => sp_X6_init (by omega) h1 h2 h3 h4 h5) gf_RX10_27  ob4 rfl (fun _ _ => rfl) (fun _ => rfl) (fun _ => rfl) rfl rfl (by omega) rb4 (by omega) (by omega) (fun S5 J5 R5 gr5 lq5 rb5 fJ5 fR5 r5 sh5 va5 => ?_)
  have l5 : S5.1 = b + 9 := by omega
  have ob5 := Gr.ob gr5 ob4
  rw [← Gr.ad gr5 (a := b) (by omega)]
  refine x_aload_n dX10_init_47 rfl ?_
  refine x_bipush dX10_init_48 (by decide) ?_
  refine x_nqputs (N := 30) dX10_init_50 (bw_in (lwt_1 (List.mem_of_getElem? (i := 37) rfl)) rfl) dX10_init_53 gf_RX10_31 ob5 rfl (fun _ _ => rfl) (fun _ => rfl) (fun _ => rfl) rfl rfl rfl (by omega) rb5 (by omega) (by omega) (fun S6 J6 R6 gr6 lq6 rb6 fJ6 fR6 r6 ar6 z6 => ?_)
  have l6 : S6.1 = b + 10 := by omega
  have ob6 := Gr.ob gr6 ob5
  rw [← Gr.ad gr6 (a := b) (by omega)]
  refine x_aload_n dX10_init_56 rfl ?_
  refine x_bipush dX10_init_57 (by decide) ?_
  refine x_naputi (N := 120) dX10_init_59 dX10_init_61 gf_RX10_35 ob6 rfl (fun _ _ => rfl) (fun _ => rfl) (fun _ => rfl) rfl rfl rfl (by omega) rb6 (by omega) (by omega) (fun S7 J7 R7 gr7 lq7 rb7 fJ7 fR7 r7 ar7 z7 => ?_)
  have l7 : S7.1 = b + 11 := by omega
  have ob7 := Gr.ob gr7 ob6
  rw [← Gr.ad gr7 (a := b) (by omega)]
  refine x_aload_n dX10_init_64 rfl ?_
  refine x_iconst dX10_init_65 ?_
  refine x_nqputt (N := 4) dX10_init_66 (bw_in (lwt_1 (List.mem_of_getElem? (i := 108) rfl)) rfl) dX10_init_69 gf_RX10_40 ob7 rfl (fun _ _ => rfl) (fun _ => rfl) (fun _ => rfl) rfl rfl rfl (by omega) rb7 (by omega) (by omega) (fun S8 J8 R8 gr8 lq8 rb8 fJ8 fR8 r8 ar8 z8 => ?_)
  have l8 : S8.1 = b + 12 := by omega
  have ob8 := Gr.ob gr8 ob7
  rw [← Gr.ad gr8 (a := b) (by omega)]
  refine x_aload_n dX10_init_72 rfl ?_
  refine x_obput (n1 := n - 1) (sz := 7) (ms1 := 46) (fun S R a => TS S R a) TdZ (fun S R R2 a hr h => TS.rr hr h) dX10_init_73 dX10_init_76 dX10_init_77 dX10_init_80 nw_RX10_44 cv_RX10_46 (fun P1 T1 I1 R1 a1 h1 h2 h3 h4 h5 => sp_X9_init (by omega) h1 h2 h3 h4 h5) gf_RX10_47  ob8 rfl (fun _ _ => rfl) (fun _ => rfl) (fun _ => rfl) rfl rfl (by omega) rb8 (by omega) (by omega) (fun S9 J9 R9 gr9 lq9 rb9 fJ9 fR9 r9 sh9 va9 => ?_)
  have l9 : S9.1 = b + 19 := by omega
  have ob9 := Gr.ob gr9 ob8
  rw [← Gr.ad gr9 (a := b) (by omega)]
  refine x_aload_n dX10_init_83 rfl ?_
  refine x_iconst dX10_init_84 ?_
  refine x_putI dX10_init_85 gf_RX10_51 ob9 rfl ?_
  refine x_iconst dX10_init_88 ?_
  refine x_istore_n (lv2 := [(1, _), (0, _)]) dX10_init_89 (by decide) rfl ?_
  refine x_sub [1, 0] rfl ?_
  refine x_kj (k2 := 18 + 4 * 0) (j2 := 275 + 33 * 0) (by omega) (by omega) ?_
  have ar6' : AR S9 (b + 9) 16 30 := by have h9 := Gr.ar (Gr.tr gr7 (Gr.tr gr8 gr9)) ar6; rw [l5] at h9; exact h9
  refine lp_X10_init (b := b) (S0 := S9) (I0 := uI J9 b 12 (-1)) (R0 := R9) hn ob9 ar6' (by rw [fR9 (b) (5) (by omega) (by omega), fR8 (b) (5) (by omega) (by omega), fR7 (b) (5) (by omega) (by omega), r6, l5]) (fun S2 J R2 gz lz rz jz qz sz => ?_) 30 0 S9 _ R9 (by omega) rfl Gr.rf (by omega) rb9 (fun _ _ => rfl) (fun _ _ _ _ => rfl) (fun q hq => by omega)
  refine hp S2 J R2 (Gr.tr (Gr.tr gr1 (Gr.tr gr2 (Gr.tr gr3 (Gr.tr gr4 (Gr.tr gr5 (Gr.tr gr6 (Gr.tr gr7 (Gr.tr gr8 gr9)))))))) gz) lz rz (fun x hx => ⟨?_, ?_⟩) ⟨⟨gz.ob ob9, ⟨?_, ?_, ?_, ?_, ?_, ?_, ?_, ?_, ?_⟩, ⟨?_, ?_, ?_, ?_, ?_, ?_, ?_, ?_, ?_⟩, sz⟩, fun q => ?_⟩ ⟨⟨?_, ?_, ?_, ?_⟩, ⟨fun q => ?_, fun q => ?_, fun q => ?_, fun q => ?_⟩, ?_, ?_⟩
  · rw [jz x (by omega), uI_row (by omega), fJ9 (x) (by omega), fJ8 (x) (by omega), fJ7 (x) (by omega), fJ6 (x) (by omega), fJ5 (x) (by omega), fJ4 (x) (by omega), fJ3 (x) (by omega), fJ2 (x) (by omega), fJ1 (x) (by omega)]
  · funext q; rw [qz x q (by omega) (by omega), fR9 (x) (q) (by omega) (by omega), fR8 (x) (q) (by omega) (by omega), fR7 (x) (q) (by omega) (by omega), fR6 (x) (q) (by omega) (by omega), fR5 (x) (q) (by omega) (by omega), fR4 (x) (q) (by omega) (by omega), fR3 (x) (q) (by omega) (by omega), fR2 (x) (q) (by omega) (by omega), fR1 (x) (q) (by omega) (by omega)]
  · rw [qz b 0 (by omega) (by omega), fR9 (b) (0) (by omega) (by omega), fR8 (b) (0) (by omega) (by omega), fR7 (b) (0) (by omega) (by omega), fR6 (b) (0) (by omega) (by omega), fR5 (b) (0) (by omega) (by omega), fR4 (b) (0) (by omega) (by omega), fR3 (b) (0) (by omega) (by omega), fR2 (b) (0) (by omega) (by omega), r1, l0]
  · rw [qz b 1 (by omega) (by omega), fR9 (b) (1) (by omega) (by omega), fR8 (b) (1) (by omega) (by omega), fR7 (b) (1) (by omega) (by omega), fR6 (b) (1) (by omega) (by omega), fR5 (b) (1) (by omega) (by omega), fR4 (b) (1) (by omega) (by omega), fR3 (b) (1) (by omega) (by omega), r2, l1]
  · rw [qz b 2 (by omega) (by omega), fR9 (b) (2) (by omega) (by omega), fR8 (b) (2) (by omega) (by omega), fR7 (b) (2) (by omega) (by omega), fR6 (b) (2) (by omega) (by omega), fR5 (b) (2) (by omega) (by omega), fR4 (b) (2) (by omega) (by omega), r3, l2]
  · rw [qz b 3 (by omega) (by omega), fR9 (b) (3) (by omega) (by omega), fR8 (b) (3) (by omega) (by omega), fR7 (b) (3) (by omega) (by omega), fR6 (b) (3) (by omega) (by omega), fR5 (b) (3) (by omega) (by omega), r4, l3]
  · rw [qz b 4 (by omega) (by omega), fR9 (b) (4) (by omega) (by omega), fR8 (b) (4) (by omega) (by omega), fR7 (b) (4) (by omega) (by omega), fR6 (b) (4) (by omega) (by omega), r5, l4]
  · rw [qz b 5 (by omega) (by omega), fR9 (b) (5) (by omega) (by omega), fR8 (b) (5) (by omega) (by omega), fR7 (b) (5) (by omega) (by omega), r6, l5]
  · rw [qz b 6 (by omega) (by omega), fR9 (b) (6) (by omega) (by omega), fR8 (b) (6) (by omega) (by omega), r7, l6]
  · rw [qz b 7 (by omega) (by omega), fR9 (b) (7) (by omega) (by omega), r8, l7]
  · rw [qz b 8 (by omega) (by omega), r9, l8]
  · rw [← l0]; exact Gr.ar (Gr.tr (Gr.tr gr2 (Gr.tr gr3 (Gr.tr gr4 (Gr.tr gr5 (Gr.tr gr6 (Gr.tr gr7 (Gr.tr gr8 gr9))))))) gz) ar1
  · rw [← l1]; exact Gr.ar (Gr.tr (Gr.tr gr3 (Gr.tr gr4 (Gr.tr gr5 (Gr.tr gr6 (Gr.tr gr7 (Gr.tr gr8 gr9)))))) gz) ar2
  · rw [← l2]; exact Gr.ar (Gr.tr (Gr.tr gr4 (Gr.tr gr5 (Gr.tr gr6 (Gr.tr gr7 (Gr.tr gr8 gr9))))) gz) ar3
  · rw [← l3]; exact Gr.ar (Gr.tr (Gr.tr gr5 (Gr.tr gr6 (Gr.tr gr7 (Gr.tr gr8 gr9)))) gz) ar4
  · rw [← l4]
    refine ST.gr (Gr.tr (Gr.tr gr6 (Gr.tr gr7 (Gr.tr gr8 gr9))) gz) ?_ sh5
    funext q; rw [qz S4.1 q (by omega) (by omega), fR9 (S4.1) (q) (by omega) (by omega), fR8 (S4.1) (q) (by omega) (by omega), fR7 (S4.1) (q) (by omega) (by omega), fR6 (S4.1) (q) (by omega) (by omega)]
  · rw [← l5]; exact Gr.ar (Gr.tr (Gr.tr gr7 (Gr.tr gr8 gr9)) gz) ar6
  · rw [← l6]; exact Gr.ar (Gr.tr (Gr.tr gr8 gr9) gz) ar7
  · rw [← l7]; exact Gr.ar (Gr.tr gr9 gz) ar8
  · rw [← l8]
    refine TS.gr gz ?_ sh9
    funext q; rw [qz S8.1 q (by omega) (by omega)]
  · rw [qz (b + 11) q (by omega) (by omega), fR9 (b + 11) (q) (by omega) (by omega), ← l7]; exact z8 q
  · rw [jz b (by omega), uI_o (by omega), fJ9 (b) (by omega), fJ8 (b) (by omega), fJ7 (b) (by omega), fJ6 (b) (by omega), fJ5 (b) (by omega), fJ4 (b) (by omega), fJ3 (b) (by omega), fJ2 (b) (by omega), fJ1 (b) (by omega)]; exact hz _
  · rw [jz b (by omega), uI_o (by omega), fJ9 (b) (by omega), fJ8 (b) (by omega), fJ7 (b) (by omega), fJ6 (b) (by omega), fJ5 (b) (by omega), fJ4 (b) (by omega), fJ3 (b) (by omega), fJ2 (b) (by omega), fJ1 (b) (by omega)]; exact hz _
  · rw [jz b (by omega), uI_o (by omega), fJ9 (b) (by omega), fJ8 (b) (by omega), fJ7 (b) (by omega), fJ6 (b) (by omega), fJ5 (b) (by omega), fJ4 (b) (by omega), fJ3 (b) (by omega), fJ2 (b) (by omega), fJ1 (b) (by omega)]; exact hz _
  · rw [jz b (by omega), uI_s]
  · rw [jz (b + 1) (by omega), uI_row (by omega), fJ9 (b + 1) (by omega), fJ8 (b + 1) (by omega), fJ7 (b + 1) (by omega), fJ6 (b + 1) (by omega), fJ5 (b + 1) (by omega), fJ4 (b + 1) (by omega), fJ3 (b + 1) (by omega), fJ2 (b + 1) (by omega), ← l0]; exact z1 q
  · rw [jz (b + 2) (by omega), uI_row (by omega), fJ9 (b + 2) (by omega), fJ8 (b + 2) (by omega), fJ7 (b + 2) (by omega), fJ6 (b + 2) (by omega), fJ5 (b + 2) (by omega), fJ4 (b + 2) (by omega), fJ3 (b + 2) (by omega), ← l1]; exact z2 q
  · rw [jz (b + 3) (by omega), uI_row (by omega), fJ9 (b + 3) (by omega), fJ8 (b + 3) (by omega), fJ7 (b + 3) (by omega), fJ6 (b + 3) (by omega), fJ5 (b + 3) (by omega), fJ4 (b + 3) (by omega), ← l2]; exact z3 q
  · rw [jz (b + 4) (by omega), uI_row (by omega), fJ9 (b + 4) (by omega), fJ8 (b + 4) (by omega), fJ7 (b + 4) (by omega), fJ6 (b + 4) (by omega), fJ5 (b + 4) (by omega), ← l3]; exact z4 q
  · rw [← l4]
    exact StZ.w va5 (fun x h1 h2 => by rw [jz x (by omega), uI_row (by omega), fJ9 (x) (by omega), fJ8 (x) (by omega), fJ7 (x) (by omega), fJ6 (x) (by omega)])
  · rw [← l8]
    exact TdZ.w va9 (fun x h1 h2 => by rw [jz x (by omega), uI_row (by omega)])
end Ctor3
