section Tx3s
variable {n mc ms : Nat} {M : Md} {pc : Nat} {lv : List (Nat × Value)} {st : List Value} {k j : Nat} {Post : PT} {S : Sh} {I : CI} {R : CR} {A : Nat → Int} {tx : Nat → Nat → Int}
theorem x_aload_nN {i : Fin 4} (d : decode M.2.1 pc = .ok (.aload_n i, 1)) (hv : lv.lookup (i : Nat) = some .null) (h : WP n mc ms M Post (pc + 1) lv (.null :: st) k j S I R) : WP n mc ms M Post pc lv st k j S I R := by
  intro l p e s m args below meth c D cy A H locs ls C hl hP hD hS
  refine lv_aload_nN C.1 C.2.1 d rfl (lk_of hl hv) ?_
  exact h l p e s m args below meth c D cy A H locs ls C hl hP hD hS
theorem x_astore_nN {i : Fin 4} {lv2 : List (Nat × Value)} (d : decode M.2.1 pc = .ok (.astore_n i, 1)) (hn : (i : Nat) < M.2.2.1) (hl2 : ((i : Nat), Value.null) :: lv.filter (fun q => !(q.1 == (i : Nat)) && !(q.1 + 1 == (i : Nat) && q.2.category == 2)) = lv2) (h : WP n mc ms M Post (pc + 1) lv2 st k j S I R) : WP n mc ms M Post pc lv (Value.null :: st) k j S I R := by
  intro l p e s m args below meth c D cy A H locs ls C hl hP hD hS
  refine lv_astore_nN C.1 C.2.1 d rfl hl hn hl2 (fun ls hl => ?_)
  exact h l p e s m args below meth c D cy A H locs ls C hl hP hD hS
variable {t : Nat → Int} {l : Nat}
theorem BA_texts (hb : BA A) (h4 : A 1 < 4) : BA (upA A 1 (A 1 + 1)) := by
  obtain ⟨hs, ⟨d1, d2, d3, d4, d5, d6, d7⟩, dq, dh, db, ds, dd, dp⟩ := id hb
  have u : ∀ i, i ≠ 1 → upA A 1 (A 1 + 1) i = A i := fun i h => upA_o h
  exact BA_told hb (BS_same hs (fun i hi => u i (by omega))) (by rw [u _ (by omega)]; omega) (u _ (by omega)) (u _ (by omega)) (fun i hi => u i (by omega)) ⟨by rw [upA_s]; omega, by rw [u 2 (by omega), upA_s]; omega, by rw [u _ (by omega)]; exact d4, by rw [u _ (by omega)]; exact d5, by rw [u _ (by omega)]; exact d6, by rw [u _ (by omega)]; exact d7⟩ (fun q hq => by rw [u _ (by omega), u _ (by omega), u _ (by omega), u _ (by omega), u _ (by omega)]; exact dq q hq) (fun i hi => by rw [u _ (by omega)]; exact dh i hi) (fun i hi => by rw [u _ (by omega), u _ (by omega)]; exact db i hi) (fun i hi => by rw [u _ (by omega)] at hi; rw [u _ (by omega), u _ (by omega), u _ (by omega)]; exact ds i hi) (fun i hi => by rw [u _ (by omega)]; exact dd i hi)
theorem Gr.cst {S2 : Sh} {R2 : CR} (h : Gr S S2) (cs : CS S R) (hR : ∀ a, a < 325 → a ≠ 12 → a ≠ 151 → R2 a = R a) : CS S2 R2 := by
  obtain ⟨h1, h2, h3, h4, h5, h6⟩ := cs
  have hst : ∀ a, a < 300 → a ≠ 12 → a ≠ 151 → ST S R a → ST S2 R2 a := by
    intro a ha hb hc hs
    obtain ⟨s1, s2, s3, s4, s5, s6, s7⟩ := hs
    exact ⟨h.ob s1, by rw [hR a (by omega) hb hc]; exact s2, by rw [hR a (by omega) hb hc]; exact s3, by rw [hR a (by omega) hb hc]; exact s4, h.ar s5, h.ar s6, h.ar s7⟩
  refine ⟨fun e he => h.ob (h1 e he), fun e he => h.ar (h2 e he), fun e he => ?_, fun i hi => ?_, fun i hi => ?_, Nat.le_trans h6 h.1⟩
  · have hb : ∀ e ∈ rfL, e.1 < 325 ∧ e.1 ≠ 12 ∧ e.1 ≠ 151 := by decide
    have hb2 := hb e he
    rw [hR _ hb2.1 hb2.2.1 hb2.2.2]; exact h3 e he
  · rw [hR 10 (by omega) (by omega) (by omega)]
    exact ⟨(h4 i hi).1, hst _ (by omega) (by omega) (by omega) (h4 i hi).2⟩
  · rw [hR 149 (by omega) (by omega) (by omega)]
    exact ⟨(h5 i hi).1, hst _ (by omega) (by omega) (by omega) (h5 i hi).2⟩
/-- the new text lies beside the others -/
def txN (A : Nat → Int) (tx : Nat → Nat → Int) (x : Nat → Int) : Nat → Nat → Int := fun q => if (q : Int) = A 1 then x else tx q
theorem TXr.gr {S2 : Sh} {R2 : CR} {J : CI} {id : Nat} {x : Nat → Int} (h : TXr S R I id x) (g : Gr S S2) (hk : ∀ a, 325 ≤ a → a < S.1 → J a = I a ∧ R2 a = R a) (hid : id + 2 < S.1) : TXr S2 R2 J id x := by
  obtain ⟨h1, h2, h3, h4, h5, h6, h7, h8, h9, h10, h11⟩ := h
  have k0 := hk id h1 (by omega)
  have k1 := hk (id + 1) (by omega) (by omega)
  have k2 := hk (id + 2) (by omega) (by omega)
  refine ⟨h1, g.ob h2, by rw [k0.2]; exact h3, by rw [k0.2]; exact h4, h5, h6, g.ar h7, g.ar h8, by rw [k0.1]; exact h9, fun i hi => by rw [k1.1]; exact h10 i hi, fun i hi => by rw [k2.1]; exact h11 i hi⟩
theorem TXr.lt {id : Nat} {x : Nat → Int} (h : TXr S R I id x) : id + 2 < S.1 := h.2.2.2.2.2.2.2.1.1
/-- what a text that was read changes in the class -/
def FtG (S : Sh) (I J : CI) (R R2 : CR) (c : Nat) : Prop := (∀ a, a < S.1 → a ≠ 1 → a ≠ 287 → a ≠ 289 → a ≠ 290 → J a = I a) ∧ (∀ a, a < S.1 → a ≠ 12 → R2 a = R a) ∧ (∀ i, i ≠ c → R2 12 i = R 12 i) ∧ R2 12 c = some S.1
theorem dX11_text_0 : decode prog_1_method_5_code 0 = .ok (.aload_n 0, 1) := by decide +kernel
theorem dX11_text_1 : decode prog_1_method_5_code 1 = .ok (.getfield 10, 3) := by decide +kernel
theorem dX11_text_4 : decode prog_1_method_5_code 4 = .ok (.getfield 93, 3) := by decide +kernel
theorem dX11_text_7 : decode prog_1_method_5_code 7 = .ok (.iconst 4, 1) := by decide +kernel
theorem dX11_text_8 : decode prog_1_method_5_code 8 = .ok (.if_icmp .lt 5, 3) := by decide +kernel
theorem dX11_text_11 : decode prog_1_method_5_code 11 = .ok (.iconst (-1), 1) := by decide +kernel
theorem dX11_text_12 : decode prog_1_method_5_code 12 = .ok (.ireturn, 1) := by decide +kernel
theorem dX11_text_13 : decode prog_1_method_5_code 13 = .ok (.aload_n 0, 1) := by decide +kernel
theorem dX11_text_14 : decode prog_1_method_5_code 14 = .ok (.getfield 40, 3) := by decide +kernel
theorem dX11_text_17 : decode prog_1_method_5_code 17 = .ok (.invokevirtual 96, 3) := by decide +kernel
theorem dX11_text_20 : decode prog_1_method_5_code 20 = .ok (.astore_n 1, 1) := by decide +kernel
theorem dX11_text_21 : decode prog_1_method_5_code 21 = .ok (.aload_n 0, 1) := by decide +kernel
theorem dX11_text_22 : decode prog_1_method_5_code 22 = .ok (.getfield 40, 3) := by decide +kernel
theorem dX11_text_25 : decode prog_1_method_5_code 25 = .ok (.iconst 0, 1) := by decide +kernel
theorem dX11_text_26 : decode prog_1_method_5_code 26 = .ok (.putfield 85, 3) := by decide +kernel
theorem dX11_text_29 : decode prog_1_method_5_code 29 = .ok (.aload_n 1, 1) := by decide +kernel
theorem dX11_text_30 : decode prog_1_method_5_code 30 = .ok (.ifnonnull 5, 3) := by decide +kernel
theorem dX11_text_33 : decode prog_1_method_5_code 33 = .ok (.iconst (-1), 1) := by decide +kernel
theorem dX11_text_34 : decode prog_1_method_5_code 34 = .ok (.ireturn, 1) := by decide +kernel
theorem dX11_text_35 : decode prog_1_method_5_code 35 = .ok (.aload_n 0, 1) := by decide +kernel
theorem dX11_text_36 : decode prog_1_method_5_code 36 = .ok (.getfield 10, 3) := by decide +kernel
theorem dX11_text_39 : decode prog_1_method_5_code 39 = .ok (.getfield 100, 3) := by decide +kernel
theorem dX11_text_42 : decode prog_1_method_5_code 42 = .ok (.aload_n 0, 1) := by decide +kernel
theorem dX11_text_43 : decode prog_1_method_5_code 43 = .ok (.getfield 10, 3) := by decide +kernel
theorem dX11_text_46 : decode prog_1_method_5_code 46 = .ok (.getfield 93, 3) := by decide +kernel
theorem dX11_text_49 : decode prog_1_method_5_code 49 = .ok (.aload_n 1, 1) := by decide +kernel
theorem dX11_text_50 : decode prog_1_method_5_code 50 = .ok (.aastore, 1) := by decide +kernel
theorem dX11_text_51 : decode prog_1_method_5_code 51 = .ok (.aload_n 0, 1) := by decide +kernel
theorem dX11_text_52 : decode prog_1_method_5_code 52 = .ok (.getfield 10, 3) := by decide +kernel
theorem dX11_text_55 : decode prog_1_method_5_code 55 = .ok (.dup, 1) := by decide +kernel
theorem dX11_text_56 : decode prog_1_method_5_code 56 = .ok (.getfield 93, 3) := by decide +kernel
theorem dX11_text_59 : decode prog_1_method_5_code 59 = .ok (.iconst 1, 1) := by decide +kernel
theorem dX11_text_60 : decode prog_1_method_5_code 60 = .ok (.iadd, 1) := by decide +kernel
theorem dX11_text_61 : decode prog_1_method_5_code 61 = .ok (.putfield 93, 3) := by decide +kernel
theorem dX11_text_64 : decode prog_1_method_5_code 64 = .ok (.aload_n 0, 1) := by decide +kernel
theorem dX11_text_65 : decode prog_1_method_5_code 65 = .ok (.getfield 10, 3) := by decide +kernel
theorem dX11_text_68 : decode prog_1_method_5_code 68 = .ok (.getfield 93, 3) := by decide +kernel
theorem dX11_text_71 : decode prog_1_method_5_code 71 = .ok (.iconst 1, 1) := by decide +kernel
theorem dX11_text_72 : decode prog_1_method_5_code 72 = .ok (.isub, 1) := by decide +kernel
theorem dX11_text_73 : decode prog_1_method_5_code 73 = .ok (.ireturn, 1) := by decide +kernel
theorem sp_X11_text (cs : CS S R) (hn : 79 ≤ n) (hrb : RB S R) (hc : ClW I 1 A) (hb : BA A) (hT : TpC I t l) (h12 : 0 ≤ I 287 12 ∧ I 287 12 ≤ 1) (hcb : CB I) (hp4 : A 1 = 4 → Post (some (.int (iI (-1)))) S I R) (hpf : A 1 < 4 → ∀ J, RdF I J t l → Post (some (.int (iI (-1)))) S (uI J 287 3 0) R) (hpg : A 1 < 4 → ∀ (K J : CI) (S2 : Sh) (R2 : CR) (s2 : TMS), RdG I K t l s2 → Gr S S2 → S2.1 = S.1 + 3 → RB S2 R2 → CS S2 R2 → FtG S I J R R2 (A 1).toNat → (∀ q, q ≠ 3 → J 287 q = K 287 q) → J 287 3 = 0 → J 289 = K 289 → J 290 = K 290 → ClW J 1 (upA A 1 (A 1 + 1)) → TXr S2 R2 J S.1 (txO K) → Post (some (.int (iI (A 1)))) S2 J R2) : Call n 3 403 mX11_text [.ref (S.2.1 0)] S I R Post := by
  have b1 := hb.2.1.1
  have e11 : I 1 11 = A 1 := hc.2.1.1.1.symm
  have h325 := cs.2.2.2.2.2
  refine Call.of (by decide +kernel) (Nat.le_of_ble_eq_true rfl) ?_
  show WP _ _ _ _ _ 0 [(0, _)] [] 0 0 _ _ _
  refine x_aload_n dX11_text_0 rfl ?_
  refine x_getR (b := 1) dX11_text_1 gf_RX11_10 (k_ob_0 cs) (fun _ _ => rfl) (k_r_0_0 cs) ?_
  refine x_getIv (z := A 1) dX11_text_4 gf_RX11_93 (k_ob_1 cs) (fun _ _ => rfl) (by first | exact e11 | (rw [uI_o (by omega)]; exact e17) | (rw [uI_s])) ?_
  refine x_iconst dX11_text_7 ?_
  refine x_icmp_lt 13 dX11_text_8 (by decide) ⟨(by omega), (by omega)⟩ (fun w8 => ?_) (fun w8 => ?_)
  · refine x_aload_n dX11_text_13 rfl ?_
    refine x_getR (b := 287) dX11_text_14 gf_RX11_40 (k_ob_0 cs) (fun _ _ => rfl) (k_r_0_4 cs) ?_
    refine x_callV0 (mc1 := 3) (ms1 := 403) dX11_text_17 cv_RX11_96 (ci := 5) (k_ob_287 cs) rfl (Nat.le_of_ble_eq_true rfl) (n1 := n - 1) (by omega) (by omega) (by omega) ?_
    refine sp_X5_read (t := t) (l := l) cs (by omega) hrb hT h12 hcb (fun J17 r17 => ?_) (fun K17 J17 S2 R2 s17 g17 gr17 l17 rb17 f17 x17 => ?_)
    · refine x_astore_nN (lv2 := [(1, _), (0, _)]) dX11_text_20 (by decide) rfl ?_
      refine x_aload_n dX11_text_21 rfl ?_
      refine x_getR (b := 287) dX11_text_22 gf_RX11_40 (k_ob_0 cs) (fun _ _ => rfl) (k_r_0_4 cs) ?_
      refine x_iconst dX11_text_25 ?_
      refine x_putI dX11_text_26 gf_RX11_85 (k_ob_287 cs) rfl ?_
      refine x_aload_nN dX11_text_29 rfl ?_
      refine x_ifnonnullN dX11_text_30 ?_
      refine x_iconst dX11_text_33 ?_
      exact x_ireturn dX11_text_34 rfl (by omega) (by omega) (hpf (by omega) J17 r17)
    have cs1 := cs
    have fc17 := g17.2.2.2.1
    have cs : CS S2 R2 := Gr.cs gr17 cs1 (fun a ha => (f17 a (by omega)).2)
    have q17 : ∀ a, a < S.1 → a ≠ 287 → a ≠ 289 → a ≠ 290 → J17 a = I a := fun a h6 h7 h8 h9 => (f17 a h6).1.trans (fc17.1 a h7 h8 h9)
    have e17 : J17 1 11 = A 1 := by rw [q17 1 (by omega) (by omega) (by omega) (by omega)]; exact e11
    rw [← Gr.ad gr17 (a := 0) (by omega)]
    refine x_astore_n (lv2 := [(1, _), (0, _)]) dX11_text_20 (by decide) rfl ?_
    refine x_aload_n dX11_text_21 rfl ?_
    refine x_getR (b := 287) dX11_text_22 gf_RX11_40 (k_ob_0 cs) (fun _ _ => rfl) (k_r_0_4 cs) ?_
    refine x_iconst dX11_text_25 ?_
    refine x_putI dX11_text_26 gf_RX11_85 (k_ob_287 cs) rfl ?_
    refine x_aload_n dX11_text_29 rfl ?_
    refine x_ifnonnull 35 dX11_text_30 (by decide) ?_
    refine x_aload_n dX11_text_35 rfl ?_
    refine x_getR (b := 1) dX11_text_36 gf_RX11_10 (k_ob_0 cs) (fun _ _ => rfl) (k_r_0_0 cs) ?_
    refine x_getR (b := 12) dX11_text_39 gf_RX11_100 (k_ob_1 cs) (fun _ _ => rfl) (k_r_1_7 cs) ?_
    refine x_aload_n dX11_text_42 rfl ?_
    refine x_getR (b := 1) dX11_text_43 gf_RX11_10 (k_ob_0 cs) (fun _ _ => rfl) (k_r_0_0 cs) ?_
    refine x_getIv (z := A 1) dX11_text_46 gf_RX11_93 (k_ob_1 cs) (fun _ _ => rfl) (by first | exact e11 | (rw [uI_o (by omega)]; exact e17) | (rw [uI_s])) ?_
    refine x_aload_n dX11_text_49 rfl ?_
    refine x_aastore_t dX11_text_50 (k_ar_12 cs) x17.2.1 (by omega) (by omega) ?_
    have cs2 := cs
    have rb50 : RB S2 (uR R2 12 (A 1).toNat (some S.1)) := RB.ur rb17 (fun q hq => by have h9 := Option.some.inj hq; omega)
    have cs : CS S2 (uR R2 12 (A 1).toNat (some S.1)) := Gr.cst Gr.rf cs2 (fun a h7 h8 h9 => uR_row h8)
    refine x_aload_n dX11_text_51 rfl ?_
    refine x_getR (b := 1) dX11_text_52 gf_RX11_10 (k_ob_0 cs) (fun _ _ => rfl) (k_r_0_0 cs) ?_
    refine x_dup dX11_text_55 rfl ?_
    refine x_getIv (z := A 1) dX11_text_56 gf_RX11_93 (k_ob_1 cs) (fun _ _ => rfl) (by first | exact e11 | (rw [uI_o (by omega)]; exact e17) | (rw [uI_s])) ?_
    refine x_iconst dX11_text_59 ?_
    refine x_iadd dX11_text_60 ?_
    refine x_putI dX11_text_61 gf_RX11_93 (k_ob_1 cs) rfl ?_
    refine x_aload_n dX11_text_64 rfl ?_
    refine x_getR (b := 1) dX11_text_65 gf_RX11_10 (k_ob_0 cs) (fun _ _ => rfl) (k_r_0_0 cs) ?_
    refine x_getIv (z := A 1 + 1) dX11_text_68 gf_RX11_93 (k_ob_1 cs) (fun _ _ => rfl) (by first | exact e11 | (rw [uI_o (by omega)]; exact e17) | (rw [uI_s])) ?_
    refine x_iconst dX11_text_71 ?_
    refine x_isub dX11_text_72 ?_
    exact x_ireturn dX11_text_73 rfl (by omega) (by omega) (by first
 | exact hp4 (by omega)
 | (rw [show A 1 + 1 - 1 = A 1 by omega]
    refine hpg (by omega) K17 _ S2 _ s17 g17 gr17 l17 rb50 cs ⟨fun a h5 h6 h7 h8 h9 => ?_, fun a h8 h9 => ?_, fun i hi => ?_, ?_⟩ (fun q hq => ?_) ?_ ?_ ?_ ?_ ?_
    · rw [uI_row h6, uI_row h7, q17 a h5 h7 h8 h9]
    · rw [uR_row h9, (f17 a h8).2]
    · rw [uR_o (by omega), (f17 12 (by omega)).2]
    · rw [uR_s]
    · rw [uI_row (by omega), uI_o (by omega), (f17 287 (by omega)).1]
    · rw [uI_row (by omega), uI_s]
    · rw [uI_row (by omega), uI_row (by omega), (f17 289 (by omega)).1]
    · rw [uI_row (by omega), uI_row (by omega), (f17 290 (by omega)).1]
    · exact cu_texts (b := 1) (A 1 + 1) (ClW_fr (I := I) (fun c h8 h9 => by rw [uI_row (by omega), q17 c (by omega) (by omega) (by omega) (by omega)]) hc)
    · exact TXr.gr x17 Gr.rf (fun a h8 h9 => ⟨by rw [uI_row (by omega), uI_row (by omega)], by rw [uR_row (by omega)]⟩) (TXr.lt x17)))
  · refine x_iconst dX11_text_11 ?_
    exact x_ireturn dX11_text_12 rfl (by omega) (by omega) (by first
 | exact hp4 (by omega)
 | (rw [show A 1 + 1 - 1 = A 1 by omega]
    refine hpg (by omega) K17 _ S2 _ s17 g17 gr17 l17 rb50 cs ⟨fun a h5 h6 h7 h8 h9 => ?_, fun a h8 h9 => ?_, fun i hi => ?_, ?_⟩ (fun q hq => ?_) ?_ ?_ ?_ ?_ ?_
    · rw [uI_row h6, uI_row h7, q17 a h5 h7 h8 h9]
    · rw [uR_row h9, (f17 a h8).2]
    · rw [uR_o (by omega), (f17 12 (by omega)).2]
    · rw [uR_s]
    · rw [uI_row (by omega), uI_o (by omega), (f17 287 (by omega)).1]
    · rw [uI_row (by omega), uI_s]
    · rw [uI_row (by omega), uI_row (by omega), (f17 289 (by omega)).1]
    · rw [uI_row (by omega), uI_row (by omega), (f17 290 (by omega)).1]
    · exact cu_texts (b := 1) (A 1 + 1) (ClW_fr (I := I) (fun c h8 h9 => by rw [uI_row (by omega), q17 c (by omega) (by omega) (by omega) (by omega)]) hc)
    · exact TXr.gr x17 Gr.rf (fun a h8 h9 => ⟨by rw [uI_row (by omega), uI_row (by omega)], by rw [uR_row (by omega)]⟩) (TXr.lt x17)))
end Tx3s
