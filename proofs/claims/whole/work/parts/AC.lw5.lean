section Lw5
variable {n mc ms : Nat} {M : Md} {pc : Nat} {lv : List (Nat × Value)} {st : List Value} {k j : Nat} {Post : PT} {S : Sh} {I : CI} {R : CR} {A : Nat → Int} {tx : Nat → Nat → Int}
theorem LawR_xt {X Y : Nat → Int} {o : Nat} {x : Nat → Int} {s fr to : Int} {bad : Nat} (hx : x 0 ≤ 24) (h : ∀ a, o ≤ a → a < o + 705 → Y a = X a) (hl : LawR X o x s fr to bad) : LawR Y o x s fr to bad := by
  obtain ⟨h1, h2⟩ := hl
  refine ⟨fun hf => ?_, fun hf c hc => ?_⟩
  · obtain ⟨c, c1, c2, c3, c4, c5, c6, c7, c8⟩ := h1 hf
    refine ⟨c, c1, by rw [h _ (by omega) (by omega)]; exact c2, fun j hj => by rw [h _ (by omega) (by omega)]; exact c3 j hj, by rw [h _ (by omega) (by omega)]; exact c4, by rw [h _ (by omega) (by omega)]; exact c5, c6, fun i i1 i2 => ?_, c8⟩
    have := c7 i i1 i2
    rw [h _ (by omega) (by omega), h _ (by omega) (by omega)]
    exact this
  · rw [h _ (by omega) (by omega)]; exact h2 hf c hc
theorem RTt_xt {X Y : Nat → Int} {o : Nat} {x : Nat → Int} (h : ∀ a, o ≤ a → a < o + 705 → Y a = X a) (hl : RTt X o x) : RTt Y o x := by
  obtain ⟨⟨⟨g1, g2, g3⟩, g4⟩, g5, g6⟩ := hl
  refine ⟨⟨⟨by rw [h _ (by omega) (by omega)]; exact g1, g2, g3⟩, fun q hq => ?_⟩, LawR_xt g3 h g5, LawR_xt g3 h g6⟩
  rw [h _ (by omega) (by omega), h _ (by omega) (by omega), h _ (by omega) (by omega), h _ (by omega) (by omega)]
  exact g4 q hq
theorem LI.txf {a1 a2 : Nat} {B : Nat → Int} {t : Nat → Int} {l o : Nat} {J1 J : CI} (h : LI a1 a2 S I R A B tx t l) (rf : RdF I J1 t l) (ho : (o : Int) = 705 * A 1) (f2 : Ftt o (uI J1 287 3 0) J) (j7 : J 307 = A) (j4 : J 306 4 = 0) (j5 : J 306 5 = J1 287 4) (j6 : J 306 6 = J1 287 5) : LI a1 a2 S J R A B tx t 0 := by
  obtain ⟨g1, g2, g3, g4, -⟩ := rf
  have e : ∀ c, c ≠ 287 → c ≠ 289 → c ≠ 290 → c ≠ 306 → c ≠ 307 → c ≠ 309 → c ≠ 311 → J c = I c := fun c q1 q2 q3 q4 q5 q6 q7 => by rw [f2.1 c q4 q5 q6 q7, uI_row q1]; exact g4.1 c q1 q2 q3
  have e287 : ∀ q, q ≠ 3 → J 287 q = J1 287 q := fun q hq => by rw [f2.1 287 (by omega) (by omega) (by omega) (by omega), uI_o (by omega)]
  have e306 : ∀ q, (q < 4 ∨ 19 < q) → J 306 q = I 306 q := fun q hq => by rw [f2.2.1 q hq, uI_row (by omega), g4.1 306 (by omega) (by omega) (by omega)]
  have eo := e 308 (by omega) (by omega) (by omega) (by omega) (by omega) (by omega) (by omega)
  have e290 : J 290 = J1 290 := by rw [f2.1 290 (by omega) (by omega) (by omega) (by omega), uI_row (by omega)]
  refine ⟨h.ad1, h.ad2, h.cs, h.rb, ⟨ClW_fr (fun c q1 q2 => e c (by omega) (by omega) (by omega) (by omega) (by omega) (by omega) (by omega)) h.iv.1, h.iv.2.1, WTx_fr (fun c hc => e c (by omega) (by omega) (by omega) (by omega) (by omega) (by omega) (by omega)) h.iv.2.2.1, by unfold SK; rw [e 281 (by omega) (by omega) (by omega) (by omega) (by omega) (by omega) (by omega)]; exact h.iv.2.2.2⟩, j7, ClW_frb (fun c q1 q2 => e c (by omega) (by omega) (by omega) (by omega) (by omega) (by omega) (by omega)) h.cB, h.bB, by rw [eo]; exact h.rB, h.le, fun q hq => ?_, h.to1, h.to2, ⟨?_, ?_, by omega, h.tc.2.2.2⟩, ⟨?_, ?_, by omega, h.tr.2.2.2⟩, ?_, ?_, ?_, ?_, ?_, ?_, ?_, fun q hq => ?_, h.tb⟩
  · obtain ⟨id, q1, q2, q3⟩ := h.kt q hq
    exact ⟨id, q1, q2.fr (fun a ha => e a (by omega) (by omega) (by omega) (by omega) (by omega) (by omega) (by omega)), q3⟩
  · rw [e 288 (by omega) (by omega) (by omega) (by omega) (by omega) (by omega) (by omega)]; exact h.tc.1
  · rw [f2.1 287 (by omega) (by omega) (by omega) (by omega), uI_s]; rfl
  · rw [e 310 (by omega) (by omega) (by omega) (by omega) (by omega) (by omega) (by omega)]; exact h.tr.1
  · rw [j4]; rfl
  · rw [e287 4 (by omega), j5]
  · rw [e287 5 (by omega), j6]
  · rw [e287 12 (by omega)]; exact g2
  · unfold CB; rw [e290]; exact g3
  · rw [e306 23 (by omega)]; exact h.z23
  · exact h.dk.fr (e 304 (by omega) (by omega) (by omega) (by omega) (by omega) (by omega) (by omega)) (e 305 (by omega) (by omega) (by omega) (by omega) (by omega) (by omega) (by omega))
  · exact h.dm.fr (e 323 (by omega) (by omega) (by omega) (by omega) (by omega) (by omega) (by omega)) (e 324 (by omega) (by omega) (by omega) (by omega) (by omega) (by omega) (by omega))
  · have b1 := h.iv.2.1.2.1.1
    refine RTt_xt (fun a q1 q2 => ?_) (h.rt q hq)
    rw [f2.2.2 a (by omega), uI_row (by omega), g4.1 309 (by omega) (by omega) (by omega)]
theorem LI.txg {a1 a2 : Nat} {B : Nat → Int} {t : Nat → Int} {l o : Nat} {K J1 J : CI} {S2 : Sh} {R2 : CR} {s2 : TMS} (h : LI a1 a2 S I R A B tx t l) (e4 : A 1 < 4) (rg : RdG I K t l s2) (g : Gr S S2) (rb2 : RB S2 R2) (cs2 : CS S2 R2) (ft : FtG S I J1 R R2 (A 1).toNat) (k287 : ∀ q, q ≠ 3 → J1 287 q = K 287 q) (k3 : J1 287 3 = 0) (k90 : J1 290 = K 290) (c1 : ClW J1 1 (upA A 1 (A 1 + 1))) (x1 : TXr S2 R2 J1 S.1 (txO K))
    (ho : (o : Int) = 705 * A 1) (f2 : Ftt o J1 J) (j7 : J 307 = upA A 1 (A 1 + 1)) (j4 : J 306 4 = 0) (j5 : J 306 5 = 0) (j6 : J 306 6 = -1) (cr : ClR J o s2.1) (cd : CdA (J 309) o s2.2.1) : LI a1 a2 S2 J R2 (upA A 1 (A 1 + 1)) B (txN A tx (txO K)) t 0 := by
  obtain ⟨g1, g2, g3, g4, g5, g6, -, -, tc⟩ := rg
  have s325 : 325 ≤ S.1 := h.cs.2.2.2.2.2
  have b1 := h.iv.2.1.2.1.1
  have e : ∀ c, c < S.1 → c ≠ 1 → c ≠ 287 → c ≠ 289 → c ≠ 290 → c ≠ 306 → c ≠ 307 → c ≠ 309 → c ≠ 311 → J c = I c := fun c q0 q8 q1 q2 q3 q4 q5 q6 q7 => by rw [f2.1 c q4 q5 q6 q7]; exact ft.1 c q0 q8 q1 q2 q3
  have ej : ∀ c, 325 ≤ c → J c = J1 c := fun c hc => f2.1 c (by omega) (by omega) (by omega) (by omega)
  have e287 : J 287 = J1 287 := f2.1 287 (by omega) (by omega) (by omega) (by omega)
  have e290 : J 290 = K 290 := (f2.1 290 (by omega) (by omega) (by omega) (by omega)).trans k90
  have e308 := e 308 (by omega) (by omega) (by omega) (by omega) (by omega) (by omega) (by omega) (by omega) (by omega)
  have u1 : upA A 1 (A 1 + 1) 1 = A 1 + 1 := upA_s _ _ _
  have hle := h.le
  have tk : ∀ {q id : Nat}, TXr S R I id (tx q) → TXr S2 R2 J id (tx q) := fun {q id} hq => by
    have hlt := hq.lt
    exact hq.gr g (fun a q1 q2 => ⟨e a q2 (by omega) (by omega) (by omega) (by omega) (by omega) (by omega) (by omega) (by omega), ft.2.1 a q2 (by omega)⟩) hlt
  have tO : ∀ q : Nat, (q : Int) < A 1 → txN A tx (txO K) q = tx q := fun q hq => if_neg (by omega)
  have tN : ∀ q : Nat, (q : Int) = A 1 → txN A tx (txO K) q = txO K := fun q hq => if_pos hq
  have tvn : TV (txO K) := tv_of tc
  have ba := BA_texts h.iv.2.1 e4
  refine ⟨(g.ad (by omega)).trans h.ad1, (g.ad (by omega)).trans h.ad2, cs2, rb2, ⟨ClW_fr (fun c q1 q2 => f2.1 c (by omega) (by omega) (by omega) (by omega)) c1, ba, fun q hq => ?_, by unfold SK; rw [e 281 (by omega) (by omega) (by omega) (by omega) (by omega) (by omega) (by omega) (by omega) (by omega)]; exact h.iv.2.2.2⟩, j7, ClW_frb (fun c q1 q2 => e c (by omega) (by omega) (by omega) (by omega) (by omega) (by omega) (by omega) (by omega) (by omega)) h.cB, h.bB, by rw [e308]; exact h.rB, by rw [u1]; omega, fun q hq => ?_, fun i hi => ?_, fun i hi => ?_, ⟨?_, ?_, by omega, h.tc.2.2.2⟩, ⟨?_, ?_, by omega, h.tr.2.2.2⟩, ?_, ?_, ?_, ?_, ?_, ?_, ?_, fun q hq => ?_, fun q hq i hi => ?_⟩
  · rw [u1] at hq
    by_cases hn : (q : Int) = A 1
    · refine ⟨S.1, ?_, ?_, ?_⟩
      · rw [show q = (A 1).toNat by omega]; exact ft.2.2.2
      · rw [tN q hn]; exact x1.fr ej
      · rw [tN q hn]; exact tvn
    · obtain ⟨id, q1, q2, q3⟩ := h.iv.2.2.1 q (by omega)
      refine ⟨id, ?_, ?_, ?_⟩
      · rw [ft.2.2.1 q (by omega)]; exact q1
      · rw [tO q (by omega)]; exact tk q2
      · rw [tO q (by omega)]; exact q3
  · obtain ⟨id, q1, q2, q3⟩ := h.kt q hq
    refine ⟨id, ?_, ?_, ?_⟩
    · rw [ft.2.1 151 (by omega) (by omega)]; exact q1
    · rw [tO q (by omega)]; exact tk q2
    · rw [tO q (by omega)]; exact q3
  · by_cases hc : i = (A 1).toNat
    · subst hc
      exact Or.inr ⟨S.1, ft.2.2.2, x1.2.1⟩
    · rw [ft.2.2.1 i hc]
      rcases h.to1 i hi with q | ⟨id, q1, q2⟩
      · exact Or.inl q
      · exact Or.inr ⟨id, q1, g.ob q2⟩
  · rw [ft.2.1 151 (by omega) (by omega)]
    rcases h.to2 i hi with q | ⟨id, q1, q2⟩
    · exact Or.inl q
    · exact Or.inr ⟨id, q1, g.ob q2⟩
  · rw [e 288 (by omega) (by omega) (by omega) (by omega) (by omega) (by omega) (by omega) (by omega) (by omega)]; exact h.tc.1
  · rw [e287, k3]; rfl
  · rw [e 310 (by omega) (by omega) (by omega) (by omega) (by omega) (by omega) (by omega) (by omega) (by omega)]; exact h.tr.1
  · rw [j4]; rfl
  · rw [e287, k287 4 (by omega), g5, j5]
  · rw [e287, k287 5 (by omega), g6, j6]
  · rw [e287, k287 12 (by omega)]; exact g2
  · unfold CB; rw [e290]; exact g3
  · rw [f2.2.1 23 (by omega), ft.1 306 (by omega) (by omega) (by omega) (by omega) (by omega)]; exact h.z23
  · exact h.dk.fr (e 304 (by omega) (by omega) (by omega) (by omega) (by omega) (by omega) (by omega) (by omega) (by omega)) (e 305 (by omega) (by omega) (by omega) (by omega) (by omega) (by omega) (by omega) (by omega) (by omega))
  · exact h.dm.fr (e 323 (by omega) (by omega) (by omega) (by omega) (by omega) (by omega) (by omega) (by omega) (by omega)) (e 324 (by omega) (by omega) (by omega) (by omega) (by omega) (by omega) (by omega) (by omega) (by omega))
  · rw [u1] at hq
    by_cases hn : (q : Int) = A 1
    · rw [tN q hn, show 705 * q = o by omega]
      exact rtt_of tc cr.1 cr.2 cd
    · rw [tO q (by omega)]
      refine RTt_xt (fun a q1 q2 => ?_) (h.rt q (by omega))
      rw [f2.2.2 a (by omega), ft.1 309 (by omega) (by omega) (by omega) (by omega) (by omega)]
  · rw [u1] at hq
    by_cases hn : (q : Int) = A 1
    · rw [tN q hn] at hi ⊢
      have hx := tc.1
      have h6 : txO K (6 + i) = K 290 i := by
        unfold txO
        rw [if_neg (by omega), if_neg (by omega), if_neg (by omega), if_pos (by omega)]
        congr 1; omega
      rw [h6]
      exact g3 i (by omega)
    · rw [tO q (by omega)] at hi ⊢
      exact h.tb q (by omega) i hi
theorem lc_text {b0 Ln : Nat} {xs : Nat → Int32} {a1 a2 : Nat} {B : Nat → Int} {t : Nat → Int} {l : Nat} {i : Int} (h : LI a1 a2 S I R A B tx t l) (hL : Ln ≤ 3072) (hi : 0 ≤ i ∧ i + 6 ≤ Ln) (hk : k + 3 ≤ 600000) (hj : j + 403 ≤ 7302250) (nx : Nx b0 Ln xs a1 a2 i k j) : LwP b0 Ln xs 1300 600000 7302250 mL_law PL 371 (lvL4 b0 a1 a2 i) [] k j S I R := by
  have b1 := h.iv.2.1.2.1.1
  have s325 : 325 ≤ S.1 := h.cs.2.2.2.2.2
  obtain ⟨o, ho⟩ : ∃ o : Nat, (o : Int) = 705 * A 1 := ⟨(705 * A 1).toNat, by omega⟩
  refine y_aload_n (i := 1) dL_law_371 rfl ?_
  refine y_cV0 (n1 := 1299) (mc1 := 3) (ms1 := 403) (ci := 11) dL_law_372 cv_RL_28 (k_ob_0 h.cs) rfl h.ad1 (Nat.le_of_ble_eq_true rfl) (Nat.le_refl _) hk hj ?_
  refine sp_X11_text (A := A) (t := t) (l := l) h.cs (by omega) h.rb h.iv.1 h.iv.2.1 h.tc h.c12 h.cb (fun e4 => ?_) (fun e4 J1 rf => ?_) (fun e4 K J1 S2 R2 s2 rg g s3 rb2 cs2 ft k287 k3 k89 k90 c1 x1 => ?_)
  · refine y_aload_n (i := 2) dL_law_375 rfl ?_
    refine y_cV0 (n1 := 1299) (mc1 := 0) (ms1 := 0) (ci := 12) dL_law_376 cv_RL_32 (k_ob_306 h.cs) rfl h.ad2 (Nat.le_of_ble_eq_true rfl) (Nat.le_refl _) (by omega) (by omega) ?_
    refine sp_X12_text (A := A) (t := t) (l := l) (o := o) (s2 := tx0 t l) (f := 0) (pl := 0) h.cs (by omega) h.rA b1 ho h.tr (fun q => absurd e4 q) (fun _ => ?_) (fun q => absurd e4 q) (fun q => absurd e4 q)
    refine y_same 1488 dL_law_379 (by decide) ?_
    exact nx _ _ _ _ _ (by omega) (by omega) ⟨_, _, _, _, _, h⟩
  · refine y_aload_n (i := 2) dL_law_375 rfl ?_
    refine y_cV0 (n1 := 1299) (mc1 := 0) (ms1 := 0) (ci := 12) dL_law_376 cv_RL_32 (k_ob_306 h.cs) rfl h.ad2 (Nat.le_of_ble_eq_true rfl) (Nat.le_refl _) (by omega) (by omega) ?_
    have rf0 := rf
    obtain ⟨g1, g2, g3, g4, pl, g5, g6, g7⟩ := rf
    have i7 : uI J1 287 3 0 307 = A := by rw [uI_row (by omega), g4.1 307 (by omega) (by omega) (by omega)]; exact h.rA
    have iT : TpR (uI J1 287 3 0) t l := by unfold TpR; rw [uI_row (by omega), uI_row (by omega), g4.1 310 (by omega) (by omega) (by omega), g4.1 306 (by omega) (by omega) (by omega)]; exact h.tr
    refine sp_X12_text (I := uI J1 287 3 0) (A := A) (t := t) (l := l) (o := o) (s2 := tx0 t l) (f := J1 287 4) (pl := pl) h.cs (by omega) i7 b1 ho iT (fun _ => Or.inr ⟨⟨by omega, by omega⟩, g7⟩) (fun q => absurd q (by omega)) (fun _ _ J f2 j7 j4 j5 j6 => ?_) (fun _ q => absurd q (by omega))
    refine y_same 1488 dL_law_379 (by decide) ?_
    exact nx _ _ _ _ _ (by omega) (by omega) ⟨_, _, _, _, _, h.txf rf0 ho f2 j7 j4 j5 (j6.trans g6.symm)⟩
  · refine y_aload_n (i := 2) dL_law_375 rfl ?_
    refine y_cV0 (n1 := 1299) (mc1 := 0) (ms1 := 0) (ci := 12) dL_law_376 cv_RL_32 (k_ob_306 cs2) rfl ((g.ad (by omega)).trans h.ad2) (Nat.le_of_ble_eq_true rfl) (Nat.le_refl _) (by omega) (by omega) ?_
    have i7 : J1 307 = A := (ft.1 307 (by omega) (by omega) (by omega) (by omega) (by omega)).trans h.rA
    have iT : TpR J1 t l := by unfold TpR; rw [ft.1 310 (by omega) (by omega) (by omega) (by omega) (by omega), ft.1 306 (by omega) (by omega) (by omega) (by omega) (by omega)]; exact h.tr
    refine sp_X12_text (I := J1) (A := A) (t := t) (l := l) (o := o) (s2 := s2) (f := 0) (pl := 0) cs2 (by omega) i7 b1 ho iT (fun _ => Or.inl ⟨rfl, rg.2.2.2.2.2.2.1, rg.2.2.2.2.2.2.2.1⟩) (fun q => absurd q (by omega)) (fun _ q => absurd rfl q) (fun _ _ J f2 j7 j4 j5 j6 cr cd _ _ => ?_)
    refine y_same 1488 dL_law_379 (by decide) ?_
    exact nx _ _ _ _ _ (by omega) (by omega) ⟨_, _, _, _, _, h.txg e4 rg g rb2 cs2 ft k287 k3 k90 c1 x1 ho f2 j7 j4 j5 j6 cr cd⟩
end Lw5
