section Lw4
variable {n mc ms : Nat} {M : Md} {pc : Nat} {lv : List (Nat × Value)} {st : List Value} {k j : Nat} {Post : PT} {S : Sh} {I : CI} {R : CR} {A : Nat → Int} {tx : Nat → Nat → Int}
theorem and63_b (x : Int) : 0 ≤ andI x 63 ∧ andI x 63 ≤ 63 := by
  have h := and255_b x
  have e : andI x 63 = andI (andI x 255) 63 := by
    unfold andI
    rw [← iI_of, Int32.and_assoc]
    rfl
  obtain ⟨q, hq⟩ : ∃ q : Nat, andI x 255 = (q : Int) ∧ q < 256 := ⟨(andI x 255).toNat, by omega, by omega⟩
  rw [e, hq.1]
  have key : ∀ q : Fin 256, 0 ≤ andI ((q.val : Nat) : Int) 63 ∧ andI ((q.val : Nat) : Int) 63 ≤ 63 := by decide +kernel
  exact key ⟨q, hq.2⟩
theorem apN_b {t : Nat → Int} {l : Nat} {v : Int} (h : ∀ i, i < 300 → 0 ≤ t i ∧ t i < 256) : ∀ k : Nat, ∀ i, i < 300 → 0 ≤ apN t l v k i ∧ apN t l v k i < 256 := by
  intro k
  induction k with
  | zero => exact h
  | succ k ih =>
    intro i hi
    show 0 ≤ upA (apN t l v k) (l + k) _ i ∧ upA (apN t l v k) (l + k) _ i < 256
    by_cases e : i = l + k
    · subst e
      rw [upA_s]
      have := and255_b (shrI v ((24 - 8 * k : Nat) : Int))
      omega
    · rw [upA_o (by omega)]; exact ih i hi
theorem feed_b {t : Nat → Int} {l : Nat} {a b c d e : Int} (h : ∀ i, i < 300 → 0 ≤ t i ∧ t i < 256) : ∀ i, i < 300 → 0 ≤ (f_feed t l a b c d e).2 i ∧ (f_feed t l a b c d e).2 i < 256 := by
  unfold f_feed; split
  · exact h
  · exact apN_b (apN_b (apN_b (apN_b (apN_b h 4) 4) 4) 4) 4
theorem LI.tape {a1 a2 : Nat} {B : Nat → Int} {t t' : Nat → Int} {l l' : Nat} {J : CI} (h : LI a1 a2 S I R A B tx t l) (e : ∀ c, c ≠ 287 → c ≠ 288 → c ≠ 306 → c ≠ 310 → J c = I c) (e1 : ∀ q, q ≠ 3 → J 287 q = I 287 q) (e2 : ∀ q, q ≠ 4 → J 306 q = I 306 q) (g1 : TpC J t' l') (g2 : TpR J t' l') : LI a1 a2 S J R A B tx t' l' := by
  have e08 := e 308 (by omega) (by omega) (by omega) (by omega)
  have e09 := e 309 (by omega) (by omega) (by omega) (by omega)
  have e90 := e 290 (by omega) (by omega) (by omega) (by omega)
  refine ⟨h.ad1, h.ad2, h.cs, h.rb, ⟨ClW_fr (fun c q1 q2 => e c (by omega) (by omega) (by omega) (by omega)) h.iv.1, h.iv.2.1, WTx_fr (fun c hc => e c (by omega) (by omega) (by omega) (by omega)) h.iv.2.2.1, by unfold SK; rw [e 281 (by omega) (by omega) (by omega) (by omega)]; exact h.iv.2.2.2⟩, by rw [e 307 (by omega) (by omega) (by omega) (by omega)]; exact h.rA, ClW_frb (fun c q1 q2 => e c (by omega) (by omega) (by omega) (by omega)) h.cB, h.bB, by rw [e08]; exact h.rB, h.le, fun q hq => ?_, h.to1, h.to2, g1, g2, ?_, ?_, ?_, ?_, ?_, ?_, ?_, ?_, h.tb⟩
  · obtain ⟨id, q1, q2, q3⟩ := h.kt q hq
    exact ⟨id, q1, q2.fr (fun a ha => e a (by omega) (by omega) (by omega) (by omega)), q3⟩
  · rw [e1 4 (by omega), e2 5 (by omega)]; exact h.f4
  · rw [e1 5 (by omega), e2 6 (by omega)]; exact h.f5
  · rw [e1 12 (by omega)]; exact h.c12
  · unfold CB; rw [e90]; exact h.cb
  · rw [e2 23 (by omega)]; exact h.z23
  · exact h.dk.fr (e 304 (by omega) (by omega) (by omega) (by omega)) (e 305 (by omega) (by omega) (by omega) (by omega))
  · exact h.dm.fr (e 323 (by omega) (by omega) (by omega) (by omega)) (e 324 (by omega) (by omega) (by omega) (by omega))
  · rw [e09]; exact h.rt
theorem TXr.rr {J : CI} {R2 : CR} {id : Nat} {x : Nat → Int} (h : TXr S R I id x) (hk : ∀ a, 325 ≤ a → J a = I a) (hr : ∀ a, 325 ≤ a → R2 a = R a) : TXr S R2 J id x := by
  have h0 := h.1
  unfold TXr at h ⊢
  rw [hk id h0, hk (id + 1) (by omega), hk (id + 2) (by omega), hr id h0]
  exact h
theorem LI.img {a1 a2 : Nat} {B : Nat → Int} {t : Nat → Int} {l : Nat} {I1 J : CI} {R1 : CR} (h : LI a1 a2 S I R A B tx t l) (w1 : WCp I I1 1 140) (f1 : ∀ c, (c < 140 ∨ 278 < c) → I1 c = I c) (r1 : ∀ i, i < 4 → R1 151 i = R 12 i) (r2 : ∀ c i, (c ≠ 151 ∨ 4 ≤ i) → R1 c i = R c i) (e8 : J 308 = cpA A (I1 308)) (f2 : ∀ c, c ≠ 308 → J c = I1 c) : LI a1 a2 S J R1 A A tx t l := by
  have e : ∀ c, (c < 140 ∨ 278 < c) → c ≠ 308 → J c = I c := fun c q1 q2 => (f2 c q2).trans (f1 c q1)
  have er : ∀ c, c ≠ 151 → R1 c = R c := fun c hc => by funext i; exact r2 c i (Or.inl hc)
  have b1 := h.iv.2.1.2.1.1
  have h3 := h.iv.2.1.2.1.2.2.1
  have h11 := BA_11 h.iv.2.1
  have e309 := e 309 (by omega) (by omega)
  have e310 := e 310 (by omega) (by omega)
  have e287 := e 287 (by omega) (by omega)
  have e288 := e 288 (by omega) (by omega)
  have e290 := e 290 (by omega) (by omega)
  have e306 := e 306 (by omega) (by omega)
  have rb1 : RB S R1 := by
    intro a q b hq
    by_cases ha : a = 151 ∧ q < 4
    · obtain ⟨rfl, hq4⟩ := ha
      rw [r1 q hq4] at hq
      exact h.rb _ _ _ hq
    · rw [r2 a q (by omega)] at hq
      exact h.rb _ _ _ hq
  have tk : ∀ {q : Nat} {id : Nat}, TXr S R I id (tx q) → TXr S R1 J id (tx q) := fun hq => hq.rr (fun a ha => e a (by omega) (by omega)) (fun a ha => er a (by omega))
  refine ⟨h.ad1, h.ad2, Gr.cst Gr.rf h.cs (fun a _ _ h2 => er a h2), rb1, ⟨ClW_fr (fun c q1 q2 => e c (by omega) (by omega)) h.iv.1, h.iv.2.1, fun q hq => ?_, by unfold SK; rw [e 281 (by omega) (by omega)]; exact h.iv.2.2.2⟩, by rw [e 307 (by omega) (by omega)]; exact h.rA, ClW_frb (fun c q1 q2 => f2 c (by omega)) (ClW_cp h.iv.1 h3.2 (by omega) w1), h.iv.2.1, fun i hi => ?_, Int.le_refl _, fun q hq => ?_, fun i hi => ?_, fun i hi => ?_, ?_, ?_, ?_, ?_, ?_, ?_, ?_, ?_, ?_, ?_, h.tb⟩
  · obtain ⟨id, q1, q2, q3⟩ := h.iv.2.2.1 q hq
    exact ⟨id, by rw [er 12 (by omega)]; exact q1, tk q2, q3⟩
  · rw [e8]; exact if_pos hi
  · obtain ⟨id, q1, q2, q3⟩ := h.iv.2.2.1 q hq
    exact ⟨id, by rw [r1 q (by omega)]; exact q1, tk q2, q3⟩
  · rw [er 12 (by omega)]; exact h.to1 i hi
  · rw [r1 i hi]; exact h.to1 i hi
  · unfold TpC; rw [e287, e288]; exact h.tc
  · unfold TpR; rw [e306, e310]; exact h.tr
  · rw [e287, e306]; exact h.f4
  · rw [e287, e306]; exact h.f5
  · rw [e287]; exact h.c12
  · unfold CB; rw [e290]; exact h.cb
  · rw [e306]; exact h.z23
  · exact h.dk.fr (e 304 (by omega) (by omega)) (e 305 (by omega) (by omega))
  · exact h.dm.fr (e 323 (by omega) (by omega)) (e 324 (by omega) (by omega))
  · rw [e309]; exact h.rt
theorem LI.bk {a1 a2 : Nat} {B : Nat → Int} {t : Nat → Int} {l : Nat} {I1 J : CI} {R1 : CR} (h : LI a1 a2 S I R A B tx t l) (w1 : WCp I I1 140 1) (f1 : ∀ c, (c < 1 ∨ 139 < c) → I1 c = I c) (r1 : ∀ i, i < 4 → R1 12 i = R 151 i) (r2 : ∀ c i, (c ≠ 12 ∨ 4 ≤ i) → R1 c i = R c i) (e7 : J 307 = cpA (I1 308) (I1 307)) (f2 : F7 I1 J) : LI a1 a2 S J R1 (cpA (I 308) A) B tx t l := by
  have e : ∀ c, (c < 1 ∨ 139 < c) → c ≠ 307 → J c = I c := fun c q1 q2 => (f2 c q2).trans (f1 c q1)
  have er : ∀ c, c ≠ 12 → R1 c = R c := fun c hc => by funext i; exact r2 c i (Or.inl hc)
  have b1 := h.bB.2.1.1
  have h3 := h.bB.2.1.2.2.1
  have h11 := BA_11 h.bB
  have eA : ∀ i, i < 2875 → cpA (I 308) A i = B i := fun i hi => (if_pos hi).trans (h.rB i hi)
  have e1 := eA 1 (by omega)
  have hle := h.le
  have e308 := e 308 (by omega) (by omega)
  have e309 := e 309 (by omega) (by omega)
  have e310 := e 310 (by omega) (by omega)
  have e287 := e 287 (by omega) (by omega)
  have e288 := e 288 (by omega) (by omega)
  have e290 := e 290 (by omega) (by omega)
  have e306 := e 306 (by omega) (by omega)
  have rb1 : RB S R1 := by
    intro a q b hq
    by_cases ha : a = 12 ∧ q < 4
    · obtain ⟨rfl, hq4⟩ := ha
      rw [r1 q hq4] at hq
      exact h.rb _ _ _ hq
    · rw [r2 a q (by omega)] at hq
      exact h.rb _ _ _ hq
  have tk : ∀ {q : Nat} {id : Nat}, TXr S R I id (tx q) → TXr S R1 J id (tx q) := fun hq => hq.rr (fun a ha => e a (by omega) (by omega)) (fun a ha => er a (by omega))
  refine ⟨h.ad1, h.ad2, Gr.cst Gr.rf h.cs (fun a _ h1 _ => er a h1), rb1, ⟨ClW_fr (fun c q1 q2 => f2 c (by omega)) (ClW_xt eA h3.2 (by omega) (ClW_cp h.cB h3.2 (by omega) w1)), BA_xt eA h.bB, fun q hq => ?_, by unfold SK; rw [e 281 (by omega) (by omega)]; exact h.iv.2.2.2⟩, by rw [e7, f1 308 (by omega), f1 307 (by omega), h.rA], ClW_frb (fun c q1 q2 => e c (by omega) (by omega)) h.cB, h.bB, by rw [e308]; exact h.rB, by rw [e1]; exact Int.le_refl _, fun q hq => ?_, fun i hi => ?_, fun i hi => ?_, ?_, ?_, ?_, ?_, ?_, ?_, ?_, ?_, ?_, fun q hq => ?_, fun q hq => ?_⟩
  · rw [e1] at hq
    obtain ⟨id, q1, q2, q3⟩ := h.kt q hq
    exact ⟨id, by rw [r1 q (by omega)]; exact q1, tk q2, q3⟩
  · obtain ⟨id, q1, q2, q3⟩ := h.kt q hq
    exact ⟨id, by rw [er 151 (by omega)]; exact q1, tk q2, q3⟩
  · rw [r1 i hi]; exact h.to2 i hi
  · rw [er 151 (by omega)]; exact h.to2 i hi
  · unfold TpC; rw [e287, e288]; exact h.tc
  · unfold TpR; rw [e306, e310]; exact h.tr
  · rw [e287, e306]; exact h.f4
  · rw [e287, e306]; exact h.f5
  · rw [e287]; exact h.c12
  · unfold CB; rw [e290]; exact h.cb
  · rw [e306]; exact h.z23
  · exact h.dk.fr (e 304 (by omega) (by omega)) (e 305 (by omega) (by omega))
  · exact h.dm.fr (e 323 (by omega) (by omega)) (e 324 (by omega) (by omega))
  · rw [e309]; exact h.rt q (by omega)
  · exact h.tb q (by omega)
theorem lc_fault {b0 Ln : Nat} {xs : Nat → Int32} {a1 a2 : Nat} {B : Nat → Int} {t : Nat → Int} {l : Nat} {i : Int} (h : LI a1 a2 S I R A B tx t l) (hL : Ln ≤ 3072) (hi : 0 ≤ i ∧ i + 6 ≤ Ln) (hk : k + 3 ≤ 600000) (hj : j + 403 ≤ 7302250) (nx : Nx b0 Ln xs a1 a2 i k j) : LwP b0 Ln xs 1300 600000 7302250 mL_law PL 384 (lvL4 b0 a1 a2 i) [] k j S I R := by
  refine y_aload_n (i := 1) dL_law_384 rfl ?_
  refine y_arg (z := i) (q := 1) dL_law_385 dL_law_386 dL_law_387 dL_law_388 dL_law_389 rfl rfl (by omega) (by omega) hL ?_
  refine y_cV1 (n1 := 1299) (mc1 := 0) (ms1 := 0) (ci := 11) dL_law_390 cv_RL_33 (k_ob_0 h.cs) rfl h.ad1 (Nat.le_of_ble_eq_true rfl) (Nat.le_refl _) (by omega) (by omega) ?_
  refine sp_X11_fault (q := (xs (i + 1).toNat).toInt) h.cs (rg_x _) (fun r hr => ?_)
  refine y_aload_n (i := 2) dL_law_393 rfl ?_
  refine y_arg (z := i) (q := 1) dL_law_394 dL_law_395 dL_law_396 dL_law_397 dL_law_398 rfl rfl (by omega) (by omega) hL ?_
  refine y_cV1 (n1 := 1299) (mc1 := 0) (ms1 := 0) (ci := 12) dL_law_399 cv_RL_36 (k_ob_306 h.cs) rfl h.ad2 (Nat.le_of_ble_eq_true rfl) (Nat.le_refl _) (by omega) (by omega) ?_
  refine sp_X12_fault (q := (xs (i + 1).toNat).toInt) h.cs (rg_x _) (fun r2 hr2 => ?_)
  have f4 := h.f4
  have f5 := h.f5
  have er : r2 = r := by clear nx; omega
  subst er
  have hJ : LJ a1 a2 S I R := ⟨_, _, _, _, _, h⟩
  refine y_same 1488 dL_law_402 (by decide) ?_
  exact nx _ _ _ _ _ (by omega) (by omega) hJ
theorem lc_about {b0 Ln : Nat} {xs : Nat → Int32} {a1 a2 : Nat} {B : Nat → Int} {t : Nat → Int} {l : Nat} {i : Int} (h : LI a1 a2 S I R A B tx t l) (hL : Ln ≤ 3072) (hi : 0 ≤ i ∧ i + 6 ≤ Ln) (hk : k + 3 ≤ 600000) (hj : j + 403 ≤ 7302250) (nx : Nx b0 Ln xs a1 a2 i k j) : LwP b0 Ln xs 1300 600000 7302250 mL_law PL 1465 (lvL4 b0 a1 a2 i) [] k j S I R := by
  refine y_aload_n (i := 1) dL_law_1465 rfl ?_
  refine y_arg (z := i) (q := 1) dL_law_1466 dL_law_1467 dL_law_1468 dL_law_1469 dL_law_1470 rfl rfl (by omega) (by omega) hL ?_
  refine y_cV1 (n1 := 1299) (mc1 := 0) (ms1 := 0) (ci := 11) dL_law_1471 cv_RL_204 (k_ob_0 h.cs) rfl h.ad1 (Nat.le_of_ble_eq_true rfl) (Nat.le_refl _) (by omega) (by omega) ?_
  refine sp_X11_about (q := (xs (i + 1).toNat).toInt) h.cs h.iv.1 (rg_x _) (fun r hr => ?_)
  refine y_aload_n (i := 2) dL_law_1474 rfl ?_
  refine y_arg (z := i) (q := 1) dL_law_1475 dL_law_1476 dL_law_1477 dL_law_1478 dL_law_1479 rfl rfl (by omega) (by omega) hL ?_
  refine y_cV1 (n1 := 1299) (mc1 := 0) (ms1 := 0) (ci := 12) dL_law_1480 cv_RL_207 (k_ob_306 h.cs) rfl h.ad2 (Nat.le_of_ble_eq_true rfl) (Nat.le_refl _) (by omega) (by omega) ?_
  refine sp_X12_about (q := (xs (i + 1).toNat).toInt) h.cs h.rA (rg_x _) (by omega) (fun r2 hr2 => ?_)
  have f4 := h.tc.2.1
  have f5 := h.tr.2.1
  have er : r2 = r := by clear nx; omega
  subst er
  have hJ : LJ a1 a2 S I R := ⟨_, _, _, _, _, h⟩
  refine y_same 1488 dL_law_1483 (by decide) ?_
  exact nx _ _ _ _ _ (by omega) (by omega) hJ
theorem lc_hottest {b0 Ln : Nat} {xs : Nat → Int32} {a1 a2 : Nat} {B : Nat → Int} {t : Nat → Int} {l : Nat} {i : Int} (h : LI a1 a2 S I R A B tx t l) (hL : Ln ≤ 3072) (hi : 0 ≤ i ∧ i + 6 ≤ Ln) (hk : k + 3 ≤ 600000) (hj : j + 403 ≤ 7302250) (nx : Nx b0 Ln xs a1 a2 i k j) : LwP b0 Ln xs 1300 600000 7302250 mL_law PL 1390 (lvL4 b0 a1 a2 i) [] k j S I R := by
  refine y_aload_n (i := 1) dL_law_1390 rfl ?_
  refine y_cV0 (n1 := 1299) (mc1 := 0) (ms1 := 0) (ci := 11) dL_law_1391 cv_RL_184 (k_ob_0 h.cs) rfl h.ad1 (Nat.le_of_ble_eq_true rfl) (Nat.le_refl _) (by omega) (by omega) ?_
  refine sp_X11_hottest h.cs h.iv.1 h.iv.2.1 ?_
  refine y_aload_n (i := 2) dL_law_1394 rfl ?_
  refine y_cV0 (n1 := 1299) (mc1 := 0) (ms1 := 0) (ci := 12) dL_law_1395 cv_RL_187 (k_ob_306 h.cs) rfl h.ad2 (Nat.le_of_ble_eq_true rfl) (Nat.le_refl _) (by omega) (by omega) ?_
  refine sp_X12_hottest h.cs h.rA h.iv.2.1 (by omega) ?_
  rw [hot_eq h.iv.1 h.iv.2.1]
  have hJ : LJ a1 a2 S I R := ⟨_, _, _, _, _, h⟩
  refine y_same 1488 dL_law_1398 (by decide) ?_
  exact nx _ _ _ _ _ (by omega) (by omega) hJ
theorem lc_feed {b0 Ln : Nat} {xs : Nat → Int32} {a1 a2 : Nat} {B : Nat → Int} {t : Nat → Int} {l : Nat} {i : Int} (h : LI a1 a2 S I R A B tx t l) (hL : Ln ≤ 3072) (hi : 0 ≤ i ∧ i + 6 ≤ Ln) (hk : k + 3 ≤ 600000) (hj : j + 403 ≤ 7302250) (nx : Nx b0 Ln xs a1 a2 i k j) : LwP b0 Ln xs 1300 600000 7302250 mL_law PL 285 (lvL4 b0 a1 a2 i) [] k j S I R := by
  refine y_aload_n (i := 1) dL_law_285 rfl ?_
  refine y_arg (z := i) (q := 1) dL_law_286 dL_law_287 dL_law_288 dL_law_289 dL_law_290 rfl rfl (by omega) (by omega) hL ?_
  refine y_arg (z := i) (q := 2) dL_law_291 dL_law_292 dL_law_293 dL_law_294 dL_law_295 rfl rfl (by omega) (by omega) hL ?_
  refine y_arg (z := i) (q := 3) dL_law_296 dL_law_297 dL_law_298 dL_law_299 dL_law_300 rfl rfl (by omega) (by omega) hL ?_
  refine y_arg (z := i) (q := 4) dL_law_301 dL_law_302 dL_law_303 dL_law_304 dL_law_305 rfl rfl (by omega) (by omega) hL ?_
  refine y_arg (z := i) (q := 5) dL_law_306 dL_law_307 dL_law_308 dL_law_309 dL_law_310 rfl rfl (by omega) (by omega) hL ?_
  refine y_cV5 (n1 := 1299) (mc1 := 0) (ms1 := 0) (ci := 11) dL_law_311 cv_RL_18 (k_ob_0 h.cs) rfl h.ad1 (Nat.le_of_ble_eq_true rfl) (Nat.le_refl _) (by omega) (by omega) ?_
  refine sp_X11_feed (l := l) (a := (xs (i + 1).toNat).toInt) (b := (xs (i + 2).toNat).toInt) (c := (xs (i + 3).toNat).toInt) (d := (xs (i + 4).toNat).toInt) (e := (xs (i + 5).toNat).toInt) h.cs h.tc.2.1 h.tc.2.2.1 ⟨rg_x _, rg_x _, rg_x _, rg_x _, rg_x _⟩ (by omega) (fun I1 e1 e2 f1 => ?_)
  rw [h.tc.1] at e1 ⊢
  refine y_aload_n (i := 2) dL_law_314 rfl ?_
  refine y_arg (z := i) (q := 1) dL_law_315 dL_law_316 dL_law_317 dL_law_318 dL_law_319 rfl rfl (by omega) (by omega) hL ?_
  refine y_arg (z := i) (q := 2) dL_law_320 dL_law_321 dL_law_322 dL_law_323 dL_law_324 rfl rfl (by omega) (by omega) hL ?_
  refine y_arg (z := i) (q := 3) dL_law_325 dL_law_326 dL_law_327 dL_law_328 dL_law_329 rfl rfl (by omega) (by omega) hL ?_
  refine y_arg (z := i) (q := 4) dL_law_330 dL_law_331 dL_law_332 dL_law_333 dL_law_334 rfl rfl (by omega) (by omega) hL ?_
  refine y_arg (z := i) (q := 5) dL_law_335 dL_law_336 dL_law_337 dL_law_338 dL_law_339 rfl rfl (by omega) (by omega) hL ?_
  refine y_cV5 (n1 := 1299) (mc1 := 0) (ms1 := 0) (ci := 12) dL_law_340 cv_RL_22 (k_ob_306 h.cs) rfl h.ad2 (Nat.le_of_ble_eq_true rfl) (Nat.le_refl _) (by omega) (by omega) ?_
  have i6 : I1 306 = I 306 := f1.1 306 (by omega) (by omega)
  have i10 : I1 310 = t := (f1.1 310 (by omega) (by omega)).trans h.tr.1
  refine sp_X12_feed (I := I1) (l := l) (a := (xs (i + 1).toNat).toInt) (b := (xs (i + 2).toNat).toInt) (c := (xs (i + 3).toNat).toInt) (d := (xs (i + 4).toNat).toInt) (e := (xs (i + 5).toNat).toInt) h.cs (by rw [i6]; exact h.tr.2.1) h.tr.2.2.1 ⟨rg_x _, rg_x _, rg_x _, rg_x _, rg_x _⟩ (by omega) (fun J e3 e4 f2 => ?_)
  rw [i10] at e3 ⊢
  have hl := h.tc.2.2.1
  obtain ⟨l2, hl2, hl3⟩ : ∃ l2 : Nat, (if 280 < l then (l : Int) else (l : Int) + 20) = (l2 : Int) ∧ l2 ≤ 300 := by
    by_cases q : 280 < l
    · exact ⟨l, if_pos q, hl⟩
    · exact ⟨l + 20, by rw [if_neg q]; omega, by omega⟩
  have g3 : J 287 3 = (l2 : Int) := by rw [f2.1 287 (by omega) (by omega), e2]; exact hl2
  have hJ : LJ a1 a2 S J R := ⟨_, _, _, _, l2, h.tape (fun c q1 q2 q3 q4 => (f2.1 c q3 q4).trans (f1.1 c q1 q2)) (fun q hq => by rw [f2.1 287 (by omega) (by omega)]; exact f1.2 q hq) (fun q hq => by rw [f2.2 q hq, i6]) ⟨by rw [f2.1 288 (by omega) (by omega)]; exact e1, g3, hl3, feed_b h.tc.2.2.2⟩ ⟨e3, e4.trans hl2, hl3, feed_b h.tc.2.2.2⟩⟩
  refine y_same 1488 dL_law_343 (by decide) ?_
  exact nx _ _ _ _ _ (by omega) (by omega) hJ
theorem lc_end {b0 Ln : Nat} {xs : Nat → Int32} {a1 a2 : Nat} {B : Nat → Int} {t : Nat → Int} {l : Nat} {i : Int} (h : LI a1 a2 S I R A B tx t l) (hL : Ln ≤ 3072) (hi : 0 ≤ i ∧ i + 6 ≤ Ln) (hk : k + 3 ≤ 600000) (hj : j + 403 ≤ 7302250) (nx : Nx b0 Ln xs a1 a2 i k j) : LwP b0 Ln xs 1300 600000 7302250 mL_law PL 348 (lvL4 b0 a1 a2 i) [] k j S I R := by
  refine y_aload_n (i := 1) dL_law_348 rfl ?_
  refine y_arg (z := i) (q := 1) dL_law_349 dL_law_350 dL_law_351 dL_law_352 dL_law_353 rfl rfl (by omega) (by omega) hL ?_
  refine y_cV1 (n1 := 1299) (mc1 := 0) (ms1 := 0) (ci := 11) dL_law_354 cv_RL_23 (k_ob_0 h.cs) rfl h.ad1 (Nat.le_of_ble_eq_true rfl) (Nat.le_refl _) (by omega) (by omega) ?_
  have hl1 := h.tc.2.1
  have hl2 := h.tr.2.1
  have hl3 := h.tc.2.2.1
  refine sp_X11_end (q := (xs (i + 1).toNat).toInt) h.cs (rg_x _) (by omega) (fun r x hr => ?_)
  refine y_aload_n (i := 2) dL_law_357 rfl ?_
  refine y_arg (z := i) (q := 1) dL_law_358 dL_law_359 dL_law_360 dL_law_361 dL_law_362 rfl rfl (by omega) (by omega) hL ?_
  refine y_cV1 (n1 := 1299) (mc1 := 0) (ms1 := 0) (ci := 12) dL_law_363 cv_RL_27 (k_ob_306 h.cs) rfl h.ad2 (Nat.le_of_ble_eq_true rfl) (Nat.le_refl _) (by omega) (by omega) ?_
  refine sp_X12_end (I := uI I 287 3 x) (q := (xs (i + 1).toNat).toInt) h.cs (rg_x _) (by rw [uI_row (by omega)]; omega) (by omega) (fun r2 x2 hr2 => ?_)
  rw [uI_row (show (306 : Nat) ≠ 287 by omega)] at hr2
  have er : r2 = r ∧ x2 = x ∧ 0 ≤ x ∧ x ≤ 300 := by clear nx; omega
  obtain ⟨rfl, rfl, hx0, hx1⟩ := er
  have hJ : LJ a1 a2 S (uI (uI I 287 3 x2) 306 4 x2) R := ⟨_, _, _, t, x2.toNat, h.tape (fun c q1 q2 q3 q4 => by rw [uI_row q3, uI_row q1]) (fun q hq => by rw [uI_row (by omega), uI_o (by omega)]) (fun q hq => by rw [uI_o (by omega), uI_row (by omega)]) ⟨by rw [uI_row (by omega), uI_row (by omega)]; exact h.tc.1, by rw [uI_row (by omega), uI_s]; omega, by omega, h.tc.2.2.2⟩ ⟨by rw [uI_row (by omega), uI_row (by omega)]; exact h.tr.1, by rw [uI_s]; omega, by omega, h.tr.2.2.2⟩⟩
  refine y_same 1488 dL_law_366 (by decide) ?_
  exact nx _ _ _ _ _ (by omega) (by omega) hJ
theorem lc_image {b0 Ln : Nat} {xs : Nat → Int32} {a1 a2 : Nat} {B : Nat → Int} {t : Nat → Int} {l : Nat} {i : Int} (h : LI a1 a2 S I R A B tx t l) (hL : Ln ≤ 3072) (hi : 0 ≤ i ∧ i + 6 ≤ Ln) (hk : k + 3 ≤ 600000) (hj : j + 403 ≤ 7302250) (nx : Nx b0 Ln xs a1 a2 i k j) : LwP b0 Ln xs 1300 600000 7302250 mL_law PL 1439 (lvL4 b0 a1 a2 i) [] k j S I R := by
  refine y_aload_n (i := 1) dL_law_1439 rfl ?_
  refine y_cV0 (n1 := 1299) (mc1 := 0) (ms1 := 0) (ci := 11) dL_law_1440 cv_RL_196 (k_ob_0 h.cs) rfl h.ad1 (Nat.le_of_ble_eq_true rfl) (Nat.le_refl _) (by omega) (by omega) ?_
  refine sp_X11_image h.cs h.to1 (by omega) (fun I1 R1 w1 f1 r1 r2 => ?_)
  have cs2 : CS S R1 := Gr.cst Gr.rf h.cs (fun a _ _ h2 => by funext z; exact r2 a z (Or.inl h2))
  have e66 : I 6 6 = A 7 := h.iv.1.1.1.2.1.symm
  rw [e66]
  refine y_aload_n (i := 2) dL_law_1443 rfl ?_
  refine y_cV0 (n1 := 1299) (mc1 := 0) (ms1 := 0) (ci := 12) dL_law_1444 cv_RL_199 (k_ob_306 cs2) rfl h.ad2 (Nat.le_of_ble_eq_true rfl) (Nat.le_refl _) (by omega) (by omega) ?_
  refine sp_X12_image (I := I1) (A := A) cs2 ((f1 307 (by omega)).trans h.rA) (by omega) (fun J e8 f2 => ?_)
  have hJ : LJ a1 a2 S J R1 := ⟨_, _, _, _, _, h.img w1 f1 r1 r2 e8 f2⟩
  refine y_same 1488 dL_law_1447 (by decide) ?_
  exact nx _ _ _ _ _ (by omega) (by omega) hJ
theorem lc_back {b0 Ln : Nat} {xs : Nat → Int32} {a1 a2 : Nat} {B : Nat → Int} {t : Nat → Int} {l : Nat} {i : Int} (h : LI a1 a2 S I R A B tx t l) (hL : Ln ≤ 3072) (hi : 0 ≤ i ∧ i + 6 ≤ Ln) (hk : k + 3 ≤ 600000) (hj : j + 403 ≤ 7302250) (nx : Nx b0 Ln xs a1 a2 i k j) : LwP b0 Ln xs 1300 600000 7302250 mL_law PL 1452 (lvL4 b0 a1 a2 i) [] k j S I R := by
  refine y_aload_n (i := 1) dL_law_1452 rfl ?_
  refine y_cV0 (n1 := 1299) (mc1 := 0) (ms1 := 0) (ci := 11) dL_law_1453 cv_RL_200 (k_ob_0 h.cs) rfl h.ad1 (Nat.le_of_ble_eq_true rfl) (Nat.le_refl _) (by omega) (by omega) ?_
  refine sp_X11_back h.cs h.to2 (by omega) (fun I1 R1 w1 f1 r1 r2 => ?_)
  have cs2 : CS S R1 := Gr.cst Gr.rf h.cs (fun a _ h1 _ => by funext z; exact r2 a z (Or.inl h1))
  have e66 : I 145 6 = B 7 := h.cB.1.1.2.1.symm
  rw [e66]
  refine y_aload_n (i := 2) dL_law_1456 rfl ?_
  refine y_cV0 (n1 := 1299) (mc1 := 0) (ms1 := 0) (ci := 12) dL_law_1457 cv_RL_203 (k_ob_306 cs2) rfl h.ad2 (Nat.le_of_ble_eq_true rfl) (Nat.le_refl _) (by omega) (by omega) ?_
  refine sp_X12_back (I := I1) cs2 (by omega) (fun J e7 f2 => ?_)
  have e67 : I1 308 7 = B 7 := by rw [f1 308 (by omega)]; exact h.rB 7 (by omega)
  rw [e67]
  have hJ : LJ a1 a2 S J R1 := ⟨_, _, _, _, _, h.bk w1 f1 r1 r2 e7 f2⟩
  refine y_same 1488 dL_law_1460 (by decide) ?_
  exact nx _ _ _ _ _ (by omega) (by omega) hJ
end Lw4
