section Lw3
variable {n mc ms : Nat} {M : Md} {pc : Nat} {lv : List (Nat × Value)} {st : List Value} {k j : Nat} {Post : PT} {S : Sh} {I : CI} {R : CR} {A : Nat → Int} {tx : Nat → Nat → Int}
theorem lc_quarrel {b0 Ln : Nat} {xs : Nat → Int32} {a1 a2 : Nat} {B : Nat → Int} {t : Nat → Int} {l : Nat} {i : Int} (h : LI a1 a2 S I R A B tx t l) (hL : Ln ≤ 3072) (hi : 0 ≤ i ∧ i + 6 ≤ Ln) (hk : k + 3 ≤ 600000) (hj : j + 403 ≤ 7302250) (nx : Nx b0 Ln xs a1 a2 i k j) : LwP b0 Ln xs 1300 600000 7302250 mL_law PL 232 (lvL4 b0 a1 a2 i) [] k j S I R := by
  refine y_aload_n (i := 1) dL_law_232 rfl ?_
  refine y_arg (z := i) (q := 1) dL_law_233 dL_law_234 dL_law_235 dL_law_236 dL_law_237 rfl rfl (by omega) (by omega) hL ?_
  refine y_arg (z := i) (q := 2) dL_law_238 dL_law_239 dL_law_240 dL_law_241 dL_law_242 rfl rfl (by omega) (by omega) hL ?_
  refine y_arg (z := i) (q := 3) dL_law_243 dL_law_244 dL_law_245 dL_law_246 dL_law_247 rfl rfl (by omega) (by omega) hL ?_
  refine y_arg (z := i) (q := 4) dL_law_248 dL_law_249 dL_law_250 dL_law_251 dL_law_252 rfl rfl (by omega) (by omega) hL ?_
  refine y_cV4 (n1 := 1299) (mc1 := 0) (ms1 := 0) (ci := 11) dL_law_253 cv_RL_13 (k_ob_0 h.cs) rfl h.ad1 (Nat.le_of_ble_eq_true rfl) (Nat.le_refl _) (by omega) (by omega) ?_
  refine sp_X11_quarrel (a := (xs (i + 1).toNat).toInt) (b := (xs (i + 2).toNat).toInt) (w := (xs (i + 3).toNat).toInt) (t := (xs (i + 4).toNat).toInt) (cs := h.cs) (hc := h.iv.1) (hb := h.iv.2.1) (ha := (rg_x _)) (hbb := (rg_x _)) (hw := (rg_x _)) (ht := (rg_x _)) (hn := (by omega)) (hp := fun I1 c1 f1 => ?_)
  have k1 : KC I I1 := f1.kc
  have v1 := h.iv.w f1 c1 (BA_quarrel h.iv.2.1) (f_quarrel_t h.iv.2.1)
  have ht := (f_quarrel_t h.iv.2.1 : (f_quarrel A ((xs (i + 1).toNat).toInt) ((xs (i + 2).toNat).toInt) ((xs (i + 3).toNat).toInt) ((xs (i + 4).toNat).toInt)).2 1 = A 1)
  have d1 := f1.kd h.dk
  have q7 : I1 307 = A := (k1 307 (by omega)).trans h.rA
  have q9 : RTx (I1 309) A tx := by rw [k1 309 (by omega)]; exact h.rt
  have q23 : I1 306 23 = 1 := by rw [k1 306 (by omega)]; exact h.z23
  have qm : DM I1 := h.dm.fr (k1 323 (by omega)) (k1 324 (by omega))
  refine y_aload_n (i := 2) dL_law_256 rfl ?_
  refine y_arg (z := i) (q := 1) dL_law_257 dL_law_258 dL_law_259 dL_law_260 dL_law_261 rfl rfl (by omega) (by omega) hL ?_
  refine y_arg (z := i) (q := 2) dL_law_262 dL_law_263 dL_law_264 dL_law_265 dL_law_266 rfl rfl (by omega) (by omega) hL ?_
  refine y_arg (z := i) (q := 3) dL_law_267 dL_law_268 dL_law_269 dL_law_270 dL_law_271 rfl rfl (by omega) (by omega) hL ?_
  refine y_arg (z := i) (q := 4) dL_law_272 dL_law_273 dL_law_274 dL_law_275 dL_law_276 rfl rfl (by omega) (by omega) hL ?_
  refine y_cV4 (n1 := 1299) (mc1 := 0) (ms1 := 0) (ci := 12) dL_law_277 cv_RL_17 (k_ob_306 h.cs) rfl h.ad2 (Nat.le_of_ble_eq_true rfl) (Nat.le_refl _) (by omega) (by omega) ?_
  refine sp_X12_quarrel (I := I1) (a := (xs (i + 1).toNat).toInt) (b := (xs (i + 2).toNat).toInt) (w := (xs (i + 3).toNat).toInt) (t := (xs (i + 4).toNat).toInt) (cs := h.cs) (hA := q7) (hb := h.iv.2.1) (ha := (rg_x _)) (hbb := (rg_x _)) (hw := (rg_x _)) (ht := (rg_x _)) (hn := (by omega)) (hp := fun J e7 f2 => ?_)
  have k2 : KR I1 J := f2.kr
  have m2 := f2.km qm
  have hJ : LJ a1 a2 S J R := ⟨_, _, _, _, _, h.step k1 v1 d1 k2 m2 e7 ht⟩
  refine y_same 1488 dL_law_280 (by decide) ?_
  exact nx _ _ _ _ _ (by omega) (by omega) hJ
theorem lc_by {b0 Ln : Nat} {xs : Nat → Int32} {a1 a2 : Nat} {B : Nat → Int} {t : Nat → Int} {l : Nat} {i : Int} (h : LI a1 a2 S I R A B tx t l) (hL : Ln ≤ 3072) (hi : 0 ≤ i ∧ i + 6 ≤ Ln) (hk : k + 3 ≤ 600000) (hj : j + 403 ≤ 7302250) (nx : Nx b0 Ln xs a1 a2 i k j) : LwP b0 Ln xs 1300 600000 7302250 mL_law PL 407 (lvL4 b0 a1 a2 i) [] k j S I R := by
  refine y_aload_n (i := 1) dL_law_407 rfl ?_
  refine y_arg (z := i) (q := 1) dL_law_408 dL_law_409 dL_law_410 dL_law_411 dL_law_412 rfl rfl (by omega) (by omega) hL ?_
  refine y_cV1 (n1 := 1299) (mc1 := 0) (ms1 := 0) (ci := 11) dL_law_413 cv_RL_37 (k_ob_0 h.cs) rfl h.ad1 (Nat.le_of_ble_eq_true rfl) (Nat.le_refl _) (by omega) (by omega) ?_
  refine sp_X11_by (t := (xs (i + 1).toNat).toInt) (cs := h.cs) (hv := h.iv) (ht := (rg_x _)) (hn := (by omega)) (hp := fun I1 v1 f1 => ?_)
  have k1 : KC I I1 := f1.kc
  have ht := (f_by_t : (f_by A ((xs (i + 1).toNat).toInt)).2 1 = A 1)
  have d1 := f1.kd h.dk
  have q7 : I1 307 = A := (k1 307 (by omega)).trans h.rA
  have q9 : RTx (I1 309) A tx := by rw [k1 309 (by omega)]; exact h.rt
  have q23 : I1 306 23 = 1 := by rw [k1 306 (by omega)]; exact h.z23
  have qm : DM I1 := h.dm.fr (k1 323 (by omega)) (k1 324 (by omega))
  refine y_aload_n (i := 2) dL_law_416 rfl ?_
  refine y_arg (z := i) (q := 1) dL_law_417 dL_law_418 dL_law_419 dL_law_420 dL_law_421 rfl rfl (by omega) (by omega) hL ?_
  refine y_cV1 (n1 := 1299) (mc1 := 0) (ms1 := 0) (ci := 12) dL_law_422 cv_RL_41 (k_ob_306 h.cs) rfl h.ad2 (Nat.le_of_ble_eq_true rfl) (Nat.le_refl _) (by omega) (by omega) ?_
  refine sp_X12_by (I := I1) (t := (xs (i + 1).toNat).toInt) (cs := h.cs) (hA := q7) (hb := h.iv.2.1) (ht := (rg_x _)) (hn := (by omega)) (hp := fun J e7 f2 => ?_)
  have k2 : KR I1 J := f2.kr
  have m2 := f2.km qm
  have hJ : LJ a1 a2 S J R := ⟨_, _, _, _, _, h.step k1 v1 d1 k2 m2 e7 ht⟩
  refine y_same 1488 dL_law_425 (by decide) ?_
  exact nx _ _ _ _ _ (by omega) (by omega) hJ
theorem lc_pawn {b0 Ln : Nat} {xs : Nat → Int32} {a1 a2 : Nat} {B : Nat → Int} {t : Nat → Int} {l : Nat} {i : Int} (h : LI a1 a2 S I R A B tx t l) (hL : Ln ≤ 3072) (hi : 0 ≤ i ∧ i + 6 ≤ Ln) (hk : k + 3 ≤ 600000) (hj : j + 403 ≤ 7302250) (nx : Nx b0 Ln xs a1 a2 i k j) : LwP b0 Ln xs 1300 600000 7302250 mL_law PL 430 (lvL4 b0 a1 a2 i) [] k j S I R := by
  refine y_aload_n (i := 1) dL_law_430 rfl ?_
  refine y_arg (z := i) (q := 1) dL_law_431 dL_law_432 dL_law_433 dL_law_434 dL_law_435 rfl rfl (by omega) (by omega) hL ?_
  refine y_cV1 (n1 := 1299) (mc1 := 0) (ms1 := 0) (ci := 11) dL_law_436 cv_RL_42 (k_ob_0 h.cs) rfl h.ad1 (Nat.le_of_ble_eq_true rfl) (Nat.le_refl _) (by omega) (by omega) ?_
  refine sp_X11_pawn (q := (xs (i + 1).toNat).toInt) (cs := h.cs) (hc := h.iv.1) (hb := h.iv.2.1) (hq := (rg_x _)) (hn := (by omega)) (hp := fun I1 c1 f1 => ?_)
  have k1 : KC I I1 := f1.kc
  have v1 := h.iv.w f1 c1 (BA_fpawn h.iv.2.1) (f_pawn_t h.iv.2.1)
  have ht := (f_pawn_t h.iv.2.1 : (f_pawn A ((xs (i + 1).toNat).toInt)).2 1 = A 1)
  have d1 := f1.kd h.dk
  have q7 : I1 307 = A := (k1 307 (by omega)).trans h.rA
  have q9 : RTx (I1 309) A tx := by rw [k1 309 (by omega)]; exact h.rt
  have q23 : I1 306 23 = 1 := by rw [k1 306 (by omega)]; exact h.z23
  have qm : DM I1 := h.dm.fr (k1 323 (by omega)) (k1 324 (by omega))
  refine y_aload_n (i := 2) dL_law_439 rfl ?_
  refine y_arg (z := i) (q := 1) dL_law_440 dL_law_441 dL_law_442 dL_law_443 dL_law_444 rfl rfl (by omega) (by omega) hL ?_
  refine y_cV1 (n1 := 1299) (mc1 := 0) (ms1 := 0) (ci := 12) dL_law_445 cv_RL_45 (k_ob_306 h.cs) rfl h.ad2 (Nat.le_of_ble_eq_true rfl) (Nat.le_refl _) (by omega) (by omega) ?_
  refine sp_X12_pawn (I := I1) (q := (xs (i + 1).toNat).toInt) (cs := h.cs) (hA := q7) (hb := h.iv.2.1) (hz := q23) (hq := (rg_x _)) (hn := (by omega)) (hp := fun J e7 f2 => ?_)
  have k2 : KR I1 J := f2.kr
  have m2 := f2.km qm
  have hJ : LJ a1 a2 S J R := ⟨_, _, _, _, _, h.step k1 v1 d1 k2 m2 e7 ht⟩
  refine y_same 1488 dL_law_448 (by decide) ?_
  exact nx _ _ _ _ _ (by omega) (by omega) hJ
theorem lc_redeem {b0 Ln : Nat} {xs : Nat → Int32} {a1 a2 : Nat} {B : Nat → Int} {t : Nat → Int} {l : Nat} {i : Int} (h : LI a1 a2 S I R A B tx t l) (hL : Ln ≤ 3072) (hi : 0 ≤ i ∧ i + 6 ≤ Ln) (hk : k + 3 ≤ 600000) (hj : j + 403 ≤ 7302250) (nx : Nx b0 Ln xs a1 a2 i k j) : LwP b0 Ln xs 1300 600000 7302250 mL_law PL 453 (lvL4 b0 a1 a2 i) [] k j S I R := by
  refine y_aload_n (i := 1) dL_law_453 rfl ?_
  refine y_arg (z := i) (q := 1) dL_law_454 dL_law_455 dL_law_456 dL_law_457 dL_law_458 rfl rfl (by omega) (by omega) hL ?_
  refine y_cV1 (n1 := 1299) (mc1 := 0) (ms1 := 0) (ci := 11) dL_law_459 cv_RL_46 (k_ob_0 h.cs) rfl h.ad1 (Nat.le_of_ble_eq_true rfl) (Nat.le_refl _) (by omega) (by omega) ?_
  refine sp_X11_redeem (q := (xs (i + 1).toNat).toInt) (cs := h.cs) (hv := h.iv) (hq := (rg_x _)) (hn := (by omega)) (hp := fun I1 v1 f1 => ?_)
  have k1 : KC I I1 := f1.kc
  have ht := (f_redeem_t h.iv.2.1 : (f_redeem A tx ((xs (i + 1).toNat).toInt)).2 1 = A 1)
  have d1 := f1.kd h.dk
  have q7 : I1 307 = A := (k1 307 (by omega)).trans h.rA
  have q9 : RTx (I1 309) A tx := by rw [k1 309 (by omega)]; exact h.rt
  have q23 : I1 306 23 = 1 := by rw [k1 306 (by omega)]; exact h.z23
  have qm : DM I1 := h.dm.fr (k1 323 (by omega)) (k1 324 (by omega))
  refine y_aload_n (i := 2) dL_law_462 rfl ?_
  refine y_arg (z := i) (q := 1) dL_law_463 dL_law_464 dL_law_465 dL_law_466 dL_law_467 rfl rfl (by omega) (by omega) hL ?_
  refine y_cV1 (n1 := 1299) (mc1 := 0) (ms1 := 0) (ci := 12) dL_law_468 cv_RL_49 (k_ob_306 h.cs) rfl h.ad2 (Nat.le_of_ble_eq_true rfl) (Nat.le_refl _) (by omega) (by omega) ?_
  refine sp_X12_redeem (I := I1) (q := (xs (i + 1).toNat).toInt) (cs := h.cs) (hA := q7) (hb := h.iv.2.1) (hT := q9) (hz := q23) (hq := (rg_x _)) (hn := (by omega)) (hp := fun J e7 f2 => ?_)
  have k2 : KR I1 J := f2.kr
  have m2 := f2.km qm
  have hJ : LJ a1 a2 S J R := ⟨_, _, _, _, _, h.step k1 v1 d1 k2 m2 e7 ht⟩
  refine y_same 1488 dL_law_471 (by decide) ?_
  exact nx _ _ _ _ _ (by omega) (by omega) hJ
theorem lc_earn {b0 Ln : Nat} {xs : Nat → Int32} {a1 a2 : Nat} {B : Nat → Int} {t : Nat → Int} {l : Nat} {i : Int} (h : LI a1 a2 S I R A B tx t l) (hL : Ln ≤ 3072) (hi : 0 ≤ i ∧ i + 6 ≤ Ln) (hk : k + 3 ≤ 600000) (hj : j + 403 ≤ 7302250) (nx : Nx b0 Ln xs a1 a2 i k j) : LwP b0 Ln xs 1300 600000 7302250 mL_law PL 476 (lvL4 b0 a1 a2 i) [] k j S I R := by
  refine y_aload_n (i := 1) dL_law_476 rfl ?_
  refine y_arg (z := i) (q := 1) dL_law_477 dL_law_478 dL_law_479 dL_law_480 dL_law_481 rfl rfl (by omega) (by omega) hL ?_
  refine y_cV1 (n1 := 1299) (mc1 := 0) (ms1 := 0) (ci := 11) dL_law_482 cv_RL_50 (k_ob_0 h.cs) rfl h.ad1 (Nat.le_of_ble_eq_true rfl) (Nat.le_refl _) (by omega) (by omega) ?_
  refine sp_X11_earn (s := (xs (i + 1).toNat).toInt) (cs := h.cs) (hc := h.iv.1) (hb := h.iv.2.1) (hs := (rg_x _)) (hn := (by omega)) (hp := fun I1 c1 f1 => ?_)
  have k1 : KC I I1 := f1.kc
  have v1 := h.iv.w f1 c1 (BA_earn h.iv.2.1) (f_earn_t)
  have ht := (f_earn_t : (f_earn A ((xs (i + 1).toNat).toInt)).2 1 = A 1)
  have d1 := f1.kd h.dk
  have q7 : I1 307 = A := (k1 307 (by omega)).trans h.rA
  have q9 : RTx (I1 309) A tx := by rw [k1 309 (by omega)]; exact h.rt
  have q23 : I1 306 23 = 1 := by rw [k1 306 (by omega)]; exact h.z23
  have qm : DM I1 := h.dm.fr (k1 323 (by omega)) (k1 324 (by omega))
  refine y_aload_n (i := 2) dL_law_485 rfl ?_
  refine y_arg (z := i) (q := 1) dL_law_486 dL_law_487 dL_law_488 dL_law_489 dL_law_490 rfl rfl (by omega) (by omega) hL ?_
  refine y_cV1 (n1 := 1299) (mc1 := 0) (ms1 := 0) (ci := 12) dL_law_491 cv_RL_53 (k_ob_306 h.cs) rfl h.ad2 (Nat.le_of_ble_eq_true rfl) (Nat.le_refl _) (by omega) (by omega) ?_
  refine sp_X12_earn (I := I1) (s := (xs (i + 1).toNat).toInt) (cs := h.cs) (hA := q7) (hb := h.iv.2.1) (hs := (rg_x _)) (hn := (by omega)) (hp := fun J e7 f2 => ?_)
  have k2 : KR I1 J := f2.kr
  have m2 := f2.km qm
  have hJ : LJ a1 a2 S J R := ⟨_, _, _, _, _, h.step k1 v1 d1 k2 m2 e7 ht⟩
  refine y_same 1488 dL_law_494 (by decide) ?_
  exact nx _ _ _ _ _ (by omega) (by omega) hJ
theorem lc_day {b0 Ln : Nat} {xs : Nat → Int32} {a1 a2 : Nat} {B : Nat → Int} {t : Nat → Int} {l : Nat} {i : Int} (h : LI a1 a2 S I R A B tx t l) (hL : Ln ≤ 3072) (hi : 0 ≤ i ∧ i + 6 ≤ Ln) (hk : k + 3 ≤ 600000) (hj : j + 403 ≤ 7302250) (nx : Nx b0 Ln xs a1 a2 i k j) : LwP b0 Ln xs 1300 600000 7302250 mL_law PL 499 (lvL4 b0 a1 a2 i) [] k j S I R := by
  refine y_aload_n (i := 1) dL_law_499 rfl ?_
  refine y_arg (z := i) (q := 1) dL_law_500 dL_law_501 dL_law_502 dL_law_503 dL_law_504 rfl rfl (by omega) (by omega) hL ?_
  refine y_cV1 (n1 := 1299) (mc1 := 0) (ms1 := 0) (ci := 11) dL_law_505 cv_RL_54 (k_ob_0 h.cs) rfl h.ad1 (Nat.le_of_ble_eq_true rfl) (Nat.le_refl _) (by omega) (by omega) ?_
  refine sp_X11_day (m := (xs (i + 1).toNat).toInt) (cs := h.cs) (hv := h.iv) (hm := (rg_x _)) (hn := (by omega)) (hp := fun I1 v1 f1 => ?_)
  have k1 : KC I I1 := f1.kc
  have ht := (f_day_t h.iv.2.1 : (f_day A tx ((xs (i + 1).toNat).toInt)).2 1 = A 1)
  have d1 := f1.kd h.dk
  have q7 : I1 307 = A := (k1 307 (by omega)).trans h.rA
  have q9 : RTx (I1 309) A tx := by rw [k1 309 (by omega)]; exact h.rt
  have q23 : I1 306 23 = 1 := by rw [k1 306 (by omega)]; exact h.z23
  have qm : DM I1 := h.dm.fr (k1 323 (by omega)) (k1 324 (by omega))
  refine y_aload_n (i := 2) dL_law_508 rfl ?_
  refine y_arg (z := i) (q := 1) dL_law_509 dL_law_510 dL_law_511 dL_law_512 dL_law_513 rfl rfl (by omega) (by omega) hL ?_
  refine y_cV1 (n1 := 1299) (mc1 := 0) (ms1 := 0) (ci := 12) dL_law_514 cv_RL_57 (k_ob_306 h.cs) rfl h.ad2 (Nat.le_of_ble_eq_true rfl) (Nat.le_refl _) (by omega) (by omega) ?_
  refine sp_X12_day (I := I1) (m := (xs (i + 1).toNat).toInt) (cs := h.cs) (hA := q7) (hb := h.iv.2.1) (hT := q9) (hz := q23) (hm := (rg_x _)) (hn := (by omega)) (hp := fun J e7 f2 => ?_)
  have k2 : KR I1 J := f2.kr
  have m2 := f2.km qm
  have hJ : LJ a1 a2 S J R := ⟨_, _, _, _, _, h.step k1 v1 d1 k2 m2 e7 ht⟩
  refine y_same 1488 dL_law_517 (by decide) ?_
  exact nx _ _ _ _ _ (by omega) (by omega) hJ
theorem lc_played {b0 Ln : Nat} {xs : Nat → Int32} {a1 a2 : Nat} {B : Nat → Int} {t : Nat → Int} {l : Nat} {i : Int} (h : LI a1 a2 S I R A B tx t l) (hL : Ln ≤ 3072) (hi : 0 ≤ i ∧ i + 6 ≤ Ln) (hk : k + 3 ≤ 600000) (hj : j + 403 ≤ 7302250) (nx : Nx b0 Ln xs a1 a2 i k j) : LwP b0 Ln xs 1300 600000 7302250 mL_law PL 522 (lvL4 b0 a1 a2 i) [] k j S I R := by
  refine y_aload_n (i := 1) dL_law_522 rfl ?_
  refine y_arg (z := i) (q := 1) dL_law_523 dL_law_524 dL_law_525 dL_law_526 dL_law_527 rfl rfl (by omega) (by omega) hL ?_
  refine y_cV1 (n1 := 1299) (mc1 := 0) (ms1 := 0) (ci := 11) dL_law_528 cv_RL_58 (k_ob_0 h.cs) rfl h.ad1 (Nat.le_of_ble_eq_true rfl) (Nat.le_refl _) (by omega) (by omega) ?_
  refine sp_X11_played (t := (xs (i + 1).toNat).toInt) (cs := h.cs) (hv := h.iv) (hTB := h.tb) (ht := (rg_x _)) (hn := (by omega)) (hp := fun I1 v1 f1 => ?_)
  have k1 : KC I I1 := f1.kc
  have ht := (f_played_t h.iv.2.1 : (f_played A tx ((xs (i + 1).toNat).toInt)).2 1 = A 1)
  have d1 := f1.kd h.dk
  have q7 : I1 307 = A := (k1 307 (by omega)).trans h.rA
  have q9 : RTx (I1 309) A tx := by rw [k1 309 (by omega)]; exact h.rt
  have q23 : I1 306 23 = 1 := by rw [k1 306 (by omega)]; exact h.z23
  have qm : DM I1 := h.dm.fr (k1 323 (by omega)) (k1 324 (by omega))
  refine y_aload_n (i := 2) dL_law_531 rfl ?_
  refine y_arg (z := i) (q := 1) dL_law_532 dL_law_533 dL_law_534 dL_law_535 dL_law_536 rfl rfl (by omega) (by omega) hL ?_
  refine y_cV1 (n1 := 1299) (mc1 := 0) (ms1 := 0) (ci := 12) dL_law_537 cv_RL_61 (k_ob_306 h.cs) rfl h.ad2 (Nat.le_of_ble_eq_true rfl) (Nat.le_refl _) (by omega) (by omega) ?_
  refine sp_X12_played (I := I1) (t := (xs (i + 1).toNat).toInt) (cs := h.cs) (hA := q7) (hb := h.iv.2.1) (hT := q9) (hz := q23) (hTB := h.tb) (ht := (rg_x _)) (hn := (by omega)) (hp := fun J e7 f2 => ?_)
  have k2 : KR I1 J := f2.kr
  have m2 := f2.km qm
  have hJ : LJ a1 a2 S J R := ⟨_, _, _, _, _, h.step k1 v1 d1 k2 m2 e7 ht⟩
  refine y_same 1488 dL_law_540 (by decide) ?_
  exact nx _ _ _ _ _ (by omega) (by omega) hJ
theorem lc_years {b0 Ln : Nat} {xs : Nat → Int32} {a1 a2 : Nat} {B : Nat → Int} {t : Nat → Int} {l : Nat} {i : Int} (h : LI a1 a2 S I R A B tx t l) (hL : Ln ≤ 3072) (hi : 0 ≤ i ∧ i + 6 ≤ Ln) (hk : k + 3 ≤ 600000) (hj : j + 403 ≤ 7302250) (nx : Nx b0 Ln xs a1 a2 i k j) : LwP b0 Ln xs 1300 600000 7302250 mL_law PL 545 (lvL4 b0 a1 a2 i) [] k j S I R := by
  refine y_aload_n (i := 1) dL_law_545 rfl ?_
  refine y_arg (z := i) (q := 1) dL_law_546 dL_law_547 dL_law_548 dL_law_549 dL_law_550 rfl rfl (by omega) (by omega) hL ?_
  refine y_arg (z := i) (q := 2) dL_law_551 dL_law_552 dL_law_553 dL_law_554 dL_law_555 rfl rfl (by omega) (by omega) hL ?_
  refine y_cV2 (n1 := 1299) (mc1 := 0) (ms1 := 0) (ci := 11) dL_law_556 cv_RL_62 (k_ob_0 h.cs) rfl h.ad1 (Nat.le_of_ble_eq_true rfl) (Nat.le_refl _) (by omega) (by omega) ?_
  refine sp_X11_years (s := (xs (i + 1).toNat).toInt) (m := (xs (i + 2).toNat).toInt) (cs := h.cs) (hv := h.iv) (hs := (rg_x _)) (hm := (rg_x _)) (hn := (by omega)) (hp := fun I1 v1 f1 => ?_)
  have k1 : KC I I1 := f1.kc
  have ht := (f_years_t h.iv.2.1 : (f_years A tx ((xs (i + 1).toNat).toInt) ((xs (i + 2).toNat).toInt)).2 1 = A 1)
  have d1 := f1.kd h.dk
  have q7 : I1 307 = A := (k1 307 (by omega)).trans h.rA
  have q9 : RTx (I1 309) A tx := by rw [k1 309 (by omega)]; exact h.rt
  have q23 : I1 306 23 = 1 := by rw [k1 306 (by omega)]; exact h.z23
  have qm : DM I1 := h.dm.fr (k1 323 (by omega)) (k1 324 (by omega))
  refine y_aload_n (i := 2) dL_law_559 rfl ?_
  refine y_arg (z := i) (q := 1) dL_law_560 dL_law_561 dL_law_562 dL_law_563 dL_law_564 rfl rfl (by omega) (by omega) hL ?_
  refine y_arg (z := i) (q := 2) dL_law_565 dL_law_566 dL_law_567 dL_law_568 dL_law_569 rfl rfl (by omega) (by omega) hL ?_
  refine y_cV2 (n1 := 1299) (mc1 := 0) (ms1 := 0) (ci := 12) dL_law_570 cv_RL_66 (k_ob_306 h.cs) rfl h.ad2 (Nat.le_of_ble_eq_true rfl) (Nat.le_refl _) (by omega) (by omega) ?_
  refine sp_X12_years (I := I1) (s := (xs (i + 1).toNat).toInt) (m := (xs (i + 2).toNat).toInt) (cs := h.cs) (hA := q7) (hb := h.iv.2.1) (hT := q9) (hz := q23) (hs := (rg_x _)) (hm := (rg_x _)) (hn := (by omega)) (hp := fun J e7 f2 => ?_)
  have k2 : KR I1 J := f2.kr
  have m2 := f2.km qm
  have hJ : LJ a1 a2 S J R := ⟨_, _, _, _, _, h.step k1 v1 d1 k2 m2 e7 ht⟩
  refine y_same 1488 dL_law_573 (by decide) ?_
  exact nx _ _ _ _ _ (by omega) (by omega) hJ
theorem lc_undo {b0 Ln : Nat} {xs : Nat → Int32} {a1 a2 : Nat} {B : Nat → Int} {t : Nat → Int} {l : Nat} {i : Int} (h : LI a1 a2 S I R A B tx t l) (hL : Ln ≤ 3072) (hi : 0 ≤ i ∧ i + 6 ≤ Ln) (hk : k + 3 ≤ 600000) (hj : j + 403 ≤ 7302250) (nx : Nx b0 Ln xs a1 a2 i k j) : LwP b0 Ln xs 1300 600000 7302250 mL_law PL 578 (lvL4 b0 a1 a2 i) [] k j S I R := by
  refine y_aload_n (i := 1) dL_law_578 rfl ?_
  refine y_cV0 (n1 := 1299) (mc1 := 0) (ms1 := 0) (ci := 11) dL_law_579 cv_RL_67 (k_ob_0 h.cs) rfl h.ad1 (Nat.le_of_ble_eq_true rfl) (Nat.le_refl _) (by omega) (by omega) ?_
  refine sp_X11_undo (cs := h.cs) (hc := h.iv.1) (hb := h.iv.2.1) (hn := (by omega)) (hp := fun I1 c1 f1 => ?_)
  have k1 : KC I I1 := f1.kc
  have v1 := h.iv.w f1 c1 ((f_undo_k h.iv.2.1).1) ((f_undo_k h.iv.2.1).2)
  have ht := ((f_undo_k h.iv.2.1).2 : (f_undo A).2 1 = A 1)
  have d1 := f1.kd h.dk
  have q7 : I1 307 = A := (k1 307 (by omega)).trans h.rA
  have q9 : RTx (I1 309) A tx := by rw [k1 309 (by omega)]; exact h.rt
  have q23 : I1 306 23 = 1 := by rw [k1 306 (by omega)]; exact h.z23
  have qm : DM I1 := h.dm.fr (k1 323 (by omega)) (k1 324 (by omega))
  refine y_aload_n (i := 2) dL_law_582 rfl ?_
  refine y_cV0 (n1 := 1299) (mc1 := 0) (ms1 := 0) (ci := 12) dL_law_583 cv_RL_70 (k_ob_306 h.cs) rfl h.ad2 (Nat.le_of_ble_eq_true rfl) (Nat.le_refl _) (by omega) (by omega) ?_
  refine sp_X12_undo (I := I1) (cs := h.cs) (hA := q7) (hb := h.iv.2.1) (hn := (by omega)) (hp := fun J e7 f2 => ?_)
  have k2 : KR I1 J := f2.kr
  have m2 := f2.km qm
  have hJ : LJ a1 a2 S J R := ⟨_, _, _, _, _, h.step k1 v1 d1 k2 m2 e7 ht⟩
  refine y_same 1488 dL_law_586 (by decide) ?_
  exact nx _ _ _ _ _ (by omega) (by omega) hJ
theorem lc_of {b0 Ln : Nat} {xs : Nat → Int32} {a1 a2 : Nat} {B : Nat → Int} {t : Nat → Int} {l : Nat} {i : Int} (h : LI a1 a2 S I R A B tx t l) (hL : Ln ≤ 3072) (hi : 0 ≤ i ∧ i + 6 ≤ Ln) (hk : k + 3 ≤ 600000) (hj : j + 403 ≤ 7302250) (nx : Nx b0 Ln xs a1 a2 i k j) : LwP b0 Ln xs 1300 600000 7302250 mL_law PL 591 (lvL4 b0 a1 a2 i) [] k j S I R := by
  refine y_aload_n (i := 1) dL_law_591 rfl ?_
  refine y_arg (z := i) (q := 1) dL_law_592 dL_law_593 dL_law_594 dL_law_595 dL_law_596 rfl rfl (by omega) (by omega) hL ?_
  refine y_arg (z := i) (q := 2) dL_law_597 dL_law_598 dL_law_599 dL_law_600 dL_law_601 rfl rfl (by omega) (by omega) hL ?_
  refine y_cV2 (n1 := 1299) (mc1 := 0) (ms1 := 0) (ci := 11) dL_law_602 cv_RL_71 (k_ob_0 h.cs) rfl h.ad1 (Nat.le_of_ble_eq_true rfl) (Nat.le_refl _) (by omega) (by omega) ?_
  refine sp_X11_of (q := (xs (i + 1).toNat).toInt) (w := (xs (i + 2).toNat).toInt) (cs := h.cs) (hv := h.iv) (hq := (rg_x _)) (hw2 := (rg_x _)) (hn := (by omega)) (hp := fun I1 f1 s1 => ?_)
  have k1 : KC I I1 := f1.kc
  have v1 := h.iv.l f1 s1
  have ht : A 1 = A 1 := rfl
  have d1 := f1.kd h.dk
  have q7 : I1 307 = A := (k1 307 (by omega)).trans h.rA
  have q9 : RTx (I1 309) A tx := by rw [k1 309 (by omega)]; exact h.rt
  have q23 : I1 306 23 = 1 := by rw [k1 306 (by omega)]; exact h.z23
  have qm : DM I1 := h.dm.fr (k1 323 (by omega)) (k1 324 (by omega))
  refine y_aload_n (i := 2) dL_law_605 rfl ?_
  refine y_arg (z := i) (q := 1) dL_law_606 dL_law_607 dL_law_608 dL_law_609 dL_law_610 rfl rfl (by omega) (by omega) hL ?_
  refine y_arg (z := i) (q := 2) dL_law_611 dL_law_612 dL_law_613 dL_law_614 dL_law_615 rfl rfl (by omega) (by omega) hL ?_
  refine y_cV2 (n1 := 1299) (mc1 := 0) (ms1 := 0) (ci := 12) dL_law_616 cv_RL_74 (k_ob_306 h.cs) rfl h.ad2 (Nat.le_of_ble_eq_true rfl) (Nat.le_refl _) (by omega) (by omega) ?_
  refine sp_X12_of (I := I1) (q := (xs (i + 1).toNat).toInt) (w := (xs (i + 2).toNat).toInt) (cs := h.cs) (hA := q7) (hN := (BA_bn h.iv.2.1)) (hT := q9) (hq := (rg_x _)) (hw := (rg_x _)) (hn := (by omega)) (hp := fun J f2 => ?_)
  have k2 : KR I1 J := f2.kr
  have e7 : J 307 = A := f2.k7.trans q7
  have m2 := f2.km qm
  have hJ : LJ a1 a2 S J R := ⟨_, _, _, _, _, h.step k1 v1 d1 k2 m2 e7 ht⟩
  refine y_same 1488 dL_law_619 (by decide) ?_
  exact nx _ _ _ _ _ (by omega) (by omega) hJ
theorem lc_is {b0 Ln : Nat} {xs : Nat → Int32} {a1 a2 : Nat} {B : Nat → Int} {t : Nat → Int} {l : Nat} {i : Int} (h : LI a1 a2 S I R A B tx t l) (hL : Ln ≤ 3072) (hi : 0 ≤ i ∧ i + 6 ≤ Ln) (hk : k + 3 ≤ 600000) (hj : j + 403 ≤ 7302250) (nx : Nx b0 Ln xs a1 a2 i k j) : LwP b0 Ln xs 1300 600000 7302250 mL_law PL 624 (lvL4 b0 a1 a2 i) [] k j S I R := by
  refine y_aload_n (i := 1) dL_law_624 rfl ?_
  refine y_arg (z := i) (q := 1) dL_law_625 dL_law_626 dL_law_627 dL_law_628 dL_law_629 rfl rfl (by omega) (by omega) hL ?_
  refine y_cV1 (n1 := 1299) (mc1 := 0) (ms1 := 0) (ci := 11) dL_law_630 cv_RL_75 (k_ob_0 h.cs) rfl h.ad1 (Nat.le_of_ble_eq_true rfl) (Nat.le_refl _) (by omega) (by omega) ?_
  refine sp_X11_is (w := (xs (i + 1).toNat).toInt) (cs := h.cs) (hv := h.iv) (hw2 := (rg_x _)) (hn := (by omega)) (hp := fun I1 f1 s1 => ?_)
  have k1 : KC I I1 := f1.kc
  have v1 := h.iv.l f1 s1
  have ht : A 1 = A 1 := rfl
  have d1 := f1.kd h.dk
  have q7 : I1 307 = A := (k1 307 (by omega)).trans h.rA
  have q9 : RTx (I1 309) A tx := by rw [k1 309 (by omega)]; exact h.rt
  have q23 : I1 306 23 = 1 := by rw [k1 306 (by omega)]; exact h.z23
  have qm : DM I1 := h.dm.fr (k1 323 (by omega)) (k1 324 (by omega))
  refine y_aload_n (i := 2) dL_law_633 rfl ?_
  refine y_arg (z := i) (q := 1) dL_law_634 dL_law_635 dL_law_636 dL_law_637 dL_law_638 rfl rfl (by omega) (by omega) hL ?_
  refine y_cV1 (n1 := 1299) (mc1 := 0) (ms1 := 0) (ci := 12) dL_law_639 cv_RL_78 (k_ob_306 h.cs) rfl h.ad2 (Nat.le_of_ble_eq_true rfl) (Nat.le_refl _) (by omega) (by omega) ?_
  refine sp_X12_is (I := I1) (w := (xs (i + 1).toNat).toInt) (cs := h.cs) (hA := q7) (hN := (BA_bn h.iv.2.1)) (hT := q9) (hw := (rg_x _)) (hn := (by omega)) (hp := fun J f2 => ?_)
  have k2 : KR I1 J := f2.kr
  have e7 : J 307 = A := f2.k7.trans q7
  have m2 := f2.km qm
  have hJ : LJ a1 a2 S J R := ⟨_, _, _, _, _, h.step k1 v1 d1 k2 m2 e7 ht⟩
  refine y_same 1488 dL_law_642 (by decide) ?_
  exact nx _ _ _ _ _ (by omega) (by omega) hJ
theorem lc_book {b0 Ln : Nat} {xs : Nat → Int32} {a1 a2 : Nat} {B : Nat → Int} {t : Nat → Int} {l : Nat} {i : Int} (h : LI a1 a2 S I R A B tx t l) (hL : Ln ≤ 3072) (hi : 0 ≤ i ∧ i + 6 ≤ Ln) (hk : k + 3 ≤ 600000) (hj : j + 403 ≤ 7302250) (nx : Nx b0 Ln xs a1 a2 i k j) : LwP b0 Ln xs 1300 600000 7302250 mL_law PL 647 (lvL4 b0 a1 a2 i) [] k j S I R := by
  refine y_aload_n (i := 1) dL_law_647 rfl ?_
  refine y_arg (z := i) (q := 1) dL_law_648 dL_law_649 dL_law_650 dL_law_651 dL_law_652 rfl rfl (by omega) (by omega) hL ?_
  refine y_arg (z := i) (q := 2) dL_law_653 dL_law_654 dL_law_655 dL_law_656 dL_law_657 rfl rfl (by omega) (by omega) hL ?_
  refine y_cV2 (n1 := 1299) (mc1 := 0) (ms1 := 0) (ci := 11) dL_law_658 cv_RL_79 (k_ob_0 h.cs) rfl h.ad1 (Nat.le_of_ble_eq_true rfl) (Nat.le_refl _) (by omega) (by omega) ?_
  refine sp_X11_book (q := (xs (i + 1).toNat).toInt) (w := (xs (i + 2).toNat).toInt) (cs := h.cs) (hc := h.iv.1) (hb := h.iv.2.1) (hq := (rg_x _)) (hw := (rg_x _)) (hp := ?_)
  have k1 : KC I I := KC.rf
  have v1 := h.iv
  have d1 := h.dk
  have ht : A 1 = A 1 := rfl
  have q7 : I 307 = A := (k1 307 (by omega)).trans h.rA
  have q9 : RTx (I 309) A tx := by rw [k1 309 (by omega)]; exact h.rt
  have q23 : I 306 23 = 1 := by rw [k1 306 (by omega)]; exact h.z23
  have qm : DM I := h.dm.fr (k1 323 (by omega)) (k1 324 (by omega))
  refine y_aload_n (i := 2) dL_law_661 rfl ?_
  refine y_arg (z := i) (q := 1) dL_law_662 dL_law_663 dL_law_664 dL_law_665 dL_law_666 rfl rfl (by omega) (by omega) hL ?_
  refine y_arg (z := i) (q := 2) dL_law_667 dL_law_668 dL_law_669 dL_law_670 dL_law_671 rfl rfl (by omega) (by omega) hL ?_
  refine y_cV2 (n1 := 1299) (mc1 := 0) (ms1 := 0) (ci := 12) dL_law_672 cv_RL_82 (k_ob_306 h.cs) rfl h.ad2 (Nat.le_of_ble_eq_true rfl) (Nat.le_refl _) (by omega) (by omega) ?_
  refine sp_X12_book (I := I) (i := (xs (i + 1).toNat).toInt) (w := (xs (i + 2).toNat).toInt) (cs := h.cs) (hA := q7) (hb := h.iv.2.1) (hk := (BK_of h.iv.1)) (hi := (rg_x _)) (hw := (rg_x _)) (hn := (by omega)) (hp := ?_)
  have k2 : KR I I := KR.rf
  have m2 := qm
  have e7 := q7
  have hJ : LJ a1 a2 S I R := ⟨_, _, _, _, _, h.step k1 v1 d1 k2 m2 e7 ht⟩
  refine y_same 1488 dL_law_675 (by decide) ?_
  exact nx _ _ _ _ _ (by omega) (by omega) hJ
theorem lc_foretold {b0 Ln : Nat} {xs : Nat → Int32} {a1 a2 : Nat} {B : Nat → Int} {t : Nat → Int} {l : Nat} {i : Int} (h : LI a1 a2 S I R A B tx t l) (hL : Ln ≤ 3072) (hi : 0 ≤ i ∧ i + 6 ≤ Ln) (hk : k + 3 ≤ 600000) (hj : j + 403 ≤ 7302250) (nx : Nx b0 Ln xs a1 a2 i k j) : LwP b0 Ln xs 1300 600000 7302250 mL_law PL 680 (lvL4 b0 a1 a2 i) [] k j S I R := by
  refine y_aload_n (i := 1) dL_law_680 rfl ?_
  refine y_arg (z := i) (q := 1) dL_law_681 dL_law_682 dL_law_683 dL_law_684 dL_law_685 rfl rfl (by omega) (by omega) hL ?_
  refine y_arg (z := i) (q := 2) dL_law_686 dL_law_687 dL_law_688 dL_law_689 dL_law_690 rfl rfl (by omega) (by omega) hL ?_
  refine y_arg (z := i) (q := 3) dL_law_691 dL_law_692 dL_law_693 dL_law_694 dL_law_695 rfl rfl (by omega) (by omega) hL ?_
  refine y_cV3 (n1 := 1299) (mc1 := 0) (ms1 := 0) (ci := 11) dL_law_696 cv_RL_83 (k_ob_0 h.cs) rfl h.ad1 (Nat.le_of_ble_eq_true rfl) (Nat.le_refl _) (by omega) (by omega) ?_
  refine sp_X11_foretold (m := (xs (i + 1).toNat).toInt) (q := (xs (i + 2).toNat).toInt) (w := (xs (i + 3).toNat).toInt) (cs := h.cs) (hv := h.iv) (hm := (rg_x _)) (hq := (rg_x _)) (hw2 := (rg_x _)) (hn := (by omega)) (hp := fun I1 v1 f1 => ?_)
  have k1 : KC I I1 := f1.kc
  have ht : A 1 = A 1 := rfl
  have d1 := f1.kd h.dk
  have q7 : I1 307 = A := (k1 307 (by omega)).trans h.rA
  have q9 : RTx (I1 309) A tx := by rw [k1 309 (by omega)]; exact h.rt
  have q23 : I1 306 23 = 1 := by rw [k1 306 (by omega)]; exact h.z23
  have qm : DM I1 := h.dm.fr (k1 323 (by omega)) (k1 324 (by omega))
  refine y_aload_n (i := 2) dL_law_699 rfl ?_
  refine y_arg (z := i) (q := 1) dL_law_700 dL_law_701 dL_law_702 dL_law_703 dL_law_704 rfl rfl (by omega) (by omega) hL ?_
  refine y_arg (z := i) (q := 2) dL_law_705 dL_law_706 dL_law_707 dL_law_708 dL_law_709 rfl rfl (by omega) (by omega) hL ?_
  refine y_arg (z := i) (q := 3) dL_law_710 dL_law_711 dL_law_712 dL_law_713 dL_law_714 rfl rfl (by omega) (by omega) hL ?_
  refine y_cV3 (n1 := 1299) (mc1 := 0) (ms1 := 0) (ci := 12) dL_law_715 cv_RL_87 (k_ob_306 h.cs) rfl h.ad2 (Nat.le_of_ble_eq_true rfl) (Nat.le_refl _) (by omega) (by omega) ?_
  refine sp_X12_foretold (I := I1) (mm := (xs (i + 1).toNat).toInt) (q := (xs (i + 2).toNat).toInt) (w := (xs (i + 3).toNat).toInt) (cs := h.cs) (hA := q7) (hb := h.iv.2.1) (hT := q9) (hz := q23) (hm := (rg_x _)) (hq := (rg_x _)) (hw := (rg_x _)) (hn := (by omega)) (hp := fun J f2 => ?_)
  have k2 : KR I1 J := f2.kr
  have e7 : J 307 = A := f2.k7.trans q7
  have m2 := f2.km qm
  have hJ : LJ a1 a2 S J R := ⟨_, _, _, _, _, h.step k1 v1 d1 k2 m2 e7 ht⟩
  refine y_same 1488 dL_law_718 (by decide) ?_
  exact nx _ _ _ _ _ (by omega) (by omega) hJ
theorem lc_speak {b0 Ln : Nat} {xs : Nat → Int32} {a1 a2 : Nat} {B : Nat → Int} {t : Nat → Int} {l : Nat} {i : Int} (h : LI a1 a2 S I R A B tx t l) (hL : Ln ≤ 3072) (hi : 0 ≤ i ∧ i + 6 ≤ Ln) (hk : k + 3 ≤ 600000) (hj : j + 403 ≤ 7302250) (nx : Nx b0 Ln xs a1 a2 i k j) : LwP b0 Ln xs 1300 600000 7302250 mL_law PL 723 (lvL4 b0 a1 a2 i) [] k j S I R := by
  refine y_aload_n (i := 1) dL_law_723 rfl ?_
  refine y_arg (z := i) (q := 1) dL_law_724 dL_law_725 dL_law_726 dL_law_727 dL_law_728 rfl rfl (by omega) (by omega) hL ?_
  refine y_arg (z := i) (q := 2) dL_law_729 dL_law_730 dL_law_731 dL_law_732 dL_law_733 rfl rfl (by omega) (by omega) hL ?_
  refine y_cV2 (n1 := 1299) (mc1 := 0) (ms1 := 0) (ci := 11) dL_law_734 cv_RL_88 (k_ob_0 h.cs) rfl h.ad1 (Nat.le_of_ble_eq_true rfl) (Nat.le_refl _) (by omega) (by omega) ?_
  refine sp_X11_speak (a := (xs (i + 1).toNat).toInt) (b := (xs (i + 2).toNat).toInt) (cs := h.cs) (hv := h.iv) (ha := (rg_x _)) (hb6 := (rg_x _)) (hn := (by omega)) (hp := fun I1 v1 f1 => ?_)
  have k1 : KC I I1 := f1.kc
  have ht : A 1 = A 1 := rfl
  have d1 := f1.kd h.dk
  have q7 : I1 307 = A := (k1 307 (by omega)).trans h.rA
  have q9 : RTx (I1 309) A tx := by rw [k1 309 (by omega)]; exact h.rt
  have q23 : I1 306 23 = 1 := by rw [k1 306 (by omega)]; exact h.z23
  have qm : DM I1 := h.dm.fr (k1 323 (by omega)) (k1 324 (by omega))
  refine y_aload_n (i := 2) dL_law_737 rfl ?_
  refine y_arg (z := i) (q := 1) dL_law_738 dL_law_739 dL_law_740 dL_law_741 dL_law_742 rfl rfl (by omega) (by omega) hL ?_
  refine y_arg (z := i) (q := 2) dL_law_743 dL_law_744 dL_law_745 dL_law_746 dL_law_747 rfl rfl (by omega) (by omega) hL ?_
  refine y_cV2 (n1 := 1299) (mc1 := 0) (ms1 := 0) (ci := 12) dL_law_748 cv_RL_92 (k_ob_306 h.cs) rfl h.ad2 (Nat.le_of_ble_eq_true rfl) (Nat.le_refl _) (by omega) (by omega) ?_
  refine sp_X12_speak (I := I1) (a := (xs (i + 1).toNat).toInt) (b := (xs (i + 2).toNat).toInt) (cs := h.cs) (hA := q7) (hb := h.iv.2.1) (ha := (rg_x _)) (hb6 := (rg_x _)) (hn := (by omega)) (hp := ?_)
  have k2 : KR I1 I1 := KR.rf
  have m2 := qm
  have e7 := q7
  have hJ : LJ a1 a2 S I1 R := ⟨_, _, _, _, _, h.step k1 v1 d1 k2 m2 e7 ht⟩
  refine y_same 1488 dL_law_751 (by decide) ?_
  exact nx _ _ _ _ _ (by omega) (by omega) hJ
theorem lc_group {b0 Ln : Nat} {xs : Nat → Int32} {a1 a2 : Nat} {B : Nat → Int} {t : Nat → Int} {l : Nat} {i : Int} (h : LI a1 a2 S I R A B tx t l) (hL : Ln ≤ 3072) (hi : 0 ≤ i ∧ i + 6 ≤ Ln) (hk : k + 3 ≤ 600000) (hj : j + 403 ≤ 7302250) (nx : Nx b0 Ln xs a1 a2 i k j) : LwP b0 Ln xs 1300 600000 7302250 mL_law PL 756 (lvL4 b0 a1 a2 i) [] k j S I R := by
  refine y_aload_n (i := 1) dL_law_756 rfl ?_
  refine y_arg (z := i) (q := 1) dL_law_757 dL_law_758 dL_law_759 dL_law_760 dL_law_761 rfl rfl (by omega) (by omega) hL ?_
  refine y_cV1 (n1 := 1299) (mc1 := 0) (ms1 := 0) (ci := 11) dL_law_762 cv_RL_93 (k_ob_0 h.cs) rfl h.ad1 (Nat.le_of_ble_eq_true rfl) (Nat.le_refl _) (by omega) (by omega) ?_
  refine sp_X11_group (a := (xs (i + 1).toNat).toInt) (cs := h.cs) (hv := h.iv) (ha := (rg_x _)) (hn := (by omega)) (hp := fun I1 v1 f1 => ?_)
  have k1 : KC I I1 := f1.kc
  have ht : A 1 = A 1 := rfl
  have d1 := f1.kd h.dk
  have q7 : I1 307 = A := (k1 307 (by omega)).trans h.rA
  have q9 : RTx (I1 309) A tx := by rw [k1 309 (by omega)]; exact h.rt
  have q23 : I1 306 23 = 1 := by rw [k1 306 (by omega)]; exact h.z23
  have qm : DM I1 := h.dm.fr (k1 323 (by omega)) (k1 324 (by omega))
  refine y_aload_n (i := 2) dL_law_765 rfl ?_
  refine y_arg (z := i) (q := 1) dL_law_766 dL_law_767 dL_law_768 dL_law_769 dL_law_770 rfl rfl (by omega) (by omega) hL ?_
  refine y_cV1 (n1 := 1299) (mc1 := 0) (ms1 := 0) (ci := 12) dL_law_771 cv_RL_96 (k_ob_306 h.cs) rfl h.ad2 (Nat.le_of_ble_eq_true rfl) (Nat.le_refl _) (by omega) (by omega) ?_
  refine sp_X12_group (I := I1) (a := (xs (i + 1).toNat).toInt) (cs := h.cs) (hA := q7) (hb := h.iv.2.1) (ha := (rg_x _)) (hn := (by omega)) (hp := ?_)
  have k2 : KR I1 I1 := KR.rf
  have m2 := qm
  have e7 := q7
  have hJ : LJ a1 a2 S I1 R := ⟨_, _, _, _, _, h.step k1 v1 d1 k2 m2 e7 ht⟩
  refine y_same 1488 dL_law_774 (by decide) ?_
  exact nx _ _ _ _ _ (by omega) (by omega) hJ
theorem lc_groups {b0 Ln : Nat} {xs : Nat → Int32} {a1 a2 : Nat} {B : Nat → Int} {t : Nat → Int} {l : Nat} {i : Int} (h : LI a1 a2 S I R A B tx t l) (hL : Ln ≤ 3072) (hi : 0 ≤ i ∧ i + 6 ≤ Ln) (hk : k + 3 ≤ 600000) (hj : j + 403 ≤ 7302250) (nx : Nx b0 Ln xs a1 a2 i k j) : LwP b0 Ln xs 1300 600000 7302250 mL_law PL 779 (lvL4 b0 a1 a2 i) [] k j S I R := by
  refine y_aload_n (i := 1) dL_law_779 rfl ?_
  refine y_arg (z := i) (q := 1) dL_law_780 dL_law_781 dL_law_782 dL_law_783 dL_law_784 rfl rfl (by omega) (by omega) hL ?_
  refine y_bool (rg_x _) dL_law_785 dL_law_788 dL_law_789 dL_law_792 ?_
  refine y_cV1 (n1 := 1299) (mc1 := 0) (ms1 := 0) (ci := 11) dL_law_793 cv_RL_97 (k_ob_0 h.cs) rfl h.ad1 (Nat.le_of_ble_eq_true rfl) (Nat.le_refl _) (by omega) (by omega) ?_
  refine sp_X11_groups (m := bI (xs (i + 1).toNat).toInt) (cs := h.cs) (hv := h.iv) (hm := (bI_rg _)) (hn := (by omega)) (hp := fun I1 v1 f1 => ?_)
  have k1 : KC I I1 := f1.kc
  have ht : A 1 = A 1 := rfl
  have d1 := f1.kd h.dk
  have q7 : I1 307 = A := (k1 307 (by omega)).trans h.rA
  have q9 : RTx (I1 309) A tx := by rw [k1 309 (by omega)]; exact h.rt
  have q23 : I1 306 23 = 1 := by rw [k1 306 (by omega)]; exact h.z23
  have qm : DM I1 := h.dm.fr (k1 323 (by omega)) (k1 324 (by omega))
  refine y_aload_n (i := 2) dL_law_796 rfl ?_
  refine y_arg (z := i) (q := 1) dL_law_797 dL_law_798 dL_law_799 dL_law_800 dL_law_801 rfl rfl (by omega) (by omega) hL ?_
  refine y_bool (rg_x _) dL_law_802 dL_law_805 dL_law_806 dL_law_809 ?_
  refine y_cV1 (n1 := 1299) (mc1 := 0) (ms1 := 0) (ci := 12) dL_law_810 cv_RL_101 (k_ob_306 h.cs) rfl h.ad2 (Nat.le_of_ble_eq_true rfl) (Nat.le_refl _) (by omega) (by omega) ?_
  refine sp_X12_groups (I := I1) (w := bI (xs (i + 1).toNat).toInt) (cs := h.cs) (hA := q7) (hb := h.iv.2.1) (hw := (bI_rg _)) (hn := (by omega)) (hp := ?_)
  have k2 : KR I1 I1 := KR.rf
  have m2 := qm
  have e7 := q7
  have hJ : LJ a1 a2 S I1 R := ⟨_, _, _, _, _, h.step k1 v1 d1 k2 m2 e7 ht⟩
  refine y_same 1488 dL_law_813 (by decide) ?_
  exact nx _ _ _ _ _ (by omega) (by omega) hJ
theorem lc_cost {b0 Ln : Nat} {xs : Nat → Int32} {a1 a2 : Nat} {B : Nat → Int} {t : Nat → Int} {l : Nat} {i : Int} (h : LI a1 a2 S I R A B tx t l) (hL : Ln ≤ 3072) (hi : 0 ≤ i ∧ i + 6 ≤ Ln) (hk : k + 3 ≤ 600000) (hj : j + 403 ≤ 7302250) (nx : Nx b0 Ln xs a1 a2 i k j) : LwP b0 Ln xs 1300 600000 7302250 mL_law PL 818 (lvL4 b0 a1 a2 i) [] k j S I R := by
  refine y_aload_n (i := 1) dL_law_818 rfl ?_
  refine y_arg (z := i) (q := 1) dL_law_819 dL_law_820 dL_law_821 dL_law_822 dL_law_823 rfl rfl (by omega) (by omega) hL ?_
  refine y_arg (z := i) (q := 2) dL_law_824 dL_law_825 dL_law_826 dL_law_827 dL_law_828 rfl rfl (by omega) (by omega) hL ?_
  refine y_cV2 (n1 := 1299) (mc1 := 0) (ms1 := 0) (ci := 11) dL_law_829 cv_RL_102 (k_ob_0 h.cs) rfl h.ad1 (Nat.le_of_ble_eq_true rfl) (Nat.le_refl _) (by omega) (by omega) ?_
  refine sp_X11_cost (a := (xs (i + 1).toNat).toInt) (b := (xs (i + 2).toNat).toInt) (cs := h.cs) (hv := h.iv) (ha := (rg_x _)) (hb6 := (rg_x _)) (hn := (by omega)) (hp := fun I1 v1 f1 => ?_)
  have k1 : KC I I1 := f1.kc
  have ht : A 1 = A 1 := rfl
  have d1 := f1.kd h.dk
  have q7 : I1 307 = A := (k1 307 (by omega)).trans h.rA
  have q9 : RTx (I1 309) A tx := by rw [k1 309 (by omega)]; exact h.rt
  have q23 : I1 306 23 = 1 := by rw [k1 306 (by omega)]; exact h.z23
  have qm : DM I1 := h.dm.fr (k1 323 (by omega)) (k1 324 (by omega))
  refine y_aload_n (i := 2) dL_law_832 rfl ?_
  refine y_arg (z := i) (q := 1) dL_law_833 dL_law_834 dL_law_835 dL_law_836 dL_law_837 rfl rfl (by omega) (by omega) hL ?_
  refine y_arg (z := i) (q := 2) dL_law_838 dL_law_839 dL_law_840 dL_law_841 dL_law_842 rfl rfl (by omega) (by omega) hL ?_
  refine y_cV2 (n1 := 1299) (mc1 := 0) (ms1 := 0) (ci := 12) dL_law_843 cv_RL_105 (k_ob_306 h.cs) rfl h.ad2 (Nat.le_of_ble_eq_true rfl) (Nat.le_refl _) (by omega) (by omega) ?_
  refine sp_X12_cost (I := I1) (a := (xs (i + 1).toNat).toInt) (b := (xs (i + 2).toNat).toInt) (cs := h.cs) (hA := q7) (hN := (BA_bn h.iv.2.1)) (hT := q9) (ha := (rg_x _)) (hb6 := (rg_x _)) (hn := (by omega)) (hp := fun J f2 => ?_)
  have k2 : KR I1 J := f2.kr
  have e7 : J 307 = A := f2.k7.trans q7
  have m2 := f2.km qm
  have hJ : LJ a1 a2 S J R := ⟨_, _, _, _, _, h.step k1 v1 d1 k2 m2 e7 ht⟩
  refine y_same 1488 dL_law_846 (by decide) ?_
  exact nx _ _ _ _ _ (by omega) (by omega) hJ
theorem lc_word {b0 Ln : Nat} {xs : Nat → Int32} {a1 a2 : Nat} {B : Nat → Int} {t : Nat → Int} {l : Nat} {i : Int} (h : LI a1 a2 S I R A B tx t l) (hL : Ln ≤ 3072) (hi : 0 ≤ i ∧ i + 6 ≤ Ln) (hk : k + 3 ≤ 600000) (hj : j + 403 ≤ 7302250) (nx : Nx b0 Ln xs a1 a2 i k j) : LwP b0 Ln xs 1300 600000 7302250 mL_law PL 851 (lvL4 b0 a1 a2 i) [] k j S I R := by
  refine y_aload_n (i := 1) dL_law_851 rfl ?_
  refine y_arg (z := i) (q := 1) dL_law_852 dL_law_853 dL_law_854 dL_law_855 dL_law_856 rfl rfl (by omega) (by omega) hL ?_
  refine y_arg (z := i) (q := 2) dL_law_857 dL_law_858 dL_law_859 dL_law_860 dL_law_861 rfl rfl (by omega) (by omega) hL ?_
  refine y_cV2 (n1 := 1299) (mc1 := 0) (ms1 := 0) (ci := 11) dL_law_862 cv_RL_106 (k_ob_0 h.cs) rfl h.ad1 (Nat.le_of_ble_eq_true rfl) (Nat.le_refl _) (by omega) (by omega) ?_
  refine sp_X11_word (a := (xs (i + 1).toNat).toInt) (b := (xs (i + 2).toNat).toInt) (cs := h.cs) (hv := h.iv) (ha := (rg_x _)) (hb6 := (rg_x _)) (hn := (by omega)) (hp := fun I1 v1 f1 => ?_)
  have k1 : KC I I1 := f1.kc
  have ht : A 1 = A 1 := rfl
  have d1 := f1.kd h.dk
  have q7 : I1 307 = A := (k1 307 (by omega)).trans h.rA
  have q9 : RTx (I1 309) A tx := by rw [k1 309 (by omega)]; exact h.rt
  have q23 : I1 306 23 = 1 := by rw [k1 306 (by omega)]; exact h.z23
  have qm : DM I1 := h.dm.fr (k1 323 (by omega)) (k1 324 (by omega))
  refine y_aload_n (i := 2) dL_law_865 rfl ?_
  refine y_arg (z := i) (q := 1) dL_law_866 dL_law_867 dL_law_868 dL_law_869 dL_law_870 rfl rfl (by omega) (by omega) hL ?_
  refine y_arg (z := i) (q := 2) dL_law_871 dL_law_872 dL_law_873 dL_law_874 dL_law_875 rfl rfl (by omega) (by omega) hL ?_
  refine y_cV2 (n1 := 1299) (mc1 := 0) (ms1 := 0) (ci := 12) dL_law_876 cv_RL_109 (k_ob_306 h.cs) rfl h.ad2 (Nat.le_of_ble_eq_true rfl) (Nat.le_refl _) (by omega) (by omega) ?_
  refine sp_X12_word (I := I1) (a := (xs (i + 1).toNat).toInt) (b := (xs (i + 2).toNat).toInt) (cs := h.cs) (hA := q7) (hN := (BA_bn h.iv.2.1)) (hT := q9) (ha := (rg_x _)) (hb6 := (rg_x _)) (hn := (by omega)) (hp := fun J f2 w2 => ?_)
  have k2 : KR I1 J := f2.kr
  have e7 : J 307 = A := f2.k7.trans q7
  have m2 := f2.km qm
  have hJ : LJ a1 a2 S J R := ⟨_, _, _, _, _, h.step k1 v1 d1 k2 m2 e7 ht⟩
  refine y_same 1488 dL_law_879 (by decide) ?_
  exact nx _ _ _ _ _ (by omega) (by omega) hJ
theorem lc_way {b0 Ln : Nat} {xs : Nat → Int32} {a1 a2 : Nat} {B : Nat → Int} {t : Nat → Int} {l : Nat} {i : Int} (h : LI a1 a2 S I R A B tx t l) (hL : Ln ≤ 3072) (hi : 0 ≤ i ∧ i + 6 ≤ Ln) (hk : k + 3 ≤ 600000) (hj : j + 403 ≤ 7302250) (nx : Nx b0 Ln xs a1 a2 i k j) : LwP b0 Ln xs 1300 600000 7302250 mL_law PL 884 (lvL4 b0 a1 a2 i) [] k j S I R := by
  refine y_aload_n (i := 1) dL_law_884 rfl ?_
  refine y_arg (z := i) (q := 1) dL_law_885 dL_law_886 dL_law_887 dL_law_888 dL_law_889 rfl rfl (by omega) (by omega) hL ?_
  refine y_arg (z := i) (q := 2) dL_law_890 dL_law_891 dL_law_892 dL_law_893 dL_law_894 rfl rfl (by omega) (by omega) hL ?_
  refine y_arg (z := i) (q := 3) dL_law_895 dL_law_896 dL_law_897 dL_law_898 dL_law_899 rfl rfl (by omega) (by omega) hL ?_
  refine y_cV3 (n1 := 1299) (mc1 := 0) (ms1 := 0) (ci := 11) dL_law_900 cv_RL_110 (k_ob_0 h.cs) rfl h.ad1 (Nat.le_of_ble_eq_true rfl) (Nat.le_refl _) (by omega) (by omega) ?_
  refine sp_X11_way (a := (xs (i + 1).toNat).toInt) (b := (xs (i + 2).toNat).toInt) (i := (xs (i + 3).toNat).toInt) (cs := h.cs) (hv := h.iv) (ha := (rg_x _)) (hb6 := (rg_x _)) (hi := (rg_x _)) (hn := (by omega)) (hp := fun I1 v1 f1 => ?_)
  have k1 : KC I I1 := f1.kc
  have ht : A 1 = A 1 := rfl
  have d1 := f1.kd h.dk
  have q7 : I1 307 = A := (k1 307 (by omega)).trans h.rA
  have q9 : RTx (I1 309) A tx := by rw [k1 309 (by omega)]; exact h.rt
  have q23 : I1 306 23 = 1 := by rw [k1 306 (by omega)]; exact h.z23
  have qm : DM I1 := h.dm.fr (k1 323 (by omega)) (k1 324 (by omega))
  refine y_aload_n (i := 2) dL_law_903 rfl ?_
  refine y_arg (z := i) (q := 1) dL_law_904 dL_law_905 dL_law_906 dL_law_907 dL_law_908 rfl rfl (by omega) (by omega) hL ?_
  refine y_arg (z := i) (q := 2) dL_law_909 dL_law_910 dL_law_911 dL_law_912 dL_law_913 rfl rfl (by omega) (by omega) hL ?_
  refine y_arg (z := i) (q := 3) dL_law_914 dL_law_915 dL_law_916 dL_law_917 dL_law_918 rfl rfl (by omega) (by omega) hL ?_
  refine y_cV3 (n1 := 1299) (mc1 := 0) (ms1 := 0) (ci := 12) dL_law_919 cv_RL_113 (k_ob_306 h.cs) rfl h.ad2 (Nat.le_of_ble_eq_true rfl) (Nat.le_refl _) (by omega) (by omega) ?_
  refine sp_X12_way (I := I1) (a := (xs (i + 1).toNat).toInt) (b := (xs (i + 2).toNat).toInt) (i := (xs (i + 3).toNat).toInt) (cs := h.cs) (hA := q7) (hN := (BA_bn h.iv.2.1)) (hT := q9) (ha := (rg_x _)) (hb6 := (rg_x _)) (hi := (rg_x _)) (hn := (by omega)) (hp := fun J f2 => ?_)
  have k2 : KR I1 J := f2.kr
  have e7 : J 307 = A := f2.k7.trans q7
  have m2 := f2.km qm
  have hJ : LJ a1 a2 S J R := ⟨_, _, _, _, _, h.step k1 v1 d1 k2 m2 e7 ht⟩
  refine y_same 1488 dL_law_922 (by decide) ?_
  exact nx _ _ _ _ _ (by omega) (by omega) hJ
theorem lc_all {b0 Ln : Nat} {xs : Nat → Int32} {a1 a2 : Nat} {B : Nat → Int} {t : Nat → Int} {l : Nat} {i : Int} (h : LI a1 a2 S I R A B tx t l) (hL : Ln ≤ 3072) (hi : 0 ≤ i ∧ i + 6 ≤ Ln) (hk : k + 3 ≤ 600000) (hj : j + 403 ≤ 7302250) (nx : Nx b0 Ln xs a1 a2 i k j) : LwP b0 Ln xs 1300 600000 7302250 mL_law PL 927 (lvL4 b0 a1 a2 i) [] k j S I R := by
  refine y_aload_n (i := 1) dL_law_927 rfl ?_
  refine y_cV0 (n1 := 1299) (mc1 := 0) (ms1 := 0) (ci := 11) dL_law_928 cv_RL_114 (k_ob_0 h.cs) rfl h.ad1 (Nat.le_of_ble_eq_true rfl) (Nat.le_refl _) (by omega) (by omega) ?_
  refine sp_X11_all (cs := h.cs) (hv := h.iv) (hn := (by omega)) (hp := fun I1 v1 f1 => ?_)
  have k1 : KC I I1 := f1.kc
  have ht : A 1 = A 1 := rfl
  have d1 := f1.kd h.dk
  have q7 : I1 307 = A := (k1 307 (by omega)).trans h.rA
  have q9 : RTx (I1 309) A tx := by rw [k1 309 (by omega)]; exact h.rt
  have q23 : I1 306 23 = 1 := by rw [k1 306 (by omega)]; exact h.z23
  have qm : DM I1 := h.dm.fr (k1 323 (by omega)) (k1 324 (by omega))
  refine y_aload_n (i := 2) dL_law_931 rfl ?_
  refine y_cV0 (n1 := 1299) (mc1 := 0) (ms1 := 0) (ci := 12) dL_law_932 cv_RL_117 (k_ob_306 h.cs) rfl h.ad2 (Nat.le_of_ble_eq_true rfl) (Nat.le_refl _) (by omega) (by omega) ?_
  refine sp_X12_all (I := I1) (cs := h.cs) (hA := q7) (hN := (BA_bn h.iv.2.1)) (hT := q9) (hn := (by omega)) (hp := fun J f2 => ?_)
  have k2 : KR I1 J := f2.kr
  have e7 : J 307 = A := f2.k7.trans q7
  have m2 := f2.km qm
  have hJ : LJ a1 a2 S J R := ⟨_, _, _, _, _, h.step k1 v1 d1 k2 m2 e7 ht⟩
  refine y_same 1488 dL_law_935 (by decide) ?_
  exact nx _ _ _ _ _ (by omega) (by omega) hJ
theorem lc_cut {b0 Ln : Nat} {xs : Nat → Int32} {a1 a2 : Nat} {B : Nat → Int} {t : Nat → Int} {l : Nat} {i : Int} (h : LI a1 a2 S I R A B tx t l) (hL : Ln ≤ 3072) (hi : 0 ≤ i ∧ i + 6 ≤ Ln) (hk : k + 3 ≤ 600000) (hj : j + 403 ≤ 7302250) (nx : Nx b0 Ln xs a1 a2 i k j) : LwP b0 Ln xs 1300 600000 7302250 mL_law PL 940 (lvL4 b0 a1 a2 i) [] k j S I R := by
  refine y_aload_n (i := 1) dL_law_940 rfl ?_
  refine y_arg (z := i) (q := 1) dL_law_941 dL_law_942 dL_law_943 dL_law_944 dL_law_945 rfl rfl (by omega) (by omega) hL ?_
  refine y_arg (z := i) (q := 2) dL_law_946 dL_law_947 dL_law_948 dL_law_949 dL_law_950 rfl rfl (by omega) (by omega) hL ?_
  refine y_cV2 (n1 := 1299) (mc1 := 0) (ms1 := 0) (ci := 11) dL_law_951 cv_RL_118 (k_ob_0 h.cs) rfl h.ad1 (Nat.le_of_ble_eq_true rfl) (Nat.le_refl _) (by omega) (by omega) ?_
  refine sp_X11_cut (a := (xs (i + 1).toNat).toInt) (b := (xs (i + 2).toNat).toInt) (cs := h.cs) (hv := h.iv) (ha := (rg_x _)) (hb6 := (rg_x _)) (hn := (by omega)) (hp := fun I1 v1 f1 => ?_)
  have k1 : KC I I1 := f1.kc
  have ht : A 1 = A 1 := rfl
  have d1 := f1.kd h.dk
  have q7 : I1 307 = A := (k1 307 (by omega)).trans h.rA
  have q9 : RTx (I1 309) A tx := by rw [k1 309 (by omega)]; exact h.rt
  have q23 : I1 306 23 = 1 := by rw [k1 306 (by omega)]; exact h.z23
  have qm : DM I1 := h.dm.fr (k1 323 (by omega)) (k1 324 (by omega))
  refine y_aload_n (i := 2) dL_law_954 rfl ?_
  refine y_arg (z := i) (q := 1) dL_law_955 dL_law_956 dL_law_957 dL_law_958 dL_law_959 rfl rfl (by omega) (by omega) hL ?_
  refine y_arg (z := i) (q := 2) dL_law_960 dL_law_961 dL_law_962 dL_law_963 dL_law_964 rfl rfl (by omega) (by omega) hL ?_
  refine y_cV2 (n1 := 1299) (mc1 := 0) (ms1 := 0) (ci := 12) dL_law_965 cv_RL_121 (k_ob_306 h.cs) rfl h.ad2 (Nat.le_of_ble_eq_true rfl) (Nat.le_refl _) (by omega) (by omega) ?_
  refine sp_X12_cut (I := I1) (a := (xs (i + 1).toNat).toInt) (b := (xs (i + 2).toNat).toInt) (cs := h.cs) (hA := q7) (hb := h.iv.2.1) (ha := (rg_x _)) (hb6 := (rg_x _)) (hn := (by omega)) (hp := ?_)
  have k2 : KR I1 I1 := KR.rf
  have m2 := qm
  have e7 := q7
  have hJ : LJ a1 a2 S I1 R := ⟨_, _, _, _, _, h.step k1 v1 d1 k2 m2 e7 ht⟩
  refine y_same 1488 dL_law_968 (by decide) ?_
  exact nx _ _ _ _ _ (by omega) (by omega) hJ
theorem lc_gossips {b0 Ln : Nat} {xs : Nat → Int32} {a1 a2 : Nat} {B : Nat → Int} {t : Nat → Int} {l : Nat} {i : Int} (h : LI a1 a2 S I R A B tx t l) (hL : Ln ≤ 3072) (hi : 0 ≤ i ∧ i + 6 ≤ Ln) (hk : k + 3 ≤ 600000) (hj : j + 403 ≤ 7302250) (nx : Nx b0 Ln xs a1 a2 i k j) : LwP b0 Ln xs 1300 600000 7302250 mL_law PL 973 (lvL4 b0 a1 a2 i) [] k j S I R := by
  refine y_aload_n (i := 1) dL_law_973 rfl ?_
  refine y_cV0 (n1 := 1299) (mc1 := 0) (ms1 := 0) (ci := 11) dL_law_974 cv_RL_122 (k_ob_0 h.cs) rfl h.ad1 (Nat.le_of_ble_eq_true rfl) (Nat.le_refl _) (by omega) (by omega) ?_
  refine sp_X11_gossips (cs := h.cs) (hv := h.iv) (hn := (by omega)) (hp := fun I1 v1 f1 => ?_)
  have k1 : KC I I1 := f1.kc
  have ht : A 1 = A 1 := rfl
  have d1 := f1.kd h.dk
  have q7 : I1 307 = A := (k1 307 (by omega)).trans h.rA
  have q9 : RTx (I1 309) A tx := by rw [k1 309 (by omega)]; exact h.rt
  have q23 : I1 306 23 = 1 := by rw [k1 306 (by omega)]; exact h.z23
  have qm : DM I1 := h.dm.fr (k1 323 (by omega)) (k1 324 (by omega))
  refine y_aload_n (i := 2) dL_law_977 rfl ?_
  refine y_cV0 (n1 := 1299) (mc1 := 0) (ms1 := 0) (ci := 12) dL_law_978 cv_RL_125 (k_ob_306 h.cs) rfl h.ad2 (Nat.le_of_ble_eq_true rfl) (Nat.le_refl _) (by omega) (by omega) ?_
  refine sp_X12_gossips (I := I1) (cs := h.cs) (hA := q7) (hb := h.iv.2.1) (hn := (by omega)) (hp := ?_)
  have k2 : KR I1 I1 := KR.rf
  have m2 := qm
  have e7 := q7
  have hJ : LJ a1 a2 S I1 R := ⟨_, _, _, _, _, h.step k1 v1 d1 k2 m2 e7 ht⟩
  refine y_same 1488 dL_law_981 (by decide) ?_
  exact nx _ _ _ _ _ (by omega) (by omega) hJ
theorem lc_cool {b0 Ln : Nat} {xs : Nat → Int32} {a1 a2 : Nat} {B : Nat → Int} {t : Nat → Int} {l : Nat} {i : Int} (h : LI a1 a2 S I R A B tx t l) (hL : Ln ≤ 3072) (hi : 0 ≤ i ∧ i + 6 ≤ Ln) (hk : k + 3 ≤ 600000) (hj : j + 403 ≤ 7302250) (nx : Nx b0 Ln xs a1 a2 i k j) : LwP b0 Ln xs 1300 600000 7302250 mL_law PL 986 (lvL4 b0 a1 a2 i) [] k j S I R := by
  refine y_aload_n (i := 1) dL_law_986 rfl ?_
  refine y_arg (z := i) (q := 1) dL_law_987 dL_law_988 dL_law_989 dL_law_990 dL_law_991 rfl rfl (by omega) (by omega) hL ?_
  refine y_cV1 (n1 := 1299) (mc1 := 0) (ms1 := 0) (ci := 11) dL_law_992 cv_RL_126 (k_ob_0 h.cs) rfl h.ad1 (Nat.le_of_ble_eq_true rfl) (Nat.le_refl _) (by omega) (by omega) ?_
  refine sp_X11_cool (w := (xs (i + 1).toNat).toInt) (cs := h.cs) (hv := h.iv) (hw2 := (rg_x _)) (hn := (by omega)) (hp := fun I1 f1 s1 => ?_)
  have k1 : KC I I1 := f1.kc
  have v1 := h.iv.p f1 s1
  have ht : A 1 = A 1 := rfl
  have d1 := f1.kd h.dk
  have q7 : I1 307 = A := (k1 307 (by omega)).trans h.rA
  have q9 : RTx (I1 309) A tx := by rw [k1 309 (by omega)]; exact h.rt
  have q23 : I1 306 23 = 1 := by rw [k1 306 (by omega)]; exact h.z23
  have qm : DM I1 := h.dm.fr (k1 323 (by omega)) (k1 324 (by omega))
  refine y_aload_n (i := 2) dL_law_995 rfl ?_
  refine y_arg (z := i) (q := 1) dL_law_996 dL_law_997 dL_law_998 dL_law_999 dL_law_1000 rfl rfl (by omega) (by omega) hL ?_
  refine y_cV1 (n1 := 1299) (mc1 := 0) (ms1 := 0) (ci := 12) dL_law_1001 cv_RL_129 (k_ob_306 h.cs) rfl h.ad2 (Nat.le_of_ble_eq_true rfl) (Nat.le_refl _) (by omega) (by omega) ?_
  refine sp_X12_cool (I := I1) (w := (xs (i + 1).toNat).toInt) (cs := h.cs) (hA := q7) (hN := (BA_bn h.iv.2.1)) (hT := q9) (hw := (rg_x _)) (hn := (by omega)) (hp := fun J f2 => ?_)
  have k2 : KR I1 J := f2.kr
  have e7 : J 307 = A := f2.k7.trans q7
  have m2 := f2.km qm
  have hJ : LJ a1 a2 S J R := ⟨_, _, _, _, _, h.step k1 v1 d1 k2 m2 e7 ht⟩
  refine y_same 1488 dL_law_1004 (by decide) ?_
  exact nx _ _ _ _ _ (by omega) (by omega) hJ
theorem lc_earns {b0 Ln : Nat} {xs : Nat → Int32} {a1 a2 : Nat} {B : Nat → Int} {t : Nat → Int} {l : Nat} {i : Int} (h : LI a1 a2 S I R A B tx t l) (hL : Ln ≤ 3072) (hi : 0 ≤ i ∧ i + 6 ≤ Ln) (hk : k + 3 ≤ 600000) (hj : j + 403 ≤ 7302250) (nx : Nx b0 Ln xs a1 a2 i k j) : LwP b0 Ln xs 1300 600000 7302250 mL_law PL 1009 (lvL4 b0 a1 a2 i) [] k j S I R := by
  refine y_aload_n (i := 1) dL_law_1009 rfl ?_
  refine y_arg (z := i) (q := 1) dL_law_1010 dL_law_1011 dL_law_1012 dL_law_1013 dL_law_1014 rfl rfl (by omega) (by omega) hL ?_
  refine y_cV1 (n1 := 1299) (mc1 := 0) (ms1 := 0) (ci := 11) dL_law_1015 cv_RL_130 (k_ob_0 h.cs) rfl h.ad1 (Nat.le_of_ble_eq_true rfl) (Nat.le_refl _) (by omega) (by omega) ?_
  refine sp_X11_earns (q := (xs (i + 1).toNat).toInt) (cs := h.cs) (hc := h.iv.1) (hq := (rg_x _)) (hp := fun I1 c1 f1 => ?_)
  have k1 : KC I I1 := f1.kc
  have v1 := h.iv.w f1 c1 (BA_earns h.iv.2.1) (f_earns_t)
  have ht := (f_earns_t : (f_earns A ((xs (i + 1).toNat).toInt)).2 1 = A 1)
  have d1 := f1.kd h.dk
  have q7 : I1 307 = A := (k1 307 (by omega)).trans h.rA
  have q9 : RTx (I1 309) A tx := by rw [k1 309 (by omega)]; exact h.rt
  have q23 : I1 306 23 = 1 := by rw [k1 306 (by omega)]; exact h.z23
  have qm : DM I1 := h.dm.fr (k1 323 (by omega)) (k1 324 (by omega))
  refine y_aload_n (i := 2) dL_law_1018 rfl ?_
  refine y_arg (z := i) (q := 1) dL_law_1019 dL_law_1020 dL_law_1021 dL_law_1022 dL_law_1023 rfl rfl (by omega) (by omega) hL ?_
  refine y_cV1 (n1 := 1299) (mc1 := 0) (ms1 := 0) (ci := 12) dL_law_1024 cv_RL_133 (k_ob_306 h.cs) rfl h.ad2 (Nat.le_of_ble_eq_true rfl) (Nat.le_refl _) (by omega) (by omega) ?_
  refine sp_X12_earns (I := I1) (q := (xs (i + 1).toNat).toInt) (cs := h.cs) (hA := q7) (hq := (rg_x _)) (hn := (by omega)) (hp := fun J e7 f2 => ?_)
  have k2 : KR I1 J := f2.kr
  have m2 := f2.km qm
  have hJ : LJ a1 a2 S J R := ⟨_, _, _, _, _, h.step k1 v1 d1 k2 m2 e7 ht⟩
  refine y_same 1488 dL_law_1027 (by decide) ?_
  exact nx _ _ _ _ _ (by omega) (by omega) hJ
theorem lc_plan {b0 Ln : Nat} {xs : Nat → Int32} {a1 a2 : Nat} {B : Nat → Int} {t : Nat → Int} {l : Nat} {i : Int} (h : LI a1 a2 S I R A B tx t l) (hL : Ln ≤ 3072) (hi : 0 ≤ i ∧ i + 6 ≤ Ln) (hk : k + 3 ≤ 600000) (hj : j + 403 ≤ 7302250) (nx : Nx b0 Ln xs a1 a2 i k j) : LwP b0 Ln xs 1300 600000 7302250 mL_law PL 1032 (lvL4 b0 a1 a2 i) [] k j S I R := by
  refine y_aload_n (i := 1) dL_law_1032 rfl ?_
  refine y_arg (z := i) (q := 1) dL_law_1033 dL_law_1034 dL_law_1035 dL_law_1036 dL_law_1037 rfl rfl (by omega) (by omega) hL ?_
  refine y_arg (z := i) (q := 2) dL_law_1038 dL_law_1039 dL_law_1040 dL_law_1041 dL_law_1042 rfl rfl (by omega) (by omega) hL ?_
  refine y_cV2 (n1 := 1299) (mc1 := 0) (ms1 := 0) (ci := 11) dL_law_1043 cv_RL_134 (k_ob_0 h.cs) rfl h.ad1 (Nat.le_of_ble_eq_true rfl) (Nat.le_refl _) (by omega) (by omega) ?_
  refine sp_X11_plan (set := (xs (i + 1).toNat).toInt) (w := (xs (i + 2).toNat).toInt) (cs := h.cs) (hv := h.iv) (hs := (rg_x _)) (hw2 := (rg_x _)) (hn := (by omega)) (hp := fun I1 v1 f1 => ?_)
  have k1 : KC I I1 := f1.kc
  have ht : A 1 = A 1 := rfl
  have d1 := f1.kd h.dk
  have q7 : I1 307 = A := (k1 307 (by omega)).trans h.rA
  have q9 : RTx (I1 309) A tx := by rw [k1 309 (by omega)]; exact h.rt
  have q23 : I1 306 23 = 1 := by rw [k1 306 (by omega)]; exact h.z23
  have qm : DM I1 := h.dm.fr (k1 323 (by omega)) (k1 324 (by omega))
  refine y_aload_n (i := 2) dL_law_1046 rfl ?_
  refine y_arg (z := i) (q := 1) dL_law_1047 dL_law_1048 dL_law_1049 dL_law_1050 dL_law_1051 rfl rfl (by omega) (by omega) hL ?_
  refine y_arg (z := i) (q := 2) dL_law_1052 dL_law_1053 dL_law_1054 dL_law_1055 dL_law_1056 rfl rfl (by omega) (by omega) hL ?_
  refine y_cV2 (n1 := 1299) (mc1 := 0) (ms1 := 0) (ci := 12) dL_law_1057 cv_RL_137 (k_ob_306 h.cs) rfl h.ad2 (Nat.le_of_ble_eq_true rfl) (Nat.le_refl _) (by omega) (by omega) ?_
  refine sp_X12_plan (I := I1) (set := (xs (i + 1).toNat).toInt) (w := (xs (i + 2).toNat).toInt) (o := I 297) (b := I 296) (cs := h.cs) (hb := h.iv.2.1) (hn := (by omega)) (hs := (rg_x _)) (hw := (rg_x _)) (hA := q7) (hT := q9) (hp := fun J f2 => ?_)
  have k2 : KR I1 J := f2.kr
  have e7 : J 307 = A := f2.k7.trans q7
  have m2 := f2.km qm
  have hJ : LJ a1 a2 S J R := ⟨_, _, _, _, _, h.step k1 v1 d1 k2 m2 e7 ht⟩
  refine y_same 1488 dL_law_1060 (by decide) ?_
  exact nx _ _ _ _ _ (by omega) (by omega) hJ
theorem lc_best {b0 Ln : Nat} {xs : Nat → Int32} {a1 a2 : Nat} {B : Nat → Int} {t : Nat → Int} {l : Nat} {i : Int} (h : LI a1 a2 S I R A B tx t l) (hL : Ln ≤ 3072) (hi : 0 ≤ i ∧ i + 6 ≤ Ln) (hk : k + 3 ≤ 600000) (hj : j + 403 ≤ 7302250) (nx : Nx b0 Ln xs a1 a2 i k j) : LwP b0 Ln xs 1300 600000 7302250 mL_law PL 1065 (lvL4 b0 a1 a2 i) [] k j S I R := by
  refine y_aload_n (i := 1) dL_law_1065 rfl ?_
  refine y_arg (z := i) (q := 1) dL_law_1066 dL_law_1067 dL_law_1068 dL_law_1069 dL_law_1070 rfl rfl (by omega) (by omega) hL ?_
  refine y_arg (z := i) (q := 2) dL_law_1071 dL_law_1072 dL_law_1073 dL_law_1074 dL_law_1075 rfl rfl (by omega) (by omega) hL ?_
  refine y_arg (z := i) (q := 3) dL_law_1076 dL_law_1077 dL_law_1078 dL_law_1079 dL_law_1080 rfl rfl (by omega) (by omega) hL ?_
  refine y_bool (rg_x _) dL_law_1081 dL_law_1084 dL_law_1085 dL_law_1088 ?_
  refine y_cV3 (n1 := 1299) (mc1 := 0) (ms1 := 0) (ci := 11) dL_law_1089 cv_RL_138 (k_ob_0 h.cs) rfl h.ad1 (Nat.le_of_ble_eq_true rfl) (Nat.le_refl _) (by omega) (by omega) ?_
  refine sp_X11_best (q := (xs (i + 1).toNat).toInt) (m := (xs (i + 2).toNat).toInt) (d := bI (xs (i + 3).toNat).toInt) (cs := h.cs) (hv := h.iv) (hq := (rg_x _)) (hm := (rg_x _)) (hd := (bI_rg _)) (hn := (by omega)) (hp := fun I1 f1 s1 => ?_)
  have k1 : KC I I1 := f1.kc
  have v1 := h.iv.l f1 s1
  have ht : A 1 = A 1 := rfl
  have d1 := f1.kd h.dk
  have q7 : I1 307 = A := (k1 307 (by omega)).trans h.rA
  have q9 : RTx (I1 309) A tx := by rw [k1 309 (by omega)]; exact h.rt
  have q23 : I1 306 23 = 1 := by rw [k1 306 (by omega)]; exact h.z23
  have qm : DM I1 := h.dm.fr (k1 323 (by omega)) (k1 324 (by omega))
  refine y_aload_n (i := 2) dL_law_1092 rfl ?_
  refine y_arg (z := i) (q := 1) dL_law_1093 dL_law_1094 dL_law_1095 dL_law_1096 dL_law_1097 rfl rfl (by omega) (by omega) hL ?_
  refine y_arg (z := i) (q := 2) dL_law_1098 dL_law_1099 dL_law_1100 dL_law_1101 dL_law_1102 rfl rfl (by omega) (by omega) hL ?_
  refine y_arg (z := i) (q := 3) dL_law_1103 dL_law_1104 dL_law_1105 dL_law_1106 dL_law_1107 rfl rfl (by omega) (by omega) hL ?_
  refine y_bool (rg_x _) dL_law_1108 dL_law_1111 dL_law_1112 dL_law_1115 ?_
  refine y_cV3 (n1 := 1299) (mc1 := 0) (ms1 := 0) (ci := 12) dL_law_1116 cv_RL_142 (k_ob_306 h.cs) rfl h.ad2 (Nat.le_of_ble_eq_true rfl) (Nat.le_refl _) (by omega) (by omega) ?_
  refine sp_X12_best (I := I1) (q := (xs (i + 1).toNat).toInt) (m := (xs (i + 2).toNat).toInt) (w := bI (xs (i + 3).toNat).toInt) (cs := h.cs) (hA := q7) (hN := (BA_bn h.iv.2.1)) (hT := q9) (hq := (rg_x _)) (hm := (rg_x _)) (hw := (bI_rg _)) (hn := (by omega)) (hp := fun J f2 => ?_)
  have k2 : KR I1 J := f2.kr
  have e7 : J 307 = A := f2.k7.trans q7
  have m2 := f2.km qm
  have hJ : LJ a1 a2 S J R := ⟨_, _, _, _, _, h.step k1 v1 d1 k2 m2 e7 ht⟩
  refine y_same 1488 dL_law_1119 (by decide) ?_
  exact nx _ _ _ _ _ (by omega) (by omega) hJ
theorem lc_digit {b0 Ln : Nat} {xs : Nat → Int32} {a1 a2 : Nat} {B : Nat → Int} {t : Nat → Int} {l : Nat} {i : Int} (h : LI a1 a2 S I R A B tx t l) (hL : Ln ≤ 3072) (hi : 0 ≤ i ∧ i + 6 ≤ Ln) (hk : k + 3 ≤ 600000) (hj : j + 403 ≤ 7302250) (nx : Nx b0 Ln xs a1 a2 i k j) : LwP b0 Ln xs 1300 600000 7302250 mL_law PL 1124 (lvL4 b0 a1 a2 i) [] k j S I R := by
  refine y_aload_n (i := 1) dL_law_1124 rfl ?_
  refine y_arg (z := i) (q := 1) dL_law_1125 dL_law_1126 dL_law_1127 dL_law_1128 dL_law_1129 rfl rfl (by omega) (by omega) hL ?_
  refine y_arg (z := i) (q := 2) dL_law_1130 dL_law_1131 dL_law_1132 dL_law_1133 dL_law_1134 rfl rfl (by omega) (by omega) hL ?_
  refine y_cV2 (n1 := 1299) (mc1 := 0) (ms1 := 0) (ci := 11) dL_law_1135 cv_RL_143 (k_ob_0 h.cs) rfl h.ad1 (Nat.le_of_ble_eq_true rfl) (Nat.le_refl _) (by omega) (by omega) ?_
  refine sp_X11_digit (q := (xs (i + 1).toNat).toInt) (d := (xs (i + 2).toNat).toInt) (cs := h.cs) (hc := h.iv.1) (hq := (rg_x _)) (hd := (rg_x _)) (hp := fun I1 c1 f1 => ?_)
  have k1 : KC I I1 := f1.kc
  have v1 := h.iv.w f1 c1 (BA_digit h.iv.2.1) (f_digit_t)
  have ht := (f_digit_t : (f_digit A ((xs (i + 1).toNat).toInt) ((xs (i + 2).toNat).toInt)).2 1 = A 1)
  have d1 := f1.kd h.dk
  have q7 : I1 307 = A := (k1 307 (by omega)).trans h.rA
  have q9 : RTx (I1 309) A tx := by rw [k1 309 (by omega)]; exact h.rt
  have q23 : I1 306 23 = 1 := by rw [k1 306 (by omega)]; exact h.z23
  have qm : DM I1 := h.dm.fr (k1 323 (by omega)) (k1 324 (by omega))
  refine y_aload_n (i := 2) dL_law_1138 rfl ?_
  refine y_arg (z := i) (q := 1) dL_law_1139 dL_law_1140 dL_law_1141 dL_law_1142 dL_law_1143 rfl rfl (by omega) (by omega) hL ?_
  refine y_arg (z := i) (q := 2) dL_law_1144 dL_law_1145 dL_law_1146 dL_law_1147 dL_law_1148 rfl rfl (by omega) (by omega) hL ?_
  refine y_cV2 (n1 := 1299) (mc1 := 0) (ms1 := 0) (ci := 12) dL_law_1149 cv_RL_146 (k_ob_306 h.cs) rfl h.ad2 (Nat.le_of_ble_eq_true rfl) (Nat.le_refl _) (by omega) (by omega) ?_
  refine sp_X12_digit (I := I1) (q := (xs (i + 1).toNat).toInt) (d := (xs (i + 2).toNat).toInt) (cs := h.cs) (hA := q7) (hq := (rg_x _)) (hd := (rg_x _)) (hn := (by omega)) (hp := fun J e7 f2 => ?_)
  have k2 : KR I1 J := f2.kr
  have m2 := f2.km qm
  have hJ : LJ a1 a2 S J R := ⟨_, _, _, _, _, h.step k1 v1 d1 k2 m2 e7 ht⟩
  refine y_same 1488 dL_law_1152 (by decide) ?_
  exact nx _ _ _ _ _ (by omega) (by omega) hJ
theorem lc_tickets {b0 Ln : Nat} {xs : Nat → Int32} {a1 a2 : Nat} {B : Nat → Int} {t : Nat → Int} {l : Nat} {i : Int} (h : LI a1 a2 S I R A B tx t l) (hL : Ln ≤ 3072) (hi : 0 ≤ i ∧ i + 6 ≤ Ln) (hk : k + 3 ≤ 600000) (hj : j + 403 ≤ 7302250) (nx : Nx b0 Ln xs a1 a2 i k j) : LwP b0 Ln xs 1300 600000 7302250 mL_law PL 1157 (lvL4 b0 a1 a2 i) [] k j S I R := by
  refine y_aload_n (i := 1) dL_law_1157 rfl ?_
  refine y_arg (z := i) (q := 1) dL_law_1158 dL_law_1159 dL_law_1160 dL_law_1161 dL_law_1162 rfl rfl (by omega) (by omega) hL ?_
  refine y_cV1 (n1 := 1299) (mc1 := 0) (ms1 := 0) (ci := 11) dL_law_1163 cv_RL_147 (k_ob_0 h.cs) rfl h.ad1 (Nat.le_of_ble_eq_true rfl) (Nat.le_refl _) (by omega) (by omega) ?_
  refine sp_X11_tickets (w := (xs (i + 1).toNat).toInt) (cs := h.cs) (hc := h.iv.1) (hb := h.iv.2.1) (hw := (rg_x _)) (hn := (by omega)) (hp := ?_)
  have k1 : KC I I := KC.rf
  have v1 := h.iv
  have d1 := h.dk
  have ht : A 1 = A 1 := rfl
  have q7 : I 307 = A := (k1 307 (by omega)).trans h.rA
  have q9 : RTx (I 309) A tx := by rw [k1 309 (by omega)]; exact h.rt
  have q23 : I 306 23 = 1 := by rw [k1 306 (by omega)]; exact h.z23
  have qm : DM I := h.dm.fr (k1 323 (by omega)) (k1 324 (by omega))
  refine y_aload_n (i := 2) dL_law_1166 rfl ?_
  refine y_arg (z := i) (q := 1) dL_law_1167 dL_law_1168 dL_law_1169 dL_law_1170 dL_law_1171 rfl rfl (by omega) (by omega) hL ?_
  refine y_cV1 (n1 := 1299) (mc1 := 0) (ms1 := 0) (ci := 12) dL_law_1172 cv_RL_150 (k_ob_306 h.cs) rfl h.ad2 (Nat.le_of_ble_eq_true rfl) (Nat.le_refl _) (by omega) (by omega) ?_
  refine sp_X12_tickets (I := I) (w := (xs (i + 1).toNat).toInt) (cs := h.cs) (hA := q7) (hb := h.iv.2.1) (hw := (rg_x _)) (hn := (by omega)) (hp := ?_)
  have k2 : KR I I := KR.rf
  have m2 := qm
  have e7 := q7
  have hJ : LJ a1 a2 S I R := ⟨_, _, _, _, _, h.step k1 v1 d1 k2 m2 e7 ht⟩
  refine y_same 1488 dL_law_1175 (by decide) ?_
  exact nx _ _ _ _ _ (by omega) (by omega) hJ
theorem lc_hook {b0 Ln : Nat} {xs : Nat → Int32} {a1 a2 : Nat} {B : Nat → Int} {t : Nat → Int} {l : Nat} {i : Int} (h : LI a1 a2 S I R A B tx t l) (hL : Ln ≤ 3072) (hi : 0 ≤ i ∧ i + 6 ≤ Ln) (hk : k + 3 ≤ 600000) (hj : j + 403 ≤ 7302250) (nx : Nx b0 Ln xs a1 a2 i k j) : LwP b0 Ln xs 1300 600000 7302250 mL_law PL 1180 (lvL4 b0 a1 a2 i) [] k j S I R := by
  refine y_aload_n (i := 1) dL_law_1180 rfl ?_
  refine y_arg (z := i) (q := 1) dL_law_1181 dL_law_1182 dL_law_1183 dL_law_1184 dL_law_1185 rfl rfl (by omega) (by omega) hL ?_
  refine y_cV1 (n1 := 1299) (mc1 := 0) (ms1 := 0) (ci := 11) dL_law_1186 cv_RL_151 (k_ob_0 h.cs) rfl h.ad1 (Nat.le_of_ble_eq_true rfl) (Nat.le_refl _) (by omega) (by omega) ?_
  refine sp_X11_hook (q := (xs (i + 1).toNat).toInt) (cs := h.cs) (hc := h.iv.1) (hb := h.iv.2.1) (hq := (rg_x _)) (hp := fun I1 c1 f1 => ?_)
  have k1 : KC I I1 := f1.kc
  have v1 := h.iv.w f1 c1 (BA_hook h.iv.2.1) (f_hook_t)
  have ht := (f_hook_t : (f_hook A ((xs (i + 1).toNat).toInt)).2 1 = A 1)
  have d1 := f1.kd h.dk
  have q7 : I1 307 = A := (k1 307 (by omega)).trans h.rA
  have q9 : RTx (I1 309) A tx := by rw [k1 309 (by omega)]; exact h.rt
  have q23 : I1 306 23 = 1 := by rw [k1 306 (by omega)]; exact h.z23
  have qm : DM I1 := h.dm.fr (k1 323 (by omega)) (k1 324 (by omega))
  refine y_aload_n (i := 2) dL_law_1189 rfl ?_
  refine y_arg (z := i) (q := 1) dL_law_1190 dL_law_1191 dL_law_1192 dL_law_1193 dL_law_1194 rfl rfl (by omega) (by omega) hL ?_
  refine y_cV1 (n1 := 1299) (mc1 := 0) (ms1 := 0) (ci := 12) dL_law_1195 cv_RL_154 (k_ob_306 h.cs) rfl h.ad2 (Nat.le_of_ble_eq_true rfl) (Nat.le_refl _) (by omega) (by omega) ?_
  refine sp_X12_hook (I := I1) (q := (xs (i + 1).toNat).toInt) (cs := h.cs) (hA := q7) (hb := h.iv.2.1) (hq := (rg_x _)) (hn := (by omega)) (hp := fun J e7 f2 => ?_)
  have k2 : KR I1 J := f2.kr
  have m2 := f2.km qm
  have hJ : LJ a1 a2 S J R := ⟨_, _, _, _, _, h.step k1 v1 d1 k2 m2 e7 ht⟩
  refine y_same 1488 dL_law_1198 (by decide) ?_
  exact nx _ _ _ _ _ (by omega) (by omega) hJ
theorem lc_hung {b0 Ln : Nat} {xs : Nat → Int32} {a1 a2 : Nat} {B : Nat → Int} {t : Nat → Int} {l : Nat} {i : Int} (h : LI a1 a2 S I R A B tx t l) (hL : Ln ≤ 3072) (hi : 0 ≤ i ∧ i + 6 ≤ Ln) (hk : k + 3 ≤ 600000) (hj : j + 403 ≤ 7302250) (nx : Nx b0 Ln xs a1 a2 i k j) : LwP b0 Ln xs 1300 600000 7302250 mL_law PL 1203 (lvL4 b0 a1 a2 i) [] k j S I R := by
  refine y_aload_n (i := 1) dL_law_1203 rfl ?_
  refine y_arg (z := i) (q := 1) dL_law_1204 dL_law_1205 dL_law_1206 dL_law_1207 dL_law_1208 rfl rfl (by omega) (by omega) hL ?_
  refine y_arg (z := i) (q := 2) dL_law_1209 dL_law_1210 dL_law_1211 dL_law_1212 dL_law_1213 rfl rfl (by omega) (by omega) hL ?_
  refine y_cV2 (n1 := 1299) (mc1 := 0) (ms1 := 0) (ci := 11) dL_law_1214 cv_RL_155 (k_ob_0 h.cs) rfl h.ad1 (Nat.le_of_ble_eq_true rfl) (Nat.le_refl _) (by omega) (by omega) ?_
  refine sp_X11_hung (e := (xs (i + 1).toNat).toInt) (k := (xs (i + 2).toNat).toInt) (cs := h.cs) (hc := h.iv.1) (hb := h.iv.2.1) (he := (rg_x _)) (hk := (rg_x _)) (hn := (by omega)) (hp := fun I1 f1 => ?_)
  have k1 : KC I I1 := f1.kc
  have v1 : CIv S R I1 A tx := ⟨ClW_fr (fun c g1 g2 => f1 c (by omega) (by omega) (by omega)) h.iv.1, h.iv.2.1, WTx_fr (fun c g => f1 c (by omega) (by omega) (by omega)) h.iv.2.2.1, by unfold SK; rw [f1 281 (by omega) (by omega) (by omega)]; exact h.iv.2.2.2⟩
  have ht : A 1 = A 1 := rfl
  have d1 := f1.kd h.dk
  have q7 : I1 307 = A := (k1 307 (by omega)).trans h.rA
  have q9 : RTx (I1 309) A tx := by rw [k1 309 (by omega)]; exact h.rt
  have q23 : I1 306 23 = 1 := by rw [k1 306 (by omega)]; exact h.z23
  have qm : DM I1 := h.dm.fr (k1 323 (by omega)) (k1 324 (by omega))
  refine y_aload_n (i := 2) dL_law_1217 rfl ?_
  refine y_arg (z := i) (q := 1) dL_law_1218 dL_law_1219 dL_law_1220 dL_law_1221 dL_law_1222 rfl rfl (by omega) (by omega) hL ?_
  refine y_arg (z := i) (q := 2) dL_law_1223 dL_law_1224 dL_law_1225 dL_law_1226 dL_law_1227 rfl rfl (by omega) (by omega) hL ?_
  refine y_cV2 (n1 := 1299) (mc1 := 0) (ms1 := 0) (ci := 12) dL_law_1228 cv_RL_158 (k_ob_306 h.cs) rfl h.ad2 (Nat.le_of_ble_eq_true rfl) (Nat.le_refl _) (by omega) (by omega) ?_
  refine sp_X12_hung (I := I1) (e := (xs (i + 1).toNat).toInt) (k := (xs (i + 2).toNat).toInt) (cs := h.cs) (hb := h.iv.2.1) (hn := (by omega)) (hA := q7) (he := (rg_x _)) (hk := (rg_x _)) (hp := fun J f2 => ?_)
  have k2 : KR I1 J := f2.kr
  have e7 : J 307 = A := f2.k7.trans q7
  have m2 := f2.km qm
  have hJ : LJ a1 a2 S J R := ⟨_, _, _, _, _, h.step k1 v1 d1 k2 m2 e7 ht⟩
  refine y_same 1488 dL_law_1231 (by decide) ?_
  exact nx _ _ _ _ _ (by omega) (by omega) hJ
theorem lc_look {b0 Ln : Nat} {xs : Nat → Int32} {a1 a2 : Nat} {B : Nat → Int} {t : Nat → Int} {l : Nat} {i : Int} (h : LI a1 a2 S I R A B tx t l) (hL : Ln ≤ 3072) (hi : 0 ≤ i ∧ i + 6 ≤ Ln) (hk : k + 3 ≤ 600000) (hj : j + 403 ≤ 7302250) (nx : Nx b0 Ln xs a1 a2 i k j) : LwP b0 Ln xs 1300 600000 7302250 mL_law PL 1236 (lvL4 b0 a1 a2 i) [] k j S I R := by
  refine y_aload_n (i := 1) dL_law_1236 rfl ?_
  refine y_arg (z := i) (q := 1) dL_law_1237 dL_law_1238 dL_law_1239 dL_law_1240 dL_law_1241 rfl rfl (by omega) (by omega) hL ?_
  refine y_cV1 (n1 := 1299) (mc1 := 0) (ms1 := 0) (ci := 11) dL_law_1242 cv_RL_159 (k_ob_0 h.cs) rfl h.ad1 (Nat.le_of_ble_eq_true rfl) (Nat.le_refl _) (by omega) (by omega) ?_
  refine sp_X11_look (e := (xs (i + 1).toNat).toInt) (cs := h.cs) (hc := h.iv.1) (hb := h.iv.2.1) (he := (rg_x _)) (hn := (by omega)) (hp := fun I1 f1 => ?_)
  have k1 : KC I I1 := f1.kc
  have v1 : CIv S R I1 A tx := ⟨ClW_fr (fun c g1 g2 => f1 c (by omega) (by omega) (by omega)) h.iv.1, h.iv.2.1, WTx_fr (fun c g => f1 c (by omega) (by omega) (by omega)) h.iv.2.2.1, by unfold SK; rw [f1 281 (by omega) (by omega) (by omega)]; exact h.iv.2.2.2⟩
  have ht : A 1 = A 1 := rfl
  have d1 := f1.kd h.dk
  have q7 : I1 307 = A := (k1 307 (by omega)).trans h.rA
  have q9 : RTx (I1 309) A tx := by rw [k1 309 (by omega)]; exact h.rt
  have q23 : I1 306 23 = 1 := by rw [k1 306 (by omega)]; exact h.z23
  have qm : DM I1 := h.dm.fr (k1 323 (by omega)) (k1 324 (by omega))
  refine y_aload_n (i := 2) dL_law_1245 rfl ?_
  refine y_arg (z := i) (q := 1) dL_law_1246 dL_law_1247 dL_law_1248 dL_law_1249 dL_law_1250 rfl rfl (by omega) (by omega) hL ?_
  refine y_cV1 (n1 := 1299) (mc1 := 0) (ms1 := 0) (ci := 12) dL_law_1251 cv_RL_162 (k_ob_306 h.cs) rfl h.ad2 (Nat.le_of_ble_eq_true rfl) (Nat.le_refl _) (by omega) (by omega) ?_
  refine sp_X12_look (I := I1) (e := (xs (i + 1).toNat).toInt) (cs := h.cs) (hb := h.iv.2.1) (hn := (by omega)) (hA := q7) (he := (rg_x _)) (hp := fun J f2 => ?_)
  have k2 : KR I1 J := f2.kr
  have e7 : J 307 = A := f2.k7.trans q7
  have m2 := f2.km qm
  have hJ : LJ a1 a2 S J R := ⟨_, _, _, _, _, h.step k1 v1 d1 k2 m2 e7 ht⟩
  refine y_same 1488 dL_law_1254 (by decide) ?_
  exact nx _ _ _ _ _ (by omega) (by omega) hJ
theorem lc_bid {b0 Ln : Nat} {xs : Nat → Int32} {a1 a2 : Nat} {B : Nat → Int} {t : Nat → Int} {l : Nat} {i : Int} (h : LI a1 a2 S I R A B tx t l) (hL : Ln ≤ 3072) (hi : 0 ≤ i ∧ i + 6 ≤ Ln) (hk : k + 3 ≤ 600000) (hj : j + 403 ≤ 7302250) (nx : Nx b0 Ln xs a1 a2 i k j) : LwP b0 Ln xs 1300 600000 7302250 mL_law PL 1259 (lvL4 b0 a1 a2 i) [] k j S I R := by
  refine y_aload_n (i := 1) dL_law_1259 rfl ?_
  refine y_arg (z := i) (q := 1) dL_law_1260 dL_law_1261 dL_law_1262 dL_law_1263 dL_law_1264 rfl rfl (by omega) (by omega) hL ?_
  refine y_arg (z := i) (q := 2) dL_law_1265 dL_law_1266 dL_law_1267 dL_law_1268 dL_law_1269 rfl rfl (by omega) (by omega) hL ?_
  refine y_bool (rg_x _) dL_law_1270 dL_law_1273 dL_law_1274 dL_law_1277 ?_
  refine y_cV2 (n1 := 1299) (mc1 := 0) (ms1 := 0) (ci := 11) dL_law_1278 cv_RL_163 (k_ob_0 h.cs) rfl h.ad1 (Nat.le_of_ble_eq_true rfl) (Nat.le_refl _) (by omega) (by omega) ?_
  refine sp_X11_bid (q := (xs (i + 1).toNat).toInt) (d := bI (xs (i + 2).toNat).toInt) (cs := h.cs) (hc := h.iv.1) (hb := h.iv.2.1) (hq := (rg_x _)) (hd := (bI_rg _)) (hp := fun I1 c1 f1 => ?_)
  have k1 : KC I I1 := f1.kc
  have v1 := h.iv.w f1 c1 (BA_bid h.iv.2.1 (bI_rg _)) (f_bid_t)
  have ht := (f_bid_t : (f_bid A ((xs (i + 1).toNat).toInt) (bI (xs (i + 2).toNat).toInt)).2 1 = A 1)
  have d1 := f1.kd h.dk
  have q7 : I1 307 = A := (k1 307 (by omega)).trans h.rA
  have q9 : RTx (I1 309) A tx := by rw [k1 309 (by omega)]; exact h.rt
  have q23 : I1 306 23 = 1 := by rw [k1 306 (by omega)]; exact h.z23
  have qm : DM I1 := h.dm.fr (k1 323 (by omega)) (k1 324 (by omega))
  refine y_aload_n (i := 2) dL_law_1281 rfl ?_
  refine y_arg (z := i) (q := 1) dL_law_1282 dL_law_1283 dL_law_1284 dL_law_1285 dL_law_1286 rfl rfl (by omega) (by omega) hL ?_
  refine y_arg (z := i) (q := 2) dL_law_1287 dL_law_1288 dL_law_1289 dL_law_1290 dL_law_1291 rfl rfl (by omega) (by omega) hL ?_
  refine y_bool (rg_x _) dL_law_1292 dL_law_1295 dL_law_1296 dL_law_1299 ?_
  refine y_cV2 (n1 := 1299) (mc1 := 0) (ms1 := 0) (ci := 12) dL_law_1300 cv_RL_167 (k_ob_306 h.cs) rfl h.ad2 (Nat.le_of_ble_eq_true rfl) (Nat.le_refl _) (by omega) (by omega) ?_
  refine sp_X12_bid (I := I1) (q := (xs (i + 1).toNat).toInt) (d := bI (xs (i + 2).toNat).toInt) (cs := h.cs) (hA := q7) (hb := h.iv.2.1) (hq := (rg_x _)) (hd := (bI_rg _)) (hn := (by omega)) (hp := fun J e7 f2 => ?_)
  have k2 : KR I1 J := f2.kr
  have m2 := f2.km qm
  have hJ : LJ a1 a2 S J R := ⟨_, _, _, _, _, h.step k1 v1 d1 k2 m2 e7 ht⟩
  refine y_same 1488 dL_law_1303 (by decide) ?_
  exact nx _ _ _ _ _ (by omega) (by omega) hJ
theorem lc_market {b0 Ln : Nat} {xs : Nat → Int32} {a1 a2 : Nat} {B : Nat → Int} {t : Nat → Int} {l : Nat} {i : Int} (h : LI a1 a2 S I R A B tx t l) (hL : Ln ≤ 3072) (hi : 0 ≤ i ∧ i + 6 ≤ Ln) (hk : k + 3 ≤ 600000) (hj : j + 403 ≤ 7302250) (nx : Nx b0 Ln xs a1 a2 i k j) : LwP b0 Ln xs 1300 600000 7302250 mL_law PL 1308 (lvL4 b0 a1 a2 i) [] k j S I R := by
  refine y_aload_n (i := 1) dL_law_1308 rfl ?_
  refine y_arg (z := i) (q := 1) dL_law_1309 dL_law_1310 dL_law_1311 dL_law_1312 dL_law_1313 rfl rfl (by omega) (by omega) hL ?_
  refine y_cV1 (n1 := 1299) (mc1 := 0) (ms1 := 0) (ci := 11) dL_law_1314 cv_RL_168 (k_ob_0 h.cs) rfl h.ad1 (Nat.le_of_ble_eq_true rfl) (Nat.le_refl _) (by omega) (by omega) ?_
  refine sp_X11_market (w := (xs (i + 1).toNat).toInt) (cs := h.cs) (hw := (rg_x _)) (hc := h.iv.1) (hb := h.iv.2.1) (hd := h.dk) (hn := (by omega)) (hp := fun I1 f1 d1 => ?_)
  have k1 : KC I I1 := f1.kc
  have v1 : CIv S R I1 A tx := ⟨ClW_fr (fun c g1 g2 => f1 c (by omega) (by omega) (by omega)) h.iv.1, h.iv.2.1, WTx_fr (fun c g => f1 c (by omega) (by omega) (by omega)) h.iv.2.2.1, by unfold SK; rw [f1 281 (by omega) (by omega) (by omega)]; exact h.iv.2.2.2⟩
  have ht : A 1 = A 1 := rfl
  have q7 : I1 307 = A := (k1 307 (by omega)).trans h.rA
  have q9 : RTx (I1 309) A tx := by rw [k1 309 (by omega)]; exact h.rt
  have q23 : I1 306 23 = 1 := by rw [k1 306 (by omega)]; exact h.z23
  have qm : DM I1 := h.dm.fr (k1 323 (by omega)) (k1 324 (by omega))
  refine y_aload_n (i := 2) dL_law_1317 rfl ?_
  refine y_arg (z := i) (q := 1) dL_law_1318 dL_law_1319 dL_law_1320 dL_law_1321 dL_law_1322 rfl rfl (by omega) (by omega) hL ?_
  refine y_cV1 (n1 := 1299) (mc1 := 0) (ms1 := 0) (ci := 12) dL_law_1323 cv_RL_171 (k_ob_306 h.cs) rfl h.ad2 (Nat.le_of_ble_eq_true rfl) (Nat.le_refl _) (by omega) (by omega) ?_
  refine sp_X12_market (I := I1) (w := (xs (i + 1).toNat).toInt) (cs := h.cs) (hA := q7) (hb := h.iv.2.1) (hd := qm) (hw := (rg_x _)) (hn := (by omega)) (hp := fun J f2 m2 => ?_)
  have k2 : KR I1 J := f2.kr
  have e7 : J 307 = A := f2.k7.trans q7
  have hJ : LJ a1 a2 S J R := ⟨_, _, _, _, _, h.step k1 v1 d1 k2 m2 e7 ht⟩
  refine y_same 1488 dL_law_1326 (by decide) ?_
  exact nx _ _ _ _ _ (by omega) (by omega) hJ
theorem lc_gain {b0 Ln : Nat} {xs : Nat → Int32} {a1 a2 : Nat} {B : Nat → Int} {t : Nat → Int} {l : Nat} {i : Int} (h : LI a1 a2 S I R A B tx t l) (hL : Ln ≤ 3072) (hi : 0 ≤ i ∧ i + 6 ≤ Ln) (hk : k + 3 ≤ 600000) (hj : j + 403 ≤ 7302250) (nx : Nx b0 Ln xs a1 a2 i k j) : LwP b0 Ln xs 1300 600000 7302250 mL_law PL 1331 (lvL4 b0 a1 a2 i) [] k j S I R := by
  refine y_aload_n (i := 1) dL_law_1331 rfl ?_
  refine y_cV0 (n1 := 1299) (mc1 := 0) (ms1 := 0) (ci := 11) dL_law_1332 cv_RL_172 (k_ob_0 h.cs) rfl h.ad1 (Nat.le_of_ble_eq_true rfl) (Nat.le_refl _) (by omega) (by omega) ?_
  refine sp_X11_gain (cs := h.cs) (hc := h.iv.1) (hb := h.iv.2.1) (hd := h.dk) (hn := (by omega)) (hp := fun I1 f1 d1 => ?_)
  have k1 : KC I I1 := f1.kc
  have v1 : CIv S R I1 A tx := ⟨ClW_fr (fun c g1 g2 => f1 c (by omega) (by omega) (by omega)) h.iv.1, h.iv.2.1, WTx_fr (fun c g => f1 c (by omega) (by omega) (by omega)) h.iv.2.2.1, by unfold SK; rw [f1 281 (by omega) (by omega) (by omega)]; exact h.iv.2.2.2⟩
  have ht : A 1 = A 1 := rfl
  have q7 : I1 307 = A := (k1 307 (by omega)).trans h.rA
  have q9 : RTx (I1 309) A tx := by rw [k1 309 (by omega)]; exact h.rt
  have q23 : I1 306 23 = 1 := by rw [k1 306 (by omega)]; exact h.z23
  have qm : DM I1 := h.dm.fr (k1 323 (by omega)) (k1 324 (by omega))
  refine y_aload_n (i := 2) dL_law_1335 rfl ?_
  refine y_cV0 (n1 := 1299) (mc1 := 0) (ms1 := 0) (ci := 12) dL_law_1336 cv_RL_175 (k_ob_306 h.cs) rfl h.ad2 (Nat.le_of_ble_eq_true rfl) (Nat.le_refl _) (by omega) (by omega) ?_
  refine sp_X12_gain (I := I1) (cs := h.cs) (hA := q7) (hb := h.iv.2.1) (hd := qm) (hn := (by omega)) (hp := fun J f2 m2 => ?_)
  have k2 : KR I1 J := f2.kr
  have e7 : J 307 = A := f2.k7.trans q7
  have hJ : LJ a1 a2 S J R := ⟨_, _, _, _, _, h.step k1 v1 d1 k2 m2 e7 ht⟩
  refine y_same 1488 dL_law_1339 (by decide) ?_
  exact nx _ _ _ _ _ (by omega) (by omega) hJ
theorem lc_said {b0 Ln : Nat} {xs : Nat → Int32} {a1 a2 : Nat} {B : Nat → Int} {t : Nat → Int} {l : Nat} {i : Int} (h : LI a1 a2 S I R A B tx t l) (hL : Ln ≤ 3072) (hi : 0 ≤ i ∧ i + 6 ≤ Ln) (hk : k + 3 ≤ 600000) (hj : j + 403 ≤ 7302250) (nx : Nx b0 Ln xs a1 a2 i k j) : LwP b0 Ln xs 1300 600000 7302250 mL_law PL 1344 (lvL4 b0 a1 a2 i) [] k j S I R := by
  refine y_aload_n (i := 1) dL_law_1344 rfl ?_
  refine y_arg (z := i) (q := 1) dL_law_1345 dL_law_1346 dL_law_1347 dL_law_1348 dL_law_1349 rfl rfl (by omega) (by omega) hL ?_
  refine y_arg (z := i) (q := 2) dL_law_1350 dL_law_1351 dL_law_1352 dL_law_1353 dL_law_1354 rfl rfl (by omega) (by omega) hL ?_
  refine y_cV2 (n1 := 1299) (mc1 := 0) (ms1 := 0) (ci := 11) dL_law_1355 cv_RL_176 (k_ob_0 h.cs) rfl h.ad1 (Nat.le_of_ble_eq_true rfl) (Nat.le_refl _) (by omega) (by omega) ?_
  refine sp_X11_said (q := (xs (i + 1).toNat).toInt) (d := (xs (i + 2).toNat).toInt) (cs := h.cs) (hc := h.iv.1) (hb := h.iv.2.1) (hq := (rg_x _)) (hd := (rg_x _)) (hn := (by omega)) (hp := fun I1 c1 f1 => ?_)
  have k1 : KC I I1 := f1.kc
  have v1 := h.iv.w f1 c1 (BA_said h.iv.2.1) (f_said_t)
  have ht := (f_said_t : (f_said A ((xs (i + 1).toNat).toInt) ((xs (i + 2).toNat).toInt)).2 1 = A 1)
  have d1 := f1.kd h.dk
  have q7 : I1 307 = A := (k1 307 (by omega)).trans h.rA
  have q9 : RTx (I1 309) A tx := by rw [k1 309 (by omega)]; exact h.rt
  have q23 : I1 306 23 = 1 := by rw [k1 306 (by omega)]; exact h.z23
  have qm : DM I1 := h.dm.fr (k1 323 (by omega)) (k1 324 (by omega))
  refine y_aload_n (i := 2) dL_law_1358 rfl ?_
  refine y_arg (z := i) (q := 1) dL_law_1359 dL_law_1360 dL_law_1361 dL_law_1362 dL_law_1363 rfl rfl (by omega) (by omega) hL ?_
  refine y_arg (z := i) (q := 2) dL_law_1364 dL_law_1365 dL_law_1366 dL_law_1367 dL_law_1368 rfl rfl (by omega) (by omega) hL ?_
  refine y_cV2 (n1 := 1299) (mc1 := 0) (ms1 := 0) (ci := 12) dL_law_1369 cv_RL_179 (k_ob_306 h.cs) rfl h.ad2 (Nat.le_of_ble_eq_true rfl) (Nat.le_refl _) (by omega) (by omega) ?_
  refine sp_X12_said (I := I1) (q := (xs (i + 1).toNat).toInt) (d := (xs (i + 2).toNat).toInt) (cs := h.cs) (hA := q7) (hb := h.iv.2.1) (hq := (rg_x _)) (hd := (rg_x _)) (hn := (by omega)) (hp := fun J e7 f2 => ?_)
  have k2 : KR I1 J := f2.kr
  have m2 := f2.km qm
  have hJ : LJ a1 a2 S J R := ⟨_, _, _, _, _, h.step k1 v1 d1 k2 m2 e7 ht⟩
  refine y_same 1488 dL_law_1372 (by decide) ?_
  exact nx _ _ _ _ _ (by omega) (by omega) hJ
theorem lc_whose {b0 Ln : Nat} {xs : Nat → Int32} {a1 a2 : Nat} {B : Nat → Int} {t : Nat → Int} {l : Nat} {i : Int} (h : LI a1 a2 S I R A B tx t l) (hL : Ln ≤ 3072) (hi : 0 ≤ i ∧ i + 6 ≤ Ln) (hk : k + 3 ≤ 600000) (hj : j + 403 ≤ 7302250) (nx : Nx b0 Ln xs a1 a2 i k j) : LwP b0 Ln xs 1300 600000 7302250 mL_law PL 1377 (lvL4 b0 a1 a2 i) [] k j S I R := by
  refine y_aload_n (i := 1) dL_law_1377 rfl ?_
  refine y_cV0 (n1 := 1299) (mc1 := 0) (ms1 := 0) (ci := 11) dL_law_1378 cv_RL_180 (k_ob_0 h.cs) rfl h.ad1 (Nat.le_of_ble_eq_true rfl) (Nat.le_refl _) (by omega) (by omega) ?_
  refine sp_X11_whose (cs := h.cs) (hv := h.iv) (hn := (by omega)) (hp := fun I1 f1 s1 => ?_)
  have k1 : KC I I1 := f1.kc
  have v1 := h.iv.l f1 s1
  have ht : A 1 = A 1 := rfl
  have d1 := f1.kd h.dk
  have q7 : I1 307 = A := (k1 307 (by omega)).trans h.rA
  have q9 : RTx (I1 309) A tx := by rw [k1 309 (by omega)]; exact h.rt
  have q23 : I1 306 23 = 1 := by rw [k1 306 (by omega)]; exact h.z23
  have qm : DM I1 := h.dm.fr (k1 323 (by omega)) (k1 324 (by omega))
  refine y_aload_n (i := 2) dL_law_1381 rfl ?_
  refine y_cV0 (n1 := 1299) (mc1 := 0) (ms1 := 0) (ci := 12) dL_law_1382 cv_RL_183 (k_ob_306 h.cs) rfl h.ad2 (Nat.le_of_ble_eq_true rfl) (Nat.le_refl _) (by omega) (by omega) ?_
  refine sp_X12_whose (I := I1) (cs := h.cs) (hA := q7) (hb := h.iv.2.1) (hT := q9) (hn := (by omega)) (hp := fun J f2 => ?_)
  have k2 : KR I1 J := f2.kr
  have e7 : J 307 = A := f2.k7.trans q7
  have m2 := f2.km qm
  have hJ : LJ a1 a2 S J R := ⟨_, _, _, _, _, h.step k1 v1 d1 k2 m2 e7 ht⟩
  refine y_same 1488 dL_law_1385 (by decide) ?_
  exact nx _ _ _ _ _ (by omega) (by omega) hJ
theorem lc_silent {b0 Ln : Nat} {xs : Nat → Int32} {a1 a2 : Nat} {B : Nat → Int} {t : Nat → Int} {l : Nat} {i : Int} (h : LI a1 a2 S I R A B tx t l) (hL : Ln ≤ 3072) (hi : 0 ≤ i ∧ i + 6 ≤ Ln) (hk : k + 3 ≤ 600000) (hj : j + 403 ≤ 7302250) (nx : Nx b0 Ln xs a1 a2 i k j) : LwP b0 Ln xs 1300 600000 7302250 mL_law PL 1403 (lvL4 b0 a1 a2 i) [] k j S I R := by
  refine y_aload_n (i := 1) dL_law_1403 rfl ?_
  refine y_cV0 (n1 := 1299) (mc1 := 0) (ms1 := 0) (ci := 11) dL_law_1404 cv_RL_188 (k_ob_0 h.cs) rfl h.ad1 (Nat.le_of_ble_eq_true rfl) (Nat.le_refl _) (by omega) (by omega) ?_
  refine sp_X11_silent (cs := h.cs) (hv := h.iv) (hn := (by omega)) (hp := fun I1 v1 f1 => ?_)
  have k1 : KC I I1 := f1.kc
  have ht : A 1 = A 1 := rfl
  have d1 := f1.kd h.dk
  have q7 : I1 307 = A := (k1 307 (by omega)).trans h.rA
  have q9 : RTx (I1 309) A tx := by rw [k1 309 (by omega)]; exact h.rt
  have q23 : I1 306 23 = 1 := by rw [k1 306 (by omega)]; exact h.z23
  have qm : DM I1 := h.dm.fr (k1 323 (by omega)) (k1 324 (by omega))
  refine y_aload_n (i := 2) dL_law_1407 rfl ?_
  refine y_cV0 (n1 := 1299) (mc1 := 0) (ms1 := 0) (ci := 12) dL_law_1408 cv_RL_191 (k_ob_306 h.cs) rfl h.ad2 (Nat.le_of_ble_eq_true rfl) (Nat.le_refl _) (by omega) (by omega) ?_
  refine sp_X12_silent (I := I1) (cs := h.cs) (hA := q7) (hb := h.iv.2.1) (hn := (by omega)) (hp := ?_)
  have k2 : KR I1 I1 := KR.rf
  have m2 := qm
  have e7 := q7
  have hJ : LJ a1 a2 S I1 R := ⟨_, _, _, _, _, h.step k1 v1 d1 k2 m2 e7 ht⟩
  refine y_same 1488 dL_law_1411 (by decide) ?_
  exact nx _ _ _ _ _ (by omega) (by omega) hJ
theorem lc_ledger {b0 Ln : Nat} {xs : Nat → Int32} {a1 a2 : Nat} {B : Nat → Int} {t : Nat → Int} {l : Nat} {i : Int} (h : LI a1 a2 S I R A B tx t l) (hL : Ln ≤ 3072) (hi : 0 ≤ i ∧ i + 6 ≤ Ln) (hk : k + 3 ≤ 600000) (hj : j + 403 ≤ 7302250) (nx : Nx b0 Ln xs a1 a2 i k j) : LwP b0 Ln xs 1300 600000 7302250 mL_law PL 1416 (lvL4 b0 a1 a2 i) [] k j S I R := by
  refine y_aload_n (i := 1) dL_law_1416 rfl ?_
  refine y_arg (z := i) (q := 1) dL_law_1417 dL_law_1418 dL_law_1419 dL_law_1420 dL_law_1421 rfl rfl (by omega) (by omega) hL ?_
  refine y_cV1 (n1 := 1299) (mc1 := 0) (ms1 := 0) (ci := 11) dL_law_1422 cv_RL_192 (k_ob_0 h.cs) rfl h.ad1 (Nat.le_of_ble_eq_true rfl) (Nat.le_refl _) (by omega) (by omega) ?_
  refine sp_X11_ledger (w := (xs (i + 1).toNat).toInt) (cs := h.cs) (hc := h.iv.1) (hb := h.iv.2.1) (hw := (rg_x _)) (hn := (by omega)) (hp := ?_)
  have k1 : KC I I := KC.rf
  have v1 := h.iv
  have d1 := h.dk
  have ht : A 1 = A 1 := rfl
  have q7 : I 307 = A := (k1 307 (by omega)).trans h.rA
  have q9 : RTx (I 309) A tx := by rw [k1 309 (by omega)]; exact h.rt
  have q23 : I 306 23 = 1 := by rw [k1 306 (by omega)]; exact h.z23
  have qm : DM I := h.dm.fr (k1 323 (by omega)) (k1 324 (by omega))
  refine y_aload_n (i := 2) dL_law_1425 rfl ?_
  refine y_arg (z := i) (q := 1) dL_law_1426 dL_law_1427 dL_law_1428 dL_law_1429 dL_law_1430 rfl rfl (by omega) (by omega) hL ?_
  refine y_cV1 (n1 := 1299) (mc1 := 0) (ms1 := 0) (ci := 12) dL_law_1431 cv_RL_195 (k_ob_306 h.cs) rfl h.ad2 (Nat.le_of_ble_eq_true rfl) (Nat.le_refl _) (by omega) (by omega) ?_
  refine sp_X12_ledger (I := I) (w := (xs (i + 1).toNat).toInt) (cs := h.cs) (hA := q7) (hb := h.iv.2.1) (hk := (BK_of h.iv.1)) (hw := (rg_x _)) (hn := (by omega)) (hp := ?_)
  have k2 : KR I I := KR.rf
  have m2 := qm
  have e7 := q7
  have hJ : LJ a1 a2 S I R := ⟨_, _, _, _, _, h.step k1 v1 d1 k2 m2 e7 ht⟩
  refine y_same 1488 dL_law_1434 (by decide) ?_
  exact nx _ _ _ _ _ (by omega) (by omega) hJ
end Lw3
