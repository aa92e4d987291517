section Str
variable {n mc ms : Nat} {M : Md} {pc : Nat} {lv : List (Nat × Value)} {st : List Value} {k j : Nat} {Post : PT} {S : Sh} {I : CI} {R : CR} {A : Nat → Int} {tx : Nat → Nat → Int}
abbrev lnK (t : Nat) : Nat := txLs.getD t 0
def byK (t i : Nat) : Int := ((txBs.getD t []).getD i 0).toInt
theorem fl_9 : Cond.fieldLink RJ0 9 "java/lang/String" "value" "[B" ∈ bigW := bw_in (lwt_9 (List.mem_of_getElem? (i := 128) rfl)) rfl
theorem fl_15 : Cond.fieldLink RJ0 15 "java/lang/String" "coder" "B" ∈ bigW := bw_in (lwt_9 (List.mem_of_getElem? (i := 129) rfl)) rfl
theorem fl_38 : Cond.fieldLink RJ0 38 "java/lang/String" "COMPACT_STRINGS" "Z" ∈ bigW := bw_in (lwt_3 (List.mem_of_getElem? (i := 57) rfl)) rfl
theorem fl_1053 : Cond.fieldLink RJ0 1053 "jdk/internal/util/Preconditions" "SIOOBE_FORMATTER" "Ljava/util/function/BiFunction;" ∈ bigW := bw_in (lwt_3 (List.mem_of_getElem? (i := 73) rfl)) rfl
theorem x_ldcS0 (hM : M.1.cls = RX5) (d : decode M.2.1 pc = .ok (.ldc 94, 2)) (h : WP n mc ms M Post (pc + 2) lv (.ref (S.2.2.2.2 0) :: st) k j S I R) : WP n mc ms M Post pc lv st k j S I R := by
  intro l p e s m args below meth c D cy A H locs ls C hl hP hD hS
  refine va_ldcS C.1 C.2.1 (own := RX5) (by rw [← hM]; exact C.2.2.2.2.2.1) C.2.2.2.2.2.2.2.2.1.2.2.2.2.2.1 d ?_
  exact h l p e s m args below meth c D cy A H locs ls C hl hP hD hS
theorem x_ldcS1 (hM : M.1.cls = RX5) (d : decode M.2.1 pc = .ok (.ldc 114, 2)) (h : WP n mc ms M Post (pc + 2) lv (.ref (S.2.2.2.2 1) :: st) k j S I R) : WP n mc ms M Post pc lv st k j S I R := by
  intro l p e s m args below meth c D cy A H locs ls C hl hP hD hS
  refine va_ldcS C.1 C.2.1 (own := RX5) (by rw [← hM]; exact C.2.2.2.2.2.1) C.2.2.2.2.2.2.2.2.1.2.2.2.2.2.2.1 d ?_
  exact h l p e s m args below meth c D cy A H locs ls C hl hP hD hS
theorem x_getS9 {t : Nat} (ht : t < 2) (hM : M.1.cls = RJ0) (d : decode M.2.1 pc = .ok (.getfield 9, 3)) (h : WP n mc ms M Post (pc + 3) lv (.ref (S.2.2.2.2 (2 + t)) :: st) k j S I R) : WP n mc ms M Post pc lv (.ref (S.2.2.2.2 t) :: st) k j S I R := by
  intro l p e s m args below meth c D cy A H locs ls C hl hP hD hS
  refine vk_getf C.1 C.2.1 (C.2.2.2.2.2.2.2.2.1.2.2.2.2.1.1 t ht).2.2.1 hS (own := RJ0) (by rw [← hM]; exact C.2.2.2.2.2.1) (C.2.2.2.2.2.2.2.1 _ (List.mem_cons_of_mem _ fl_9)) (fun x h => h) d ?_
  exact h l p e s m args below meth c D cy A H locs ls C hl hP hD hS
theorem x_getS15 {t : Nat} (ht : t < 2) (hM : M.1.cls = RJ0) (d : decode M.2.1 pc = .ok (.getfield 15, 3)) (h : WP n mc ms M Post (pc + 3) lv (.int (iI 0) :: st) k j S I R) : WP n mc ms M Post pc lv (.ref (S.2.2.2.2 t) :: st) k j S I R := by
  intro l p e s m args below meth c D cy A H locs ls C hl hP hD hS
  refine vk_getf C.1 C.2.1 (C.2.2.2.2.2.2.2.2.1.2.2.2.2.1.1 t ht).2.1 hS (own := RJ0) (by rw [← hM]; exact C.2.2.2.2.2.1) (C.2.2.2.2.2.2.2.1 _ (List.mem_cons_of_mem _ fl_15)) (fun x h => h) d ?_
  exact h l p e s m args below meth c D cy A H locs ls C hl hP hD hS
theorem x_getZ38 (hM : M.1.cls = RJ0) (d : decode M.2.1 pc = .ok (.getstatic 38, 3)) (h : WP n mc ms M Post (pc + 3) lv (.int (iI 1) :: st) k j S I R) : WP n mc ms M Post pc lv st k j S I R := by
  intro l p e s m args below meth c D cy A H locs ls C hl hP hD hS
  refine va_gets C.1 C.2.1 C.2.2.2.2.2.2.2.2.1.2.2.2.2.2.2.2.1 hS (own := RJ0) (by rw [← hM]; exact C.2.2.2.2.2.1) (C.2.2.2.2.2.2.2.1 _ (List.mem_cons_of_mem _ fl_38)) (fun x h => h) d ?_
  exact h l p e s m args below meth c D cy A H locs ls C hl hP hD hS
theorem x_getZq (hM : M.1.cls = RJ0) (d : decode M.2.1 pc = .ok (.getstatic 1053, 3)) (h : ∀ v : Value, (v = .null ∨ ∃ t, v = .ref t) → WP n mc ms M Post (pc + 3) lv (v :: st) k j S I R) : WP n mc ms M Post pc lv st k j S I R := by
  intro l p e s m args below meth c D cy A H locs ls C hl hP hD hS
  rcases C.2.2.2.2.2.2.2.2.1.2.2.2.2.2.2.2.2 with q | ⟨t, q⟩
  · refine va_gets C.1 C.2.1 q hS (own := RJ0) (by rw [← hM]; exact C.2.2.2.2.2.1) (C.2.2.2.2.2.2.2.1 _ (List.mem_cons_of_mem _ fl_1053)) (fun x h => h) d ?_
    exact h _ (Or.inl rfl) l p e s m args below meth c D cy A H locs ls C hl hP hD hS
  · refine va_gets C.1 C.2.1 q hS (own := RJ0) (by rw [← hM]; exact C.2.2.2.2.2.1) (C.2.2.2.2.2.2.2.1 _ (List.mem_cons_of_mem _ fl_1053)) (fun x h => h) d ?_
    exact h _ (Or.inr ⟨t, rfl⟩) l p e s m args below meth c D cy A H locs ls C hl hP hD hS
theorem x_alenS {t : Nat} (ht : t < 2) (d : decode M.2.1 pc = .ok (.arraylength, 1)) (h : WP n mc ms M Post (pc + 1) lv (.int (iI ((lnK t : Nat) : Int)) :: st) k j S I R) : WP n mc ms M Post pc lv (.ref (S.2.2.2.2 (2 + t)) :: st) k j S I R := by
  intro l p e s m args below meth c D cy A H locs ls C hl hP hD hS
  refine va_tlen C.1 C.2.1 (C.2.2.2.2.2.2.2.2.1.2.2.2.2.1.1 t ht).2.2.2 hS (v := iI ((lnK t : Nat) : Int)) (by rcases (show t = 0 ∨ t = 1 by omega) with rfl | rfl <;> rfl) d ?_
  exact h l p e s m args below meth c D cy A H locs ls C hl hP hD hS
theorem x_baloadS {t : Nat} {z : Int} (ht : t < 2) (hz : 0 ≤ z ∧ z < (lnK t : Nat)) (d : decode M.2.1 pc = .ok (.baload, 1)) (h : WP n mc ms M Post (pc + 1) lv (.int (iI (byK t z.toNat)) :: st) k j S I R) : WP n mc ms M Post pc lv (.int (iI z) :: .ref (S.2.2.2.2 (2 + t)) :: st) k j S I R := by
  intro l p e s m args below meth c D cy A H locs ls C hl hP hD hS
  have hl2 : lnK t ≤ 121 := by rcases (show t = 0 ∨ t = 1 by omega) with rfl | rfl <;> decide
  refine va_tb C.1 C.2.1 (C.2.2.2.2.2.2.2.2.1.2.2.2.2.1.1 t ht).2.2.2 hS (iI_in hz.1 hz.2 (by omega)) (v := .int (iI (byK t z.toNat))) (by rw [iI_clamp hz.1 (by omega)]; unfold byK; rw [← iI_of]) d ?_
  exact h l p e s m args below meth c D cy A H locs ls C hl hP hD hS
theorem i2c_eq : ∀ x : Fin 256, ((iI ((x : Nat) : Int)).toUInt32 % 65536).toInt32 = iI ((x : Nat) : Int) := by decide +kernel
theorem i2b_eq : ∀ x : Fin 256, (iI ((x : Nat) : Int)).toInt8.toInt32 = iI (if ((x : Nat) : Int) < 128 then ((x : Nat) : Int) else ((x : Nat) : Int) - 256) := by decide +kernel
theorem x_i2c {x : Int} (hx : 0 ≤ x ∧ x < 256) (d : decode M.2.1 pc = .ok (.i2c, 1)) (h : WP n mc ms M Post (pc + 1) lv (.int (iI x) :: st) k j S I R) : WP n mc ms M Post pc lv (.int (iI x) :: st) k j S I R := by
  intro l p e s m args below meth c D cy A H locs ls C hl hP hD hS
  refine lv_i2c C.1 C.2.1 d (v := iI x) (by have := i2c_eq ⟨x.toNat, by omega⟩; rwa [show ((x.toNat : Nat) : Int) = x by omega] at this) ?_
  exact h l p e s m args below meth c D cy A H locs ls C hl hP hD hS
theorem x_i2b {x : Int} (hx : 0 ≤ x ∧ x < 256) (d : decode M.2.1 pc = .ok (.i2b, 1)) (h : WP n mc ms M Post (pc + 1) lv (.int (iI (if x < 128 then x else x - 256)) :: st) k j S I R) : WP n mc ms M Post pc lv (.int (iI x) :: st) k j S I R := by
  intro l p e s m args below meth c D cy A H locs ls C hl hP hD hS
  refine lv_i2b C.1 C.2.1 d (v := iI (if x < 128 then x else x - 256)) (by have := i2b_eq ⟨x.toNat, by omega⟩; rwa [show ((x.toNat : Nat) : Int) = x by omega] at this) ?_
  exact h l p e s m args below meth c D cy A H locs ls C hl hP hD hS
theorem ch_nar {x : Int} (hx : 0 ≤ x ∧ x < 256) : narrow FieldType.char (.int (iI x)) = .int (iI x) := by
  have := i2c_eq ⟨x.toNat, by omega⟩
  rw [show ((x.toNat : Nat) : Int) = x by omega] at this
  exact congrArg Value.int this
theorem x_creturn {x : Int} (hx : 0 ≤ x ∧ x < 256) (d : decode M.2.1 pc = .ok (.ireturn, 1)) (hret : M.2.2.2 = some .char) (hk : k ≤ mc) (hj : j ≤ ms) (h : Post (some (.int (iI x))) S I R) : WP n mc ms M Post pc lv [.int (iI x)] k j S I R := by
  intro l p e s m args below meth c D cy A H locs ls C hl hP hD hS
  refine W.widen hk hj ?_
  have hlocks := C.2.2.2.2.1
  exact W.zret C.1 C.2.1 (C.2.2.2.1.trans hret) (ty := .char) (ch_nar hx) (fun t ht hW => ⟨⟨_, S, I, R, rfl, h, by rw [ht]; exact hP, hD, rfl⟩, hS.F ht⟩) hS.2.2 d
theorem x_breturn {x : Int} (hx : x = 0) (d : decode M.2.1 pc = .ok (.ireturn, 1)) (hret : M.2.2.2 = some .byte) (hk : k ≤ mc) (hj : j ≤ ms) (h : Post (some (.int (iI x))) S I R) : WP n mc ms M Post pc lv [.int (iI x)] k j S I R := by
  intro l p e s m args below meth c D cy A H locs ls C hl hP hD hS
  refine W.widen hk hj ?_
  have hlocks := C.2.2.2.2.1
  exact W.zret C.1 C.2.1 (C.2.2.2.1.trans hret) (ty := .byte) (by subst hx; rfl) (fun t ht hW => ⟨⟨_, S, I, R, rfl, h, by rw [ht]; exact hP, hD, rfl⟩, hS.F ht⟩) hS.2.2 d
theorem x_callT {M1 : Md} {idx t n1 mc1 ms1 : Nat} (As rest : List Value) {st0 : List Value} (d : decode M.2.1 pc = .ok (.invokevirtual idx, 3)) (cv : CVf M.1.cls idx M1 As.length) (ht : t < 2) (hc : M1.1.cls = "java/lang/String") (hst : st0 = As.reverse ++ .ref (S.2.2.2.2 t) :: rest) (hrest : (rest.map fun v => v.category).sum ≤ 8) (hn : n1 + 1 ≤ n) (hk : k + mc1 ≤ mc) (hj : j + ms1 ≤ ms) (h : Call n1 mc1 ms1 M1 (.ref (S.2.2.2.2 t) :: As) S I R (fun v S' I' R' => WP n mc ms M Post (pc + 3) lv (v.toList ++ rest) (k + mc1) (j + ms1) S' I' R')) : WP n mc ms M Post pc lv st0 k j S I R := by
  intro l p e s m args below meth c D cy A H locs ls C hl hP hD hS
  refine WP.after (fun _ _ _ _ q => q) C hl hD hS (va_runV (As := As) (rest := rest) ⟨C.1, C.2.1, C.2.2.1, C.2.2.2.2.2.1, C.2.2.2.2.2.2.2.1⟩ (h l D cy H.size) ⟨callB_of As.length C.2.2.2.2.2.2.2.1 (gi_md cv.1.2.1) rfl rfl rfl (C.2.2.2.2.2.2.2.1 _ (List.mem_cons_of_mem _ cv.1.1)) (C.2.2.2.2.2.2.2.1 _ (List.mem_cons_of_mem _ cv.2.1)) cv.1.2.2.2 (rm_ok hn cv.1.2.2.1), (C.2.2.2.2.2.2.2.1 _ (List.mem_cons_of_mem _ cv.2.2.1)), (C.2.2.2.2.2.2.2.1 _ (List.mem_cons_of_mem _ cv.2.2.2))⟩ ⟨fun a U g mk q => by obtain ⟨q0, q1, qP, qK, qD⟩ := q; exact ⟨q0, q1, qP, qK.calls g mk a, qD⟩, by rw [hc]; exact vk_recv C.2.2.2.2.2.2.2.2.1.2.2.2.2.1 ht hS, fun U hU hW => ⟨rfl, by rw [hU], by rw [hU]; exact hP, C.2.2.2.2.2.2.2.2.1.move (locs := locs) (by rw [hU]; exact hS) hW (WP.free C hD hS), hD.weaken (fun _ _ _ _ => trivial)⟩⟩ rfl rfl hl.1 hst (lv_room hrest) d ⟨hk, hj⟩)
theorem byK_ok : ∀ (t : Fin 2) (i : Fin 121), andI (byK t i) 255 = byK t i ∧ 0 ≤ byK t i ∧ byK t i < 128 := by decide +kernel
theorem byK_b {t i : Nat} (ht : t < 2) (hi : i < lnK t) : andI (byK t i) 255 = byK t i ∧ 0 ≤ byK t i ∧ byK t i < 128 := by
  have hl2 : lnK t ≤ 121 := by rcases (show t = 0 ∨ t = 1 by omega) with rfl | rfl <;> decide
  exact byK_ok ⟨t, ht⟩ ⟨i, by omega⟩
theorem lnK_b {t : Nat} (ht : t < 2) : lnK t ≤ 121 ∧ shrI ((lnK t : Nat) : Int) 0 = ((lnK t : Nat) : Int) := by rcases (show t = 0 ∨ t = 1 by omega) with rfl | rfl <;> decide +kernel
theorem dJ0_coder_7d493_0 : decode prog_19_method_152_code 0 = .ok (.getstatic 38, 3) := by decide +kernel
theorem dJ0_coder_7d493_3 : decode prog_19_method_152_code 3 = .ok (.ifCond .eq 10, 3) := by decide +kernel
theorem dJ0_coder_7d493_6 : decode prog_19_method_152_code 6 = .ok (.aload_n 0, 1) := by decide +kernel
theorem dJ0_coder_7d493_7 : decode prog_19_method_152_code 7 = .ok (.getfield 15, 3) := by decide +kernel
theorem dJ0_coder_7d493_10 : decode prog_19_method_152_code 10 = .ok (.goto 4, 3) := by decide +kernel
theorem dJ0_coder_7d493_13 : decode prog_19_method_152_code 13 = .ok (.iconst 1, 1) := by decide +kernel
theorem dJ0_coder_7d493_14 : decode prog_19_method_152_code 14 = .ok (.ireturn, 1) := by decide +kernel
theorem sp_coder {t : Nat} (ht : t < 2) (hp : Post (some (.int (iI 0))) S I R) : Call n 0 0 mJ0_coder_7d493 [.ref (S.2.2.2.2 t)] S I R Post := by
  refine Call.of (by decide +kernel) (Nat.le_of_ble_eq_true rfl) ?_
  show WP _ _ _ _ _ 0 [(0, _)] [] 0 0 _ _ _
  refine x_getZ38 rfl dJ0_coder_7d493_0 ?_
  refine x_if_eq 13 dJ0_coder_7d493_3 (by decide) (by decide) (fun w => absurd w (by decide)) (fun _ => ?_)
  refine x_aload_n dJ0_coder_7d493_6 rfl ?_
  refine x_getS15 ht rfl dJ0_coder_7d493_7 ?_
  refine x_goto 14 dJ0_coder_7d493_10 (by decide) ?_
  exact x_breturn rfl dJ0_coder_7d493_14 rfl (Nat.le_refl _) (Nat.le_refl _) hp
theorem dJ0_isLatin1_aae02_0 : decode prog_19_method_154_code 0 = .ok (.getstatic 38, 3) := by decide +kernel
theorem dJ0_isLatin1_aae02_3 : decode prog_19_method_154_code 3 = .ok (.ifCond .eq 14, 3) := by decide +kernel
theorem dJ0_isLatin1_aae02_6 : decode prog_19_method_154_code 6 = .ok (.aload_n 0, 1) := by decide +kernel
theorem dJ0_isLatin1_aae02_7 : decode prog_19_method_154_code 7 = .ok (.getfield 15, 3) := by decide +kernel
theorem dJ0_isLatin1_aae02_10 : decode prog_19_method_154_code 10 = .ok (.ifCond .ne 7, 3) := by decide +kernel
theorem dJ0_isLatin1_aae02_13 : decode prog_19_method_154_code 13 = .ok (.iconst 1, 1) := by decide +kernel
theorem dJ0_isLatin1_aae02_14 : decode prog_19_method_154_code 14 = .ok (.goto 4, 3) := by decide +kernel
theorem dJ0_isLatin1_aae02_17 : decode prog_19_method_154_code 17 = .ok (.iconst 0, 1) := by decide +kernel
theorem dJ0_isLatin1_aae02_18 : decode prog_19_method_154_code 18 = .ok (.ireturn, 1) := by decide +kernel
theorem sp_latin {t : Nat} (ht : t < 2) (hp : Post (some (.int (iI 1))) S I R) : Call n 0 0 mJ0_isLatin1_aae02 [.ref (S.2.2.2.2 t)] S I R Post := by
  refine Call.of (by decide +kernel) (Nat.le_of_ble_eq_true rfl) ?_
  show WP _ _ _ _ _ 0 [(0, _)] [] 0 0 _ _ _
  refine x_getZ38 rfl dJ0_isLatin1_aae02_0 ?_
  refine x_if_eq 17 dJ0_isLatin1_aae02_3 (by decide) (by decide) (fun w => absurd w (by decide)) (fun _ => ?_)
  refine x_aload_n dJ0_isLatin1_aae02_6 rfl ?_
  refine x_getS15 ht rfl dJ0_isLatin1_aae02_7 ?_
  refine x_if_ne 17 dJ0_isLatin1_aae02_10 (by decide) (by decide) (fun w => absurd rfl w) (fun _ => ?_)
  refine x_iconst dJ0_isLatin1_aae02_13 ?_
  refine x_goto 18 dJ0_isLatin1_aae02_14 (by decide) ?_
  exact x_zreturn (Or.inr rfl) dJ0_isLatin1_aae02_18 rfl (Nat.le_refl _) (Nat.le_refl _) hp
theorem dJ0_length_8abf5_0 : decode prog_19_method_54_code 0 = .ok (.aload_n 0, 1) := by decide +kernel
theorem dJ0_length_8abf5_1 : decode prog_19_method_54_code 1 = .ok (.getfield 9, 3) := by decide +kernel
theorem dJ0_length_8abf5_4 : decode prog_19_method_54_code 4 = .ok (.arraylength, 1) := by decide +kernel
theorem dJ0_length_8abf5_5 : decode prog_19_method_54_code 5 = .ok (.aload_n 0, 1) := by decide +kernel
theorem dJ0_length_8abf5_6 : decode prog_19_method_54_code 6 = .ok (.invokevirtual 335, 3) := by decide +kernel
theorem dJ0_length_8abf5_9 : decode prog_19_method_54_code 9 = .ok (.ishr, 1) := by decide +kernel
theorem dJ0_length_8abf5_10 : decode prog_19_method_54_code 10 = .ok (.ireturn, 1) := by decide +kernel
theorem sp_length {t : Nat} (ht : t < 2) (hn : 1 ≤ n) (hp : Post (some (.int (iI ((lnK t : Nat) : Int)))) S I R) : Call n 0 0 mJ0_length_8abf5 [.ref (S.2.2.2.2 t)] S I R Post := by
  refine Call.of (by decide +kernel) (Nat.le_of_ble_eq_true rfl) ?_
  show WP _ _ _ _ _ 0 [(0, _)] [] 0 0 _ _ _
  refine x_aload_n dJ0_length_8abf5_0 rfl ?_
  refine x_getS9 ht rfl dJ0_length_8abf5_1 ?_
  refine x_alenS ht dJ0_length_8abf5_4 ?_
  refine x_aload_n dJ0_length_8abf5_5 rfl ?_
  refine x_callT (t := t) (mc1 := 0) (ms1 := 0) (n1 := n - 1) [] [_] dJ0_length_8abf5_6 cv_RJ0_335 ht rfl rfl (Nat.le_of_ble_eq_true rfl) (by omega) (Nat.le_refl _) (Nat.le_refl _) ?_
  refine sp_coder ht ?_
  refine x_ishr dJ0_length_8abf5_9 ?_
  rw [(lnK_b ht).2]
  exact x_ireturn dJ0_length_8abf5_10 rfl (Nat.le_refl _) (Nat.le_refl _) hp
theorem dJ3_checkIndex_8e157_0 : decode prog_24_method_11_code 0 = .ok (.iload_n 0, 1) := by decide +kernel
theorem dJ3_checkIndex_8e157_1 : decode prog_24_method_11_code 1 = .ok (.ifCond .lt 8, 3) := by decide +kernel
theorem dJ3_checkIndex_8e157_4 : decode prog_24_method_11_code 4 = .ok (.iload_n 0, 1) := by decide +kernel
theorem dJ3_checkIndex_8e157_5 : decode prog_24_method_11_code 5 = .ok (.iload_n 1, 1) := by decide +kernel
theorem dJ3_checkIndex_8e157_6 : decode prog_24_method_11_code 6 = .ok (.if_icmp .lt 10, 3) := by decide +kernel
theorem dJ3_checkIndex_8e157_9 : decode prog_24_method_11_code 9 = .ok (.aload_n 2, 1) := by decide +kernel
theorem dJ3_checkIndex_8e157_10 : decode prog_24_method_11_code 10 = .ok (.iload_n 0, 1) := by decide +kernel
theorem dJ3_checkIndex_8e157_11 : decode prog_24_method_11_code 11 = .ok (.iload_n 1, 1) := by decide +kernel
theorem dJ3_checkIndex_8e157_12 : decode prog_24_method_11_code 12 = .ok (.invokestatic 95, 3) := by decide +kernel
theorem dJ3_checkIndex_8e157_15 : decode prog_24_method_11_code 15 = .ok (.athrow, 1) := by decide +kernel
theorem dJ3_checkIndex_8e157_16 : decode prog_24_method_11_code 16 = .ok (.iload_n 0, 1) := by decide +kernel
theorem dJ3_checkIndex_8e157_17 : decode prog_24_method_11_code 17 = .ok (.ireturn, 1) := by decide +kernel
theorem sp_chk3 {i l : Int} {v : Value} (hv : v = .null ∨ ∃ t, v = .ref t) (h : 0 ≤ i ∧ i < l ∧ l < 2147483648) (hp : Post (some (.int (iI i))) S I R) : Call n 0 0 mJ3_checkIndex_8e157 [.int (iI i), .int (iI l), v] S I R Post := by
  rcases hv with rfl | ⟨t, rfl⟩
  · refine Call.of (by decide +kernel) (Nat.le_of_ble_eq_true rfl) ?_
    show WP _ _ _ _ _ 0 [(0, _), (1, _), (2, _)] [] 0 0 _ _ _
    refine x_iload_n dJ3_checkIndex_8e157_0 rfl ?_
    refine x_if_lt 9 dJ3_checkIndex_8e157_1 (by decide) (by omega) (fun w => by omega) (fun _ => ?_)
    refine x_iload_n dJ3_checkIndex_8e157_4 rfl ?_
    refine x_iload_n dJ3_checkIndex_8e157_5 rfl ?_
    refine x_icmp_lt 16 dJ3_checkIndex_8e157_6 (by decide) (by omega) (fun _ => ?_) (fun w => by omega)
    refine x_iload_n dJ3_checkIndex_8e157_16 rfl ?_
    exact x_ireturn dJ3_checkIndex_8e157_17 rfl (Nat.le_refl _) (Nat.le_refl _) hp
  · refine Call.of (by decide +kernel) (Nat.le_of_ble_eq_true rfl) ?_
    show WP _ _ _ _ _ 0 [(0, _), (1, _), (2, _)] [] 0 0 _ _ _
    refine x_iload_n dJ3_checkIndex_8e157_0 rfl ?_
    refine x_if_lt 9 dJ3_checkIndex_8e157_1 (by decide) (by omega) (fun w => by omega) (fun _ => ?_)
    refine x_iload_n dJ3_checkIndex_8e157_4 rfl ?_
    refine x_iload_n dJ3_checkIndex_8e157_5 rfl ?_
    refine x_icmp_lt 16 dJ3_checkIndex_8e157_6 (by decide) (by omega) (fun _ => ?_) (fun w => by omega)
    refine x_iload_n dJ3_checkIndex_8e157_16 rfl ?_
    exact x_ireturn dJ3_checkIndex_8e157_17 rfl (Nat.le_refl _) (Nat.le_refl _) hp
theorem dJ0_checkIndex_df160_0 : decode prog_19_method_155_code 0 = .ok (.iload_n 0, 1) := by decide +kernel
theorem dJ0_checkIndex_df160_1 : decode prog_19_method_155_code 1 = .ok (.iload_n 1, 1) := by decide +kernel
theorem dJ0_checkIndex_df160_2 : decode prog_19_method_155_code 2 = .ok (.getstatic 1053, 3) := by decide +kernel
theorem dJ0_checkIndex_df160_5 : decode prog_19_method_155_code 5 = .ok (.invokestatic 1059, 3) := by decide +kernel
theorem dJ0_checkIndex_df160_8 : decode prog_19_method_155_code 8 = .ok (.pop, 1) := by decide +kernel
theorem dJ0_checkIndex_df160_9 : decode prog_19_method_155_code 9 = .ok (.return_, 1) := by decide +kernel
theorem sp_chk {i l : Int} (hn : 1 ≤ n) (h : 0 ≤ i ∧ i < l ∧ l < 2147483648) (hp : Post none S I R) : Call n 0 0 mJ0_checkIndex_df160 [.int (iI i), .int (iI l)] S I R Post := by
  refine Call.of (by decide +kernel) (Nat.le_of_ble_eq_true rfl) ?_
  show WP _ _ _ _ _ 0 [(0, _), (1, _)] [] 0 0 _ _ _
  refine x_iload_n dJ0_checkIndex_df160_0 rfl ?_
  refine x_iload_n dJ0_checkIndex_df160_1 rfl ?_
  refine x_getZq rfl dJ0_checkIndex_df160_2 (fun v hv => ?_)
  refine x_callS (mc1 := 0) (ms1 := 0) (n1 := n - 1) [.int (iI i), .int (iI l), v] [] dJ0_checkIndex_df160_5 cv_RJ0_1059 rfl (Nat.le_of_ble_eq_true rfl) (by omega) (Nat.le_refl _) (Nat.le_refl _) ?_
  refine sp_chk3 hv h ?_
  refine x_pop dJ0_checkIndex_df160_8 rfl ?_
  exact x_return dJ0_checkIndex_df160_9 rfl (Nat.le_refl _) (Nat.le_refl _) hp
theorem dJ1_charAt_3b067_0 : decode prog_20_method_2_code 0 = .ok (.iload_n 1, 1) := by decide +kernel
theorem dJ1_charAt_3b067_1 : decode prog_20_method_2_code 1 = .ok (.aload_n 0, 1) := by decide +kernel
theorem dJ1_charAt_3b067_2 : decode prog_20_method_2_code 2 = .ok (.arraylength, 1) := by decide +kernel
theorem dJ1_charAt_3b067_3 : decode prog_20_method_2_code 3 = .ok (.invokestatic 9, 3) := by decide +kernel
theorem dJ1_charAt_3b067_6 : decode prog_20_method_2_code 6 = .ok (.aload_n 0, 1) := by decide +kernel
theorem dJ1_charAt_3b067_7 : decode prog_20_method_2_code 7 = .ok (.iload_n 1, 1) := by decide +kernel
theorem dJ1_charAt_3b067_8 : decode prog_20_method_2_code 8 = .ok (.baload, 1) := by decide +kernel
theorem dJ1_charAt_3b067_9 : decode prog_20_method_2_code 9 = .ok (.sipush 255, 3) := by decide +kernel
theorem dJ1_charAt_3b067_12 : decode prog_20_method_2_code 12 = .ok (.iand, 1) := by decide +kernel
theorem dJ1_charAt_3b067_13 : decode prog_20_method_2_code 13 = .ok (.i2c, 1) := by decide +kernel
theorem dJ1_charAt_3b067_14 : decode prog_20_method_2_code 14 = .ok (.ireturn, 1) := by decide +kernel
theorem sp_char1 {t : Nat} (ht : t < 2) {z : Int} (hz : 0 ≤ z ∧ z < (lnK t : Nat)) (hn : 2 ≤ n) (hp : Post (some (.int (iI (byK t z.toNat)))) S I R) : Call n 0 0 mJ1_charAt_3b067 [.ref (S.2.2.2.2 (2 + t)), .int (iI z)] S I R Post := by
  refine Call.of (by decide +kernel) (Nat.le_of_ble_eq_true rfl) ?_
  show WP _ _ _ _ _ 0 [(0, _), (1, _)] [] 0 0 _ _ _
  have hl2 := (lnK_b ht).1
  have hb2 := byK_b (t := t) (i := z.toNat) ht (by omega)
  refine x_iload_n dJ1_charAt_3b067_0 rfl ?_
  refine x_aload_n dJ1_charAt_3b067_1 rfl ?_
  refine x_alenS ht dJ1_charAt_3b067_2 ?_
  refine x_callS (mc1 := 0) (ms1 := 0) (n1 := n - 1) [.int (iI z), .int (iI ((lnK t : Nat) : Int))] [] dJ1_charAt_3b067_3 cv_RJ1_9 rfl (Nat.le_of_ble_eq_true rfl) (by omega) (Nat.le_refl _) (Nat.le_refl _) ?_
  refine sp_chk (by omega) (by omega) ?_
  refine x_aload_n dJ1_charAt_3b067_6 rfl ?_
  refine x_iload_n dJ1_charAt_3b067_7 rfl ?_
  refine x_baloadS ht hz dJ1_charAt_3b067_8 ?_
  refine x_sipush dJ1_charAt_3b067_9 (by decide) ?_
  refine x_iand dJ1_charAt_3b067_12 ?_
  rw [hb2.1]
  refine x_i2c (by omega) dJ1_charAt_3b067_13 ?_
  exact x_creturn (by omega) dJ1_charAt_3b067_14 rfl (Nat.le_refl _) (Nat.le_refl _) hp
theorem dJ0_charAt_5068e_0 : decode prog_19_method_56_code 0 = .ok (.aload_n 0, 1) := by decide +kernel
theorem dJ0_charAt_5068e_1 : decode prog_19_method_56_code 1 = .ok (.invokevirtual 492, 3) := by decide +kernel
theorem dJ0_charAt_5068e_4 : decode prog_19_method_56_code 4 = .ok (.ifCond .eq 12, 3) := by decide +kernel
theorem dJ0_charAt_5068e_7 : decode prog_19_method_56_code 7 = .ok (.aload_n 0, 1) := by decide +kernel
theorem dJ0_charAt_5068e_8 : decode prog_19_method_56_code 8 = .ok (.getfield 9, 3) := by decide +kernel
theorem dJ0_charAt_5068e_11 : decode prog_19_method_56_code 11 = .ok (.iload_n 1, 1) := by decide +kernel
theorem dJ0_charAt_5068e_12 : decode prog_19_method_56_code 12 = .ok (.invokestatic 495, 3) := by decide +kernel
theorem dJ0_charAt_5068e_15 : decode prog_19_method_56_code 15 = .ok (.ireturn, 1) := by decide +kernel
theorem dJ0_charAt_5068e_16 : decode prog_19_method_56_code 16 = .ok (.aload_n 0, 1) := by decide +kernel
theorem dJ0_charAt_5068e_17 : decode prog_19_method_56_code 17 = .ok (.getfield 9, 3) := by decide +kernel
theorem dJ0_charAt_5068e_20 : decode prog_19_method_56_code 20 = .ok (.iload_n 1, 1) := by decide +kernel
theorem dJ0_charAt_5068e_21 : decode prog_19_method_56_code 21 = .ok (.invokestatic 498, 3) := by decide +kernel
theorem dJ0_charAt_5068e_24 : decode prog_19_method_56_code 24 = .ok (.ireturn, 1) := by decide +kernel
theorem sp_charAt {t : Nat} (ht : t < 2) {z : Int} (hz : 0 ≤ z ∧ z < (lnK t : Nat)) (hn : 3 ≤ n) (hp : Post (some (.int (iI (byK t z.toNat)))) S I R) : Call n 0 0 mJ0_charAt_5068e [.ref (S.2.2.2.2 t), .int (iI z)] S I R Post := by
  refine Call.of (by decide +kernel) (Nat.le_of_ble_eq_true rfl) ?_
  show WP _ _ _ _ _ 0 [(0, _), (1, _)] [] 0 0 _ _ _
  have hl2 := (lnK_b ht).1
  have hb2 := byK_b (t := t) (i := z.toNat) ht (by omega)
  refine x_aload_n dJ0_charAt_5068e_0 rfl ?_
  refine x_callT (t := t) (mc1 := 0) (ms1 := 0) (n1 := n - 1) [] [] dJ0_charAt_5068e_1 cv_RJ0_492 ht rfl rfl (Nat.le_of_ble_eq_true rfl) (by omega) (Nat.le_refl _) (Nat.le_refl _) ?_
  refine sp_latin ht ?_
  refine x_if_eq 16 dJ0_charAt_5068e_4 (by decide) (by decide) (fun w => absurd w (by decide)) (fun _ => ?_)
  refine x_aload_n dJ0_charAt_5068e_7 rfl ?_
  refine x_getS9 ht rfl dJ0_charAt_5068e_8 ?_
  refine x_iload_n dJ0_charAt_5068e_11 rfl ?_
  refine x_callS (mc1 := 0) (ms1 := 0) (n1 := n - 1) [.ref (S.2.2.2.2 (2 + t)), .int (iI z)] [] dJ0_charAt_5068e_12 cv_RJ0_495 rfl (Nat.le_of_ble_eq_true rfl) (by omega) (Nat.le_refl _) (Nat.le_refl _) ?_
  refine sp_char1 ht hz (by omega) ?_
  exact x_creturn (by omega) dJ0_charAt_5068e_15 rfl (Nat.le_refl _) (Nat.le_refl _) hp
end Str
