section Str
variable {n mc ms : Nat} {M : Md} {pc : Nat} {lv : List (Nat × Value)} {st : List Value} {k j : Nat} {Post : PT} {S : Sh} {I : CI} {R : CR} {A : Nat → Int} {tx : Nat → Nat → Int}
abbrev lnK (t : Nat) : Nat := txLs.getD t 0
def byK (t i : Nat) : Int := ((txBs.getD t []).getD i 0).toInt
theorem fl_9 : Cond.fieldLink RJ0 9 "java/lang/String" "value" "[B" ∈ bigW := bw_in (lwt_9 (List.mem_of_getElem? (i := 128) rfl)) rfl
theorem fl_15 : Cond.fieldLink RJ0 15 "java/lang/String" "coder" "B" ∈ bigW := bw_in (lwt_9 (List.mem_of_getElem? (i := 129) rfl)) rfl
theorem fl_38 : Cond.fieldLink RJ0 38 "java/lang/String" "COMPACT_STRINGS" "Z" ∈ bigW := bw_in (lwt_3 (List.mem_of_getElem? (i := 57) rfl)) rfl
theorem fl_1053 : Cond.fieldLink RJ0 1053 "jdk/internal/util/Preconditions" "SIOOBE_FORMATTER" "Ljava/util/function/BiFunction;" ∈ bigW := bw_in (lwt_3 (List.mem_of_getElem? (i := 73) rfl)) rfl
theorem x_ldcS0 (hM : M.1.cls = RX5) (d : decode M.2.1 pc = .ok (.ldc 94, 2)) (h : WP n mc ms M Post (pc + 2) lv (.ref (S.2.2.2.2 0) :: st) k j S I R) : WP n mc ms M Post pc lv st k j S I R := by
  intro l p e s m args below meth c D cy A H locs ls C hl hP hD hS
  refine va_ldcS C.1 C.2.1 (own := RX5) (by rw [← hM]; exact C.2.2.2.2.2.1) C.2.2.2.2.2.2.2.2.1.2.2.2.2.2.1 d ?_
  exact h l p e s m args below meth c D cy A H locs ls C hl hP hD hS
theorem x_ldcS1 (hM : M.1.cls = RX5) (d : decode M.2.1 pc = .ok (.ldc 114, 2)) (h : WP n mc ms M Post (pc + 2) lv (.ref (S.2.2.2.2 1) :: st) k j S I R) : WP n mc ms M Post pc lv st k j S I R := by
  intro l p e s m args below meth c D cy A H locs ls C hl hP hD hS
  refine va_ldcS C.1 C.2.1 (own := RX5) (by rw [← hM]; exact C.2.2.2.2.2.1) C.2.2.2.2.2.2.2.2.1.2.2.2.2.2.2.1 d ?_
  exact h l p e s m args below meth c D cy A H locs ls C hl hP hD hS
theorem x_getS9 {t : Nat} (ht : t < 2) (hM : M.1.cls = RJ0) (d : decode M.2.1 pc = .ok (.getfield 9, 3)) (h : WP n mc ms M Post (pc + 3) lv (.ref (S.2.2.2.2 (2 + t)) :: st) k j S I R) : WP n mc ms M Post pc lv (.ref (S.2.2.2.2 t) :: st) k j S I R := by
  intro l p e s m args below meth c D cy A H locs ls C hl hP hD hS
  refine vk_getf C.1 C.2.1 (C.2.2.2.2.2.2.2.2.1.2.2.2.2.1.1 t ht).2.2.1 hS (own := RJ0) (by rw [← hM]; exact C.2.2.2.2.2.1) (C.2.2.2.2.2.2.2.1 _ (List.mem_cons_of_mem _ fl_9)) (fun x h => h) d ?_
  exact h l p e s m args below meth c D cy A H locs ls C hl hP hD hS
theorem x_getS15 {t : Nat} (ht : t < 2) (hM : M.1.cls = RJ0) (d : decode M.2.1 pc = .ok (.getfield 15, 3)) (h : WP n mc ms M Post (pc + 3) lv (.int (iI 0) :: st) k j S I R) : WP n mc ms M Post pc lv (.ref (S.2.2.2.2 t) :: st) k j S I R := by
  intro l p e s m args below meth c D cy A H locs ls C hl hP hD hS
  refine vk_getf C.1 C.2.1 (C.2.2.2.2.2.2.2.2.1.2.2.2.2.1.1 t ht).2.1 hS (own := RJ0) (by rw [← hM]; exact C.2.2.2.2.2.1) (C.2.2.2.2.2.2.2.1 _ (List.mem_cons_of_mem _ fl_15)) (fun x h => h) d ?_
  exact h l p e s m args below meth c D cy A H locs ls C hl hP hD hS
theorem x_getZ38 (hM : M.1.cls = RJ0) (d : decode M.2.1 pc = .ok (.getstatic 38, 3)) (h : WP n mc ms M Post (pc + 3) lv (.int (iI 1) :: st) k j S I R) : WP n mc ms M Post pc lv st k j S I R := by
  intro l p e s m args below meth c D cy A H locs ls C hl hP hD hS
  refine va_gets C.1 C.2.1 C.2.2.2.2.2.2.2.2.1.2.2.2.2.2.2.2.1 hS (own := RJ0) (by rw [← hM]; exact C.2.2.2.2.2.1) (C.2.2.2.2.2.2.2.1 _ (List.mem_cons_of_mem _ fl_38)) (fun x h => h) d ?_
  exact h l p e s m args below meth c D cy A H locs ls C hl hP hD hS
theorem x_getZq (hM : M.1.cls = RJ0) (d : decode M.2.1 pc = .ok (.getstatic 1053, 3)) (h : ∀ v : Value, (v = .null ∨ ∃ t, v = .ref t) → WP n mc ms M Post (pc + 3) lv (v :: st) k j S I R) : WP n mc ms M Post pc lv st k j S I R := by
  intro l p e s m args below meth c D cy A H locs ls C hl hP hD hS
  rcases C.2.2.2.2.2.2.2.2.1.2.2.2.2.2.2.2.2 with q | ⟨t, q⟩
  · refine va_gets C.1 C.2.1 q hS (own := RJ0) (by rw [← hM]; exact C.2.2.2.2.2.1) (C.2.2.2.2.2.2.2.1 _ (List.mem_cons_of_mem _ fl_1053)) (fun x h => h) d ?_
    exact h _ (Or.inl rfl) l p e s m args below meth c D cy A H locs ls C hl hP hD hS
  · refine va_gets C.1 C.2.1 q hS (own := RJ0) (by rw [← hM]; exact C.2.2.2.2.2.1) (C.2.2.2.2.2.2.2.1 _ (List.mem_cons_of_mem _ fl_1053)) (fun x h => h) d ?_
    exact h _ (Or.inr ⟨t, rfl⟩) l p e s m args below meth c D cy A H locs ls C hl hP hD hS
theorem x_alenS {t : Nat} (ht : t < 2) (d : decode M.2.1 pc = .ok (.arraylength, 1)) (h : WP n mc ms M Post (pc + 1) lv (.int (iI ((lnK t : Nat) : Int)) :: st) k j S I R) : WP n mc ms M Post pc lv (.ref (S.2.2.2.2 (2 + t)) :: st) k j S I R := by
  intro l p e s m args below meth c D cy A H locs ls C hl hP hD hS
  refine va_tlen C.1 C.2.1 (C.2.2.2.2.2.2.2.2.1.2.2.2.2.1.1 t ht).2.2.2 hS (v := iI ((lnK t : Nat) : Int)) (by rcases (show t = 0 ∨ t = 1 by omega) with rfl | rfl <;> rfl) d ?_
  exact h l p e s m args below meth c D cy A H locs ls C hl hP hD hS
theorem x_baloadS {t : Nat} {z : Int} (ht : t < 2) (hz : 0 ≤ z ∧ z < (lnK t : Nat)) (d : decode M.2.1 pc = .ok (.baload, 1)) (h : WP n mc ms M Post (pc + 1) lv (.int (iI (byK t z.toNat)) :: st) k j S I R) : WP n mc ms M Post pc lv (.int (iI z) :: .ref (S.2.2.2.2 (2 + t)) :: st) k j S I R := by
  intro l p e s m args below meth c D cy A H locs ls C hl hP hD hS
  have hl2 : lnK t ≤ 121 := by rcases (show t = 0 ∨ t = 1 by omega) with rfl | rfl <;> decide
  refine va_tb C.1 C.2.1 (C.2.2.2.2.2.2.2.2.1.2.2.2.2.1.1 t ht).2.2.2 hS (iI_in hz.1 hz.2 (by omega)) (v := .int (iI (byK t z.toNat))) (by rw [iI_clamp hz.1 (by omega)]; unfold byK; rw [← iI_of]) d ?_
  exact h l p e s m args below meth c D cy A H locs ls C hl hP hD hS
theorem i2c_eq : ∀ x : Fin 256, ((iI ((x : Nat) : Int)).toUInt32 % 65536).toInt32 = iI ((x : Nat) : Int) := by decide +kernel
theorem i2b_eq : ∀ x : Fin 256, (iI ((x : Nat) : Int)).toInt8.toInt32 = iI (if ((x : Nat) : Int) < 128 then ((x : Nat) : Int) else ((x : Nat) : Int) - 256) := by decide +kernel
theorem x_i2c {x : Int} (hx : 0 ≤ x ∧ x < 256) (d : decode M.2.1 pc = .ok (.i2c, 1)) (h : WP n mc ms M Post (pc + 1) lv (.int (iI x) :: st) k j S I R) : WP n mc ms M Post pc lv (.int (iI x) :: st) k j S I R := by
  intro l p e s m args below meth c D cy A H locs ls C hl hP hD hS
  refine lv_i2c C.1 C.2.1 d (v := iI x) (by have := i2c_eq ⟨x.toNat, by omega⟩; rwa [show ((x.toNat : Nat) : Int) = x by omega] at this) ?_
  exact h l p e s m args below meth c D cy A H locs ls C hl hP hD hS
theorem x_i2b {x : Int} (hx : 0 ≤ x ∧ x < 256) (d : decode M.2.1 pc = .ok (.i2b, 1)) (h : WP n mc ms M Post (pc + 1) lv (.int (iI (if x < 128 then x else x - 256)) :: st) k j S I R) : WP n mc ms M Post pc lv (.int (iI x) :: st) k j S I R := by
  intro l p e s m args below meth c D cy A H locs ls C hl hP hD hS
  refine lv_i2b C.1 C.2.1 d (v := iI (if x < 128 then x else x - 256)) (by have := i2b_eq ⟨x.toNat, by omega⟩; rwa [show ((x.toNat : Nat) : Int) = x by omega] at this) ?_
  exact h l p e s m args below meth c D cy A H locs ls C hl hP hD hS
theorem ch_nar {x : Int} (hx : 0 ≤ x ∧ x < 256) : narrow FieldType.char (.int (iI x)) = .int (iI x) := by
  have := i2c_eq ⟨x.toNat, by omega⟩
  rw [show ((x.toNat : Nat) : Int) = x by omega] at this
  exact congrArg Value.int this
theorem x_creturn {x : Int} (hx : 0 ≤ x ∧ x < 256) (d : decode M.2.1 pc = .ok (.ireturn, 1)) (hret : M.2.2.2 = some .char) (hk : k ≤ mc) (hj : j ≤ ms) (h : Post (some (.int (iI x))) S I R) : WP n mc ms M Post pc lv [.int (iI x)] k j S I R := by
  intro l p e s m args below meth c D cy A H locs ls C hl hP hD hS
  refine W.widen hk hj ?_
  have hlocks := C.2.2.2.2.1
  exact W.zret C.1 C.2.1 (C.2.2.2.1.trans hret) (ty := .char) (ch_nar hx) (fun t ht hW => ⟨⟨_, S, I, R, rfl, h, by rw [ht]; exact hP, hD, rfl⟩, hS.F ht⟩) hS.2.2 d
theorem x_breturn {x : Int} (hx : x = 0) (d : decode M.2.1 pc = .ok (.ireturn, 1)) (hret : M.2.2.2 = some .byte) (hk : k ≤ mc) (hj : j ≤ ms) (h : Post (some (.int (iI x))) S I R) : WP n mc ms M Post pc lv [.int (iI x)] k j S I R := by
  intro l p e s m args below meth c D cy A H locs ls C hl hP hD hS
  refine W.widen hk hj ?_
  have hlocks := C.2.2.2.2.1
  exact W.zret C.1 C.2.1 (C.2.2.2.1.trans hret) (ty := .byte) (by subst hx; rfl) (fun t ht hW => ⟨⟨_, S, I, R, rfl, h, by rw [ht]; exact hP, hD, rfl⟩, hS.F ht⟩) hS.2.2 d
theorem x_callT {M1 : Md} {idx t n1 mc1 ms1 : Nat} (As rest : List Value) {st0 : List Value} (d : decode M.2.1 pc = .ok (.invokevirtual idx, 3)) (cv : CVf M.1.cls idx M1 As.length) (ht : t < 2) (hc : M1.1.cls = "java/lang/String") (hst : st0 = As.reverse ++ .ref (S.2.2.2.2 t) :: rest) (hrest : (rest.map fun v => v.category).sum ≤ 8) (hn : n1 + 1 ≤ n) (hk : k + mc1 ≤ mc) (hj : j + ms1 ≤ ms) (h : Call n1 mc1 ms1 M1 (.ref (S.2.2.2.2 t) :: As) S I R (fun v S' I' R' => WP n mc ms M Post (pc + 3) lv (v.toList ++ rest) (k + mc1) (j + ms1) S' I' R')) : WP n mc ms M Post pc lv st0 k j S I R := by
  intro l p e s m args below meth c D cy A H locs ls C hl hP hD hS
  refine WP.after (fun _ _ _ _ q => q) C hl hD hS (va_runV (As := As) (rest := rest) ⟨C.1, C.2.1, C.2.2.1, C.2.2.2.2.2.1, C.2.2.2.2.2.2.2.1⟩ (h l D cy H.size) ⟨callB_of As.length C.2.2.2.2.2.2.2.1 (gi_md cv.1.2.1) rfl rfl rfl (C.2.2.2.2.2.2.2.1 _ (List.mem_cons_of_mem _ cv.1.1)) (C.2.2.2.2.2.2.2.1 _ (List.mem_cons_of_mem _ cv.2.1)) cv.1.2.2.2 (rm_ok hn cv.1.2.2.1), (C.2.2.2.2.2.2.2.1 _ (List.mem_cons_of_mem _ cv.2.2.1)), (C.2.2.2.2.2.2.2.1 _ (List.mem_cons_of_mem _ cv.2.2.2))⟩ ⟨fun a U g mk q => by obtain ⟨q0, q1, qP, qK, qD⟩ := q; exact ⟨q0, q1, qP, qK.calls g mk a, qD⟩, by rw [hc]; exact vk_recv C.2.2.2.2.2.2.2.2.1.2.2.2.2.1 ht hS, fun U hU hW => ⟨rfl, by rw [hU], by rw [hU]; exact hP, C.2.2.2.2.2.2.2.2.1.move (locs := locs) (by rw [hU]; exact hS) hW (WP.free C hD hS), hD.weaken (fun _ _ _ _ => trivial)⟩⟩ rfl rfl hl.1 hst (lv_room hrest) d ⟨hk, hj⟩)
theorem byK_ok : ∀ (t : Fin 2) (i : Fin 121), andI (byK t i) 255 = byK t i ∧ 0 ≤ byK t i ∧ byK t i < 128 := by decide +kernel
theorem byK_b {t i : Nat} (ht : t < 2) (hi : i < lnK t) : andI (byK t i) 255 = byK t i ∧ 0 ≤ byK t i ∧ byK t i < 128 := by
  have hl2 : lnK t ≤ 121 := by rcases (show t = 0 ∨ t = 1 by omega) with rfl | rfl <;> decide
  exact byK_ok ⟨t, ht⟩ ⟨i, by omega⟩
theorem lnK_b {t : Nat} (ht : t < 2) : lnK t ≤ 121 ∧ shrI ((lnK t : Nat) : Int) 0 = ((lnK t : Nat) : Int) := by rcases (show t = 0 ∨ t = 1 by omega) with rfl | rfl <;> decide +kernel
theorem dJ0_coder_7d493_0 : decode prog_19_method_152_code 0 = .ok (.getstatic 38, 3) := by decide +kernel
theorem dJ0_coder_7d493_3 : decode prog_19_method_152_code 3 = .ok (.ifCond .eq 10, 3) := by decide +kernel
theorem dJ0_coder_7d493_6 : decode prog_19_method_152_code 6 = .ok (.aload_n 0, 1) := by decide +kernel
theorem dJ0_coder_7d493_7 : decode prog_19_method_152_code 7 = .ok (.getfield 15, 3) := by decide +kernel
theorem dJ0_coder_7d493_10 : decode prog_19_method_152_code 10 = .ok (.goto 4, 3) := by decide +kernel
theorem dJ0_coder_7d493_13 : decode prog_19_method_152_code 13 = .ok (.iconst 1, 1) := by decide +kernel
theorem dJ0_coder_7d493_14 : decode prog_19_method_152_code 14 = .ok (.ireturn, 1) := by decide +kernel
theorem sp_coder {t : Nat} (ht : t < 2) (hp : Post (some (.int (iI 0))) S I R) : Call n 0 0 mJ0_coder_7d493 [.ref (S.2.2.2.2 t)] S I R Post := by
  refine Call.of (by decide +kernel) (Nat.le_of_ble_eq_true rfl) ?_
  show WP _ _ _ _ _ 0 [(0, _)] [] 0 0 _ _ _
  refine x_getZ38 rfl dJ0_coder_7d493_0 ?_
  refine x_if_eq 13 dJ0_coder_7d493_3 (by decide) (by decide) (fun w => absurd w (by decide)) (fun _ => ?_)
  refine x_aload_n dJ0_coder_7d493_6 rfl ?_
  refine x_getS15 ht rfl dJ0_coder_7d493_7 ?_
  refine x_goto 14 dJ0_coder_7d493_10 (by decide) ?_
  exact x_breturn rfl dJ0_coder_7d493_14 rfl (Nat.le_refl _) (Nat.le_refl _) hp
theorem dJ0_isLatin1_aae02_0 : decode prog_19_method_154_code 0 = .ok (.getstatic 38, 3) := by decide +kernel
theorem dJ0_isLatin1_aae02_3 : decode prog_19_method_154_code 3 = .ok (.ifCond .eq 14, 3) := by decide +kernel
theorem dJ0_isLatin1_aae02_6 : decode prog_19_method_154_code 6 = .ok (.aload_n 0, 1) := by decide +kernel
theorem dJ0_isLatin1_aae02_7 : decode prog_19_method_154_code 7 = .ok (.getfield 15, 3) := by decide +kernel
theorem dJ0_isLatin1_aae02_10 : decode prog_19_method_154_code 10 = .ok (.ifCond .ne 7, 3) := by decide +kernel
theorem dJ0_isLatin1_aae02_13 : decode prog_19_method_154_code 13 = .ok (.iconst 1, 1) := by decide +kernel
theorem dJ0_isLatin1_aae02_14 : decode prog_19_method_154_code 14 = .ok (.goto 4, 3) := by decide +kernel
theorem dJ0_isLatin1_aae02_17 : decode prog_19_method_154_code 17 = .ok (.iconst 0, 1) := by decide +kernel
theorem dJ0_isLatin1_aae02_18 : decode prog_19_method_154_code 18 = .ok (.ireturn, 1) := by decide +kernel
theorem sp_latin {t : Nat} (ht : t < 2) (hp : Post (some (.int (iI 1))) S I R) : Call n 0 0 mJ0_isLatin1_aae02 [.ref (S.2.2.2.2 t)] S I R Post := by
  refine Call.of (by decide +kernel) (Nat.le_of_ble_eq_true rfl) ?_
  show WP _ _ _ _ _ 0 [(0, _)] [] 0 0 _ _ _
  refine x_getZ38 rfl dJ0_isLatin1_aae02_0 ?_
  refine x_if_eq 17 dJ0_isLatin1_aae02_3 (by decide) (by decide) (fun w => absurd w (by decide)) (fun _ => ?_)
  refine x_aload_n dJ0_isLatin1_aae02_6 rfl ?_
  refine x_getS15 ht rfl dJ0_isLatin1_aae02_7 ?_
  refine x_if_ne 17 dJ0_isLatin1_aae02_10 (by decide) (by decide) (fun w => absurd rfl w) (fun _ => ?_)
  refine x_iconst dJ0_isLatin1_aae02_13 ?_
  refine x_goto 18 dJ0_isLatin1_aae02_14 (by decide) ?_
  exact x_zreturn (Or.inr rfl) dJ0_isLatin1_aae02_18 rfl (Nat.le_refl _) (Nat.le_refl _) hp
theorem dJ0_length_8abf5_0 : decode prog_19_method_54_code 0 = .ok (.aload_n 0, 1) := by decide +kernel
theorem dJ0_length_8abf5_1 : decode prog_19_method_54_code 1 = .ok (.getfield 9, 3) := by decide +kernel
theorem dJ0_length_8abf5_4 : decode prog_19_method_54_code 4 = .ok (.arraylength, 1) := by decide +kernel
theorem dJ0_length_8abf5_5 : decode prog_19_method_54_code 5 = .ok (.aload_n 0, 1) := by decide +kernel
theorem dJ0_length_8abf5_6 : decode prog_19_method_54_code 6 = .ok (.invokevirtual 335, 3) := by decide +kernel
theorem dJ0_length_8abf5_9 : decode prog_19_method_54_code 9 = .ok (.ishr, 1) := by decide +kernel
theorem dJ0_length_8abf5_10 : decode prog_19_method_54_code 10 = .ok (.ireturn, 1) := by decide +kernel
theorem sp_length {t : Nat} (ht : t < 2) (hn : 1 ≤ n) (hp : Post (some (.int (iI ((lnK t : Nat) : Int)))) S I R) : Call n 0 0 mJ0_length_8abf5 [.ref (S.2.2.2.2 t)] S I R Post := by
  refine Call.of (by decide +kernel) (Nat.le_of_ble_eq_true rfl) ?_
  show WP _ _ _ _ _ 0 [(0, _)] [] 0 0 _ _ _
  refine x_aload_n dJ0_length_8abf5_0 rfl ?_
  refine x_getS9 ht rfl dJ0_length_8abf5_1 ?_
  refine x_alenS ht dJ0_length_8abf5_4 ?_
  refine x_aload_n dJ0_length_8abf5_5 rfl ?_
  refine x_callT (t := t) (mc1 := 0) (ms1 := 0) (n1 := n - 1) [] [_] dJ0_length_8abf5_6 cv_RJ0_335 ht rfl rfl (Nat.le_of_ble_eq_true rfl) (by omega) (Nat.le_refl _) (Nat.le_refl _) ?_
  refine sp_coder ht ?_
  refine x_ishr dJ0_length_8abf5_9 ?_
  rw [(lnK_b ht).2]
  exact x_ireturn dJ0_length_8abf5_10 rfl (Nat.le_refl _) (Nat.le_refl _) hp
theorem dJ3_checkIndex_8e157_0 : decode prog_24_method_11_code 0 = .ok (.iload_n 0, 1) := by decide +kernel
theorem dJ3_checkIndex_8e157_1 : decode prog_24_method_11_code 1 = .ok (.ifCond .lt 8, 3) := by decide +kernel
theorem dJ3_checkIndex_8e157_4 : decode prog_24_method_11_code 4 = .ok (.iload_n 0, 1) := by decide +kernel
theorem dJ3_checkIndex_8e157_5 : decode prog_24_method_11_code 5 = .ok (.iload_n 1, 1) := by decide +kernel
theorem dJ3_checkIndex_8e157_6 : decode prog_24_method_11_code 6 = .ok (.if_icmp .lt 10, 3) := by decide +kernel
theorem dJ3_checkIndex_8e157_9 : decode prog_24_method_11_code 9 = .ok (.aload_n 2, 1) := by decide +kernel
theorem dJ3_checkIndex_8e157_10 : decode prog_24_method_11_code 10 = .ok (.iload_n 0, 1) := by decide +kernel
theorem dJ3_checkIndex_8e157_11 : decode prog_24_method_11_code 11 = .ok (.iload_n 1, 1) := by decide +kernel
theorem dJ3_checkIndex_8e157_12 : decode prog_24_method_11_code 12 = .ok (.invokestatic 95, 3) := by decide +kernel
theorem dJ3_checkIndex_8e157_15 : decode prog_24_method_11_code 15 = .ok (.athrow, 1) := by decide +kernel
theorem dJ3_checkIndex_8e157_16 : decode prog_24_method_11_code 16 = .ok (.iload_n 0, 1) := by decide +kernel
theorem dJ3_checkIndex_8e157_17 : decode prog_24_method_11_code 17 = .ok (.ireturn, 1) := by decide +kernel
theorem sp_chk3 {i l : Int} {v : Value} (hv : v = .null ∨ ∃ t, v = .ref t) (h : 0 ≤ i ∧ i < l ∧ l < 2147483648) (hp : Post (some (.int (iI i))) S I R) : Call n 0 0 mJ3_checkIndex_8e157 [.int (iI i), .int (iI l), v] S I R Post := by
  rcases hv with rfl | ⟨t, rfl⟩
  · refine Call.of (by decide +kernel) (Nat.le_of_ble_eq_true rfl) ?_
    show WP _ _ _ _ _ 0 [(0, _), (1, _), (2, _)] [] 0 0 _ _ _
    refine x_iload_n dJ3_checkIndex_8e157_0 rfl ?_
    refine x_if_lt 9 dJ3_checkIndex_8e157_1 (by decide) (by omega) (fun w => by omega) (fun _ => ?_)
    refine x_iload_n dJ3_checkIndex_8e157_4 rfl ?_
    refine x_iload_n dJ3_checkIndex_8e157_5 rfl ?_
    refine x_icmp_lt 16 dJ3_checkIndex_8e157_6 (by decide) (by omega) (fun _ => ?_) (fun w => by omega)
    refine x_iload_n dJ3_checkIndex_8e157_16 rfl ?_
    exact x_ireturn dJ3_checkIndex_8e157_17 rfl (Nat.le_refl _) (Nat.le_refl _) hp
  · refine Call.of (by decide +kernel) (Nat.le_of_ble_eq_true rfl) ?_
    show WP _ _ _ _ _ 0 [(0, _), (1, _), (2, _)] [] 0 0 _ _ _
    refine x_iload_n dJ3_checkIndex_8e157_0 rfl ?_
    refine x_if_lt 9 dJ3_checkIndex_8e157_1 (by decide) (by omega) (fun w => by omega) (fun _ => ?_)
    refine x_iload_n dJ3_checkIndex_8e157_4 rfl ?_
    refine x_iload_n dJ3_checkIndex_8e157_5 rfl ?_
    refine x_icmp_lt 16 dJ3_checkIndex_8e157_6 (by decide) (by omega) (fun _ => ?_) (fun w => by omega)
    refine x_iload_n dJ3_checkIndex_8e157_16 rfl ?_
    exact x_ireturn dJ3_checkIndex_8e157_17 rfl (Nat.le_refl _) (Nat.le_refl _) hp
theorem dJ0_checkIndex_df160_0 : decode prog_19_method_155_code 0 = .ok (.iload_n 0, 1) := by decide +kernel
theorem dJ0_checkIndex_df160_1 : decode prog_19_method_155_code 1 = .ok (.iload_n 1, 1) := by decide +kernel
theorem dJ0_checkIndex_df160_2 : decode prog_19_method_155_code 2 = .ok (.getstatic 1053, 3) := by decide +kernel
theorem dJ0_checkIndex_df160_5 : decode prog_19_method_155_code 5 = .ok (.invokestatic 1059, 3) := by decide +kernel
theorem dJ0_checkIndex_df160_8 : decode prog_19_method_155_code 8 = .ok (.pop, 1) := by decide +kernel
theorem dJ0_checkIndex_df160_9 : decode prog_19_method_155_code 9 = .ok (.return_, 1) := by decide +kernel
theorem sp_chk {i l : Int} (hn : 1 ≤ n) (h : 0 ≤ i ∧ i < l ∧ l < 2147483648) (hp : Post none S I R) : Call n 0 0 mJ0_checkIndex_df160 [.int (iI i), .int (iI l)] S I R Post := by
  refine Call.of (by decide +kernel) (Nat.le_of_ble_eq_true rfl) ?_
  show WP _ _ _ _ _ 0 [(0, _), (1, _)] [] 0 0 _ _ _
  refine x_iload_n dJ0_checkIndex_df160_0 rfl ?_
  refine x_iload_n dJ0_checkIndex_df160_1 rfl ?_
  refine x_getZq rfl dJ0_checkIndex_df160_2 (fun v hv => ?_)
  refine x_callS (mc1 := 0) (ms1 := 0) (n1 := n - 1) [.int (iI i), .int (iI l), v] [] dJ0_checkIndex_df160_5 cv_RJ0_1059 rfl (Nat.le_of_ble_eq_true rfl) (by omega) (Nat.le_refl _) (Nat.le_refl _) ?_
  refine sp_chk3 hv h ?_
  refine x_pop dJ0_checkIndex_df160_8 rfl ?_
  exact x_return dJ0_checkIndex_df160_9 rfl (Nat.le_refl _) (Nat.le_refl _) hp
theorem dJ1_charAt_3b067_0 : decode prog_20_method_2_code 0 = .ok (.iload_n 1, 1) := by decide +kernel
theorem dJ1_charAt_3b067_1 : decode prog_20_method_2_code 1 = .ok (.aload_n 0, 1) := by decide +kernel
theorem dJ1_charAt_3b067_2 : decode prog_20_method_2_code 2 = .ok (.arraylength, 1) := by decide +kernel
theorem dJ1_charAt_3b067_3 : decode prog_20_method_2_code 3 = .ok (.invokestatic 9, 3) := by decide +kernel
theorem dJ1_charAt_3b067_6 : decode prog_20_method_2_code 6 = .ok (.aload_n 0, 1) := by decide +kernel
theorem dJ1_charAt_3b067_7 : decode prog_20_method_2_code 7 = .ok (.iload_n 1, 1) := by decide +kernel
theorem dJ1_charAt_3b067_8 : decode prog_20_method_2_code 8 = .ok (.baload, 1) := by decide +kernel
theorem dJ1_charAt_3b067_9 : decode prog_20_method_2_code 9 = .ok (.sipush 255, 3) := by decide +kernel
theorem dJ1_charAt_3b067_12 : decode prog_20_method_2_code 12 = .ok (.iand, 1) := by decide +kernel
theorem dJ1_charAt_3b067_13 : decode prog_20_method_2_code 13 = .ok (.i2c, 1) := by decide +kernel
theorem dJ1_charAt_3b067_14 : decode prog_20_method_2_code 14 = .ok (.ireturn, 1) := by decide +kernel
theorem sp_char1 {t : Nat} (ht : t < 2) {z : Int} (hz : 0 ≤ z ∧ z < (lnK t : Nat)) (hn : 2 ≤ n) (hp : Post (some (.int (iI (byK t z.toNat)))) S I R) : Call n 0 0 mJ1_charAt_3b067 [.ref (S.2.2.2.2 (2 + t)), .int (iI z)] S I R Post := by
  refine Call.of (by decide +kernel) (Nat.le_of_ble_eq_true rfl) ?_
  show WP _ _ _ _ _ 0 [(0, _), (1, _)] [] 0 0 _ _ _
  have hl2 := (lnK_b ht).1
  have hb2 := byK_b (t := t) (i := z.toNat) ht (by omega)
  refine x_iload_n dJ1_charAt_3b067_0 rfl ?_
  refine x_aload_n dJ1_charAt_3b067_1 rfl ?_
  refine x_alenS ht dJ1_charAt_3b067_2 ?_
  refine x_callS (mc1 := 0) (ms1 := 0) (n1 := n - 1) [.int (iI z), .int (iI ((lnK t : Nat) : Int))] [] dJ1_charAt_3b067_3 cv_RJ1_9 rfl (Nat.le_of_ble_eq_true rfl) (by omega) (Nat.le_refl _) (Nat.le_refl _) ?_
  refine sp_chk (by omega) (by omega) ?_
  refine x_aload_n dJ1_charAt_3b067_6 rfl ?_
  refine x_iload_n dJ1_charAt_3b067_7 rfl ?_
  refine x_baloadS ht hz dJ1_charAt_3b067_8 ?_
  refine x_sipush dJ1_charAt_3b067_9 (by decide) ?_
  refine x_iand dJ1_charAt_3b067_12 ?_
  rw [hb2.1]
  refine x_i2c (by omega) dJ1_charAt_3b067_13 ?_
  exact x_creturn (by omega) dJ1_charAt_3b067_14 rfl (Nat.le_refl _) (Nat.le_refl _) hp
theorem dJ0_charAt_5068e_0 : decode prog_19_method_56_code 0 = .ok (.aload_n 0, 1) := by decide +kernel
theorem dJ0_charAt_5068e_1 : decode prog_19_method_56_code 1 = .ok (.invokevirtual 492, 3) := by decide +kernel
theorem dJ0_charAt_5068e_4 : decode prog_19_method_56_code 4 = .ok (.ifCond .eq 12, 3) := by decide +kernel
theorem dJ0_charAt_5068e_7 : decode prog_19_method_56_code 7 = .ok (.aload_n 0, 1) := by decide +kernel
theorem dJ0_charAt_5068e_8 : decode prog_19_method_56_code 8 = .ok (.getfield 9, 3) := by decide +kernel
theorem dJ0_charAt_5068e_11 : decode prog_19_method_56_code 11 = .ok (.iload_n 1, 1) := by decide +kernel
theorem dJ0_charAt_5068e_12 : decode prog_19_method_56_code 12 = .ok (.invokestatic 495, 3) := by decide +kernel
theorem dJ0_charAt_5068e_15 : decode prog_19_method_56_code 15 = .ok (.ireturn, 1) := by decide +kernel
theorem dJ0_charAt_5068e_16 : decode prog_19_method_56_code 16 = .ok (.aload_n 0, 1) := by decide +kernel
theorem dJ0_charAt_5068e_17 : decode prog_19_method_56_code 17 = .ok (.getfield 9, 3) := by decide +kernel
theorem dJ0_charAt_5068e_20 : decode prog_19_method_56_code 20 = .ok (.iload_n 1, 1) := by decide +kernel
theorem dJ0_charAt_5068e_21 : decode prog_19_method_56_code 21 = .ok (.invokestatic 498, 3) := by decide +kernel
theorem dJ0_charAt_5068e_24 : decode prog_19_method_56_code 24 = .ok (.ireturn, 1) := by decide +kernel
theorem sp_charAt {t : Nat} (ht : t < 2) {z : Int} (hz : 0 ≤ z ∧ z < (lnK t : Nat)) (hn : 3 ≤ n) (hp : Post (some (.int (iI (byK t z.toNat)))) S I R) : Call n 0 0 mJ0_charAt_5068e [.ref (S.2.2.2.2 t), .int (iI z)] S I R Post := by
  refine Call.of (by decide +kernel) (Nat.le_of_ble_eq_true rfl) ?_
  show WP _ _ _ _ _ 0 [(0, _), (1, _)] [] 0 0 _ _ _
  have hl2 := (lnK_b ht).1
  have hb2 := byK_b (t := t) (i := z.toNat) ht (by omega)
  refine x_aload_n dJ0_charAt_5068e_0 rfl ?_
  refine x_callT (t := t) (mc1 := 0) (ms1 := 0) (n1 := n - 1) [] [] dJ0_charAt_5068e_1 cv_RJ0_492 ht rfl rfl (Nat.le_of_ble_eq_true rfl) (by omega) (Nat.le_refl _) (Nat.le_refl _) ?_
  refine sp_latin ht ?_
  refine x_if_eq 16 dJ0_charAt_5068e_4 (by decide) (by decide) (fun w => absurd w (by decide)) (fun _ => ?_)
  refine x_aload_n dJ0_charAt_5068e_7 rfl ?_
  refine x_getS9 ht rfl dJ0_charAt_5068e_8 ?_
  refine x_iload_n dJ0_charAt_5068e_11 rfl ?_
  refine x_callS (mc1 := 0) (ms1 := 0) (n1 := n - 1) [.ref (S.2.2.2.2 (2 + t)), .int (iI z)] [] dJ0_charAt_5068e_12 cv_RJ0_495 rfl (Nat.le_of_ble_eq_true rfl) (by omega) (Nat.le_refl _) (Nat.le_refl _) ?_
  refine sp_char1 ht hz (by omega) ?_
  exact x_creturn (by omega) dJ0_charAt_5068e_15 rfl (Nat.le_refl _) (Nat.le_refl _) hp
theorem dJ1_canEncode_9a6ad_0 : decode prog_20_method_4_code 0 = .ok (.iload_n 0, 1) := by decide +kernel
theorem dJ1_canEncode_9a6ad_1 : decode prog_20_method_4_code 1 = .ok (.ifCond .lt 14, 3) := by decide +kernel
theorem dJ1_canEncode_9a6ad_4 : decode prog_20_method_4_code 4 = .ok (.iload_n 0, 1) := by decide +kernel
theorem dJ1_canEncode_9a6ad_5 : decode prog_20_method_4_code 5 = .ok (.sipush 255, 3) := by decide +kernel
theorem dJ1_canEncode_9a6ad_8 : decode prog_20_method_4_code 8 = .ok (.if_icmp .gt 7, 3) := by decide +kernel
theorem dJ1_canEncode_9a6ad_11 : decode prog_20_method_4_code 11 = .ok (.iconst 1, 1) := by decide +kernel
theorem dJ1_canEncode_9a6ad_12 : decode prog_20_method_4_code 12 = .ok (.goto 4, 3) := by decide +kernel
theorem dJ1_canEncode_9a6ad_15 : decode prog_20_method_4_code 15 = .ok (.iconst 0, 1) := by decide +kernel
theorem dJ1_canEncode_9a6ad_16 : decode prog_20_method_4_code 16 = .ok (.ireturn, 1) := by decide +kernel
theorem sp_canE {x : Int} (hx : 0 ≤ x ∧ x < 256) (hp : Post (some (.int (iI 1))) S I R) : Call n 0 0 mJ1_canEncode_9a6ad [.int (iI x)] S I R Post := by
  refine Call.of (by decide +kernel) (Nat.le_of_ble_eq_true rfl) ?_
  show WP _ _ _ _ _ 0 [(0, _)] [] 0 0 _ _ _
  refine x_iload_n dJ1_canEncode_9a6ad_0 rfl ?_
  refine x_if_lt 15 dJ1_canEncode_9a6ad_1 (by decide) (by omega) (fun w => by omega) (fun _ => ?_)
  refine x_iload_n dJ1_canEncode_9a6ad_4 rfl ?_
  refine x_sipush dJ1_canEncode_9a6ad_5 (by decide) ?_
  refine x_icmp_gt 15 dJ1_canEncode_9a6ad_8 (by decide) (by omega) (fun w => by omega) (fun _ => ?_)
  refine x_iconst dJ1_canEncode_9a6ad_11 ?_
  refine x_goto 16 dJ1_canEncode_9a6ad_12 (by decide) ?_
  exact x_zreturn (Or.inr rfl) dJ1_canEncode_9a6ad_16 rfl (Nat.le_refl _) (Nat.le_refl _) hp
/-- where the text t has the sign x -/
def ixK (t : Nat) (x r : Int) : Prop := (0 ≤ r ∧ r < (lnK t : Nat) ∧ byK t r.toNat = x) ∨ (r = -1 ∧ ∀ i, i < lnK t → byK t i ≠ x)
theorem dJ1_indexOfChar_4cfef_0 : decode prog_20_method_23_code 0 = .ok (.iload_n 1, 1) := by decide +kernel
theorem dJ1_indexOfChar_4cfef_1 : decode prog_20_method_23_code 1 = .ok (.i2b, 1) := by decide +kernel
theorem dJ1_indexOfChar_4cfef_2 : decode prog_20_method_23_code 2 = .ok (.istore 4, 2) := by decide +kernel
theorem dJ1_indexOfChar_4cfef_4 : decode prog_20_method_23_code 4 = .ok (.iload_n 2, 1) := by decide +kernel
theorem dJ1_indexOfChar_4cfef_5 : decode prog_20_method_23_code 5 = .ok (.istore 5, 2) := by decide +kernel
theorem dJ1_indexOfChar_4cfef_7 : decode prog_20_method_23_code 7 = .ok (.iload 5, 2) := by decide +kernel
theorem dJ1_indexOfChar_4cfef_9 : decode prog_20_method_23_code 9 = .ok (.iload_n 3, 1) := by decide +kernel
theorem dJ1_indexOfChar_4cfef_10 : decode prog_20_method_23_code 10 = .ok (.if_icmp .ge 21, 3) := by decide +kernel
theorem dJ1_indexOfChar_4cfef_13 : decode prog_20_method_23_code 13 = .ok (.aload_n 0, 1) := by decide +kernel
theorem dJ1_indexOfChar_4cfef_14 : decode prog_20_method_23_code 14 = .ok (.iload 5, 2) := by decide +kernel
theorem dJ1_indexOfChar_4cfef_16 : decode prog_20_method_23_code 16 = .ok (.baload, 1) := by decide +kernel
theorem dJ1_indexOfChar_4cfef_17 : decode prog_20_method_23_code 17 = .ok (.iload 4, 2) := by decide +kernel
theorem dJ1_indexOfChar_4cfef_19 : decode prog_20_method_23_code 19 = .ok (.if_icmp .ne 6, 3) := by decide +kernel
theorem dJ1_indexOfChar_4cfef_22 : decode prog_20_method_23_code 22 = .ok (.iload 5, 2) := by decide +kernel
theorem dJ1_indexOfChar_4cfef_24 : decode prog_20_method_23_code 24 = .ok (.ireturn, 1) := by decide +kernel
theorem dJ1_indexOfChar_4cfef_25 : decode prog_20_method_23_code 25 = .ok (.iinc 5 1, 3) := by decide +kernel
theorem dJ1_indexOfChar_4cfef_28 : decode prog_20_method_23_code 28 = .ok (.goto (-21), 3) := by decide +kernel
theorem dJ1_indexOfChar_4cfef_31 : decode prog_20_method_23_code 31 = .ok (.iconst (-1), 1) := by decide +kernel
theorem dJ1_indexOfChar_4cfef_32 : decode prog_20_method_23_code 32 = .ok (.ireturn, 1) := by decide +kernel
theorem lp_ixc {t : Nat} (ht : t < 2) {x : Int} (hx : 0 ≤ x ∧ x < 256) (hp : ∀ r, ixK t x r → Post (some (.int (iI r))) S I R) : ∀ (d i : Nat), i ≤ lnK t → lnK t - i = d → (∀ q, q < i → byK t q ≠ x) → WP n 0 0 mJ1_indexOfChar_4cfef Post 7 [(5, .int (iI ((i : Nat) : Int))), (4, .int (iI (if x < 128 then x else x - 256))), (0, .ref (S.2.2.2.2 (2 + t))), (1, .int (iI x)), (2, .int (iI 0)), (3, .int (iI ((lnK t : Nat) : Int)))] [] 0 0 S I R := by
  have hl2 := (lnK_b ht).1
  intro d
  induction d using Nat.strongRecOn with
  | ind d ih =>
    intro i h1 h2 hq
    have hb2 : i < lnK t → _ := fun h => byK_b (t := t) (i := i) ht h
    refine x_iload dJ1_indexOfChar_4cfef_7 rfl ?_
    refine x_iload_n dJ1_indexOfChar_4cfef_9 rfl ?_
    refine x_icmp_ge 31 dJ1_indexOfChar_4cfef_10 (by decide) (by omega) (fun w10 => ?_) (fun w10 => ?_)
    · refine x_iconst dJ1_indexOfChar_4cfef_31 ?_
      exact x_ireturn dJ1_indexOfChar_4cfef_32 rfl (Nat.le_refl _) (Nat.le_refl _) (hp _ (Or.inr ⟨rfl, fun q hq2 => hq q (by omega)⟩))
    · have hb3 := hb2 (by omega)
      refine x_aload_n dJ1_indexOfChar_4cfef_13 rfl ?_
      refine x_iload dJ1_indexOfChar_4cfef_14 rfl ?_
      refine x_baloadS ht (by omega) dJ1_indexOfChar_4cfef_16 ?_
      rw [show ((i : Nat) : Int).toNat = i by omega]
      refine x_iload dJ1_indexOfChar_4cfef_17 rfl ?_
      have hy : -2147483648 ≤ (if x < 128 then x else x - 256) ∧ (if x < 128 then x else x - 256) < 2147483648 := by split <;> omega
      refine x_icmp_ne 25 dJ1_indexOfChar_4cfef_19 (by decide) ⟨by omega, hy⟩ (fun w19 => ?_) (fun w19 => ?_)
      · refine x_iinc (lv2 := [(5, _), (4, _), (0, _), (1, _), (2, _), (3, _)]) dJ1_indexOfChar_4cfef_25 rfl (by decide) rfl ?_
        refine x_goto 7 dJ1_indexOfChar_4cfef_28 (by decide) ?_
        refine ih _ (by omega) (i + 1) (by omega) rfl (fun q hq2 => ?_)
        by_cases e : q = i
        · subst e; intro h9; apply w19; rw [h9, if_pos (by omega)]
        · exact hq q (by omega)
      · refine x_iload dJ1_indexOfChar_4cfef_22 rfl ?_
        refine x_ireturn dJ1_indexOfChar_4cfef_24 rfl (Nat.le_refl _) (Nat.le_refl _) (hp _ (Or.inl ⟨by omega, by omega, ?_⟩))
        rw [show ((i : Nat) : Int).toNat = i by omega]
        by_cases h9 : x < 128
        · rw [if_pos h9] at w19; omega
        · rw [if_neg h9] at w19; omega
theorem sp_ixc {t : Nat} (ht : t < 2) {x : Int} (hx : 0 ≤ x ∧ x < 256) (hp : ∀ r, ixK t x r → Post (some (.int (iI r))) S I R) : Call n 0 0 mJ1_indexOfChar_4cfef [.ref (S.2.2.2.2 (2 + t)), .int (iI x), .int (iI 0), .int (iI ((lnK t : Nat) : Int))] S I R Post := by
  refine Call.of (by decide +kernel) (Nat.le_of_ble_eq_true rfl) ?_
  show WP _ _ _ _ _ 0 [(0, _), (1, _), (2, _), (3, _)] [] 0 0 _ _ _
  refine x_iload_n dJ1_indexOfChar_4cfef_0 rfl ?_
  refine x_i2b hx dJ1_indexOfChar_4cfef_1 ?_
  refine x_istore (lv2 := [(4, _), (0, _), (1, _), (2, _), (3, _)]) dJ1_indexOfChar_4cfef_2 (by decide) rfl ?_
  refine x_iload_n dJ1_indexOfChar_4cfef_4 rfl ?_
  refine x_istore (lv2 := [(5, _), (4, _), (0, _), (1, _), (2, _), (3, _)]) dJ1_indexOfChar_4cfef_5 (by decide) rfl ?_
  exact lp_ixc ht hx hp _ 0 (by omega) rfl (fun q hq => by omega)
theorem dJ1_indexOf_4cfef_0 : decode prog_20_method_22_code 0 = .ok (.iload_n 1, 1) := by decide +kernel
theorem dJ1_indexOf_4cfef_1 : decode prog_20_method_22_code 1 = .ok (.invokestatic 88, 3) := by decide +kernel
theorem dJ1_indexOf_4cfef_4 : decode prog_20_method_22_code 4 = .ok (.ifCond .ne 5, 3) := by decide +kernel
theorem dJ1_indexOf_4cfef_7 : decode prog_20_method_22_code 7 = .ok (.iconst (-1), 1) := by decide +kernel
theorem dJ1_indexOf_4cfef_8 : decode prog_20_method_22_code 8 = .ok (.ireturn, 1) := by decide +kernel
theorem dJ1_indexOf_4cfef_9 : decode prog_20_method_22_code 9 = .ok (.iload_n 2, 1) := by decide +kernel
theorem dJ1_indexOf_4cfef_10 : decode prog_20_method_22_code 10 = .ok (.iconst 0, 1) := by decide +kernel
theorem dJ1_indexOf_4cfef_11 : decode prog_20_method_22_code 11 = .ok (.invokestatic 92, 3) := by decide +kernel
theorem dJ1_indexOf_4cfef_14 : decode prog_20_method_22_code 14 = .ok (.istore_n 2, 1) := by decide +kernel
theorem dJ1_indexOf_4cfef_15 : decode prog_20_method_22_code 15 = .ok (.iload_n 3, 1) := by decide +kernel
theorem dJ1_indexOf_4cfef_16 : decode prog_20_method_22_code 16 = .ok (.aload_n 0, 1) := by decide +kernel
theorem dJ1_indexOf_4cfef_17 : decode prog_20_method_22_code 17 = .ok (.arraylength, 1) := by decide +kernel
theorem dJ1_indexOf_4cfef_18 : decode prog_20_method_22_code 18 = .ok (.invokestatic 38, 3) := by decide +kernel
theorem dJ1_indexOf_4cfef_21 : decode prog_20_method_22_code 21 = .ok (.istore_n 3, 1) := by decide +kernel
theorem dJ1_indexOf_4cfef_22 : decode prog_20_method_22_code 22 = .ok (.iload_n 2, 1) := by decide +kernel
theorem dJ1_indexOf_4cfef_23 : decode prog_20_method_22_code 23 = .ok (.iload_n 3, 1) := by decide +kernel
theorem dJ1_indexOf_4cfef_24 : decode prog_20_method_22_code 24 = .ok (.if_icmp .lt 5, 3) := by decide +kernel
theorem dJ1_indexOf_4cfef_27 : decode prog_20_method_22_code 27 = .ok (.iconst (-1), 1) := by decide +kernel
theorem dJ1_indexOf_4cfef_28 : decode prog_20_method_22_code 28 = .ok (.ireturn, 1) := by decide +kernel
theorem dJ1_indexOf_4cfef_29 : decode prog_20_method_22_code 29 = .ok (.aload_n 0, 1) := by decide +kernel
theorem dJ1_indexOf_4cfef_30 : decode prog_20_method_22_code 30 = .ok (.iload_n 1, 1) := by decide +kernel
theorem dJ1_indexOf_4cfef_31 : decode prog_20_method_22_code 31 = .ok (.iload_n 2, 1) := by decide +kernel
theorem dJ1_indexOf_4cfef_32 : decode prog_20_method_22_code 32 = .ok (.iload_n 3, 1) := by decide +kernel
theorem dJ1_indexOf_4cfef_33 : decode prog_20_method_22_code 33 = .ok (.invokestatic 95, 3) := by decide +kernel
theorem dJ1_indexOf_4cfef_36 : decode prog_20_method_22_code 36 = .ok (.ireturn, 1) := by decide +kernel
theorem sp_ix1 {t : Nat} (ht : t < 2) {x : Int} (hx : 0 ≤ x ∧ x < 256) (hn : 1 ≤ n) (hp : ∀ r, ixK t x r → Post (some (.int (iI r))) S I R) : Call n 0 0 mJ1_indexOf_4cfef [.ref (S.2.2.2.2 (2 + t)), .int (iI x), .int (iI 0), .int (iI ((lnK t : Nat) : Int))] S I R Post := by
  refine Call.of (by decide +kernel) (Nat.le_of_ble_eq_true rfl) ?_
  show WP _ _ _ _ _ 0 [(0, _), (1, _), (2, _), (3, _)] [] 0 0 _ _ _
  have hl2 := (lnK_b ht).1
  have hl3 : 0 < lnK t := by rcases (show t = 0 ∨ t = 1 by omega) with rfl | rfl <;> decide
  refine x_iload_n dJ1_indexOf_4cfef_0 rfl ?_
  refine x_callS (mc1 := 0) (ms1 := 0) (n1 := n - 1) [.int (iI x)] [] dJ1_indexOf_4cfef_1 cv_RJ1_88 rfl (Nat.le_of_ble_eq_true rfl) (by omega) (Nat.le_refl _) (Nat.le_refl _) ?_
  refine sp_canE hx ?_
  refine x_if_ne 9 dJ1_indexOf_4cfef_4 (by decide) (by decide) (fun _ => ?_) (fun w => absurd (by decide) w)
  refine x_iload_n dJ1_indexOf_4cfef_9 rfl ?_
  refine x_iconst dJ1_indexOf_4cfef_10 ?_
  refine x_mmax dJ1_indexOf_4cfef_11 cv_RJ1_92 (by omega) (Nat.le_of_ble_eq_true rfl) (by omega) (by omega) (by decide) (fun r11 hr11 => ?_)
  obtain rfl : r11 = 0 := by omega
  refine x_istore_n (lv2 := [(2, _), (0, _), (1, _), (3, _)]) dJ1_indexOf_4cfef_14 (by decide) rfl ?_
  refine x_iload_n dJ1_indexOf_4cfef_15 rfl ?_
  refine x_aload_n dJ1_indexOf_4cfef_16 rfl ?_
  refine x_alenS ht dJ1_indexOf_4cfef_17 ?_
  refine x_mmin dJ1_indexOf_4cfef_18 cv_RJ1_38 (by omega) (Nat.le_of_ble_eq_true rfl) (by omega) (by omega) ⟨⟨by omega, by omega⟩, ⟨by omega, by omega⟩⟩ (fun r18 hr18 => ?_)
  obtain rfl : r18 = ((lnK t : Nat) : Int) := by omega
  refine x_istore_n (lv2 := [(3, _), (2, _), (0, _), (1, _)]) dJ1_indexOf_4cfef_21 (by decide) rfl ?_
  refine x_iload_n dJ1_indexOf_4cfef_22 rfl ?_
  refine x_iload_n dJ1_indexOf_4cfef_23 rfl ?_
  refine x_icmp_lt 29 dJ1_indexOf_4cfef_24 (by decide) (by omega) (fun _ => ?_) (fun w => by omega)
  refine x_aload_n dJ1_indexOf_4cfef_29 rfl ?_
  refine x_iload_n dJ1_indexOf_4cfef_30 rfl ?_
  refine x_iload_n dJ1_indexOf_4cfef_31 rfl ?_
  refine x_iload_n dJ1_indexOf_4cfef_32 rfl ?_
  refine x_callS (mc1 := 0) (ms1 := 0) (n1 := n - 1) [.ref (S.2.2.2.2 (2 + t)), .int (iI x), .int (iI 0), .int (iI ((lnK t : Nat) : Int))] [] dJ1_indexOf_4cfef_33 cv_RJ1_95 rfl (Nat.le_of_ble_eq_true rfl) (by omega) (Nat.le_refl _) (Nat.le_refl _) ?_
  refine sp_ixc ht hx (fun r hr => ?_)
  exact x_ireturn dJ1_indexOf_4cfef_36 rfl (Nat.le_refl _) (Nat.le_refl _) (hp r hr)
theorem dJ0_indexOf_7cf53_0 : decode prog_19_method_80_code 0 = .ok (.aload_n 0, 1) := by decide +kernel
theorem dJ0_indexOf_7cf53_1 : decode prog_19_method_80_code 1 = .ok (.invokevirtual 492, 3) := by decide +kernel
theorem dJ0_indexOf_7cf53_4 : decode prog_19_method_80_code 4 = .ok (.ifCond .eq 19, 3) := by decide +kernel
theorem dJ0_indexOf_7cf53_7 : decode prog_19_method_80_code 7 = .ok (.aload_n 0, 1) := by decide +kernel
theorem dJ0_indexOf_7cf53_8 : decode prog_19_method_80_code 8 = .ok (.getfield 9, 3) := by decide +kernel
theorem dJ0_indexOf_7cf53_11 : decode prog_19_method_80_code 11 = .ok (.iload_n 1, 1) := by decide +kernel
theorem dJ0_indexOf_7cf53_12 : decode prog_19_method_80_code 12 = .ok (.iload_n 2, 1) := by decide +kernel
theorem dJ0_indexOf_7cf53_13 : decode prog_19_method_80_code 13 = .ok (.aload_n 0, 1) := by decide +kernel
theorem dJ0_indexOf_7cf53_14 : decode prog_19_method_80_code 14 = .ok (.invokevirtual 505, 3) := by decide +kernel
theorem dJ0_indexOf_7cf53_17 : decode prog_19_method_80_code 17 = .ok (.invokestatic 637, 3) := by decide +kernel
theorem dJ0_indexOf_7cf53_20 : decode prog_19_method_80_code 20 = .ok (.goto 16, 3) := by decide +kernel
theorem dJ0_indexOf_7cf53_23 : decode prog_19_method_80_code 23 = .ok (.aload_n 0, 1) := by decide +kernel
theorem dJ0_indexOf_7cf53_24 : decode prog_19_method_80_code 24 = .ok (.getfield 9, 3) := by decide +kernel
theorem dJ0_indexOf_7cf53_27 : decode prog_19_method_80_code 27 = .ok (.iload_n 1, 1) := by decide +kernel
theorem dJ0_indexOf_7cf53_28 : decode prog_19_method_80_code 28 = .ok (.iload_n 2, 1) := by decide +kernel
theorem dJ0_indexOf_7cf53_29 : decode prog_19_method_80_code 29 = .ok (.aload_n 0, 1) := by decide +kernel
theorem dJ0_indexOf_7cf53_30 : decode prog_19_method_80_code 30 = .ok (.invokevirtual 505, 3) := by decide +kernel
theorem dJ0_indexOf_7cf53_33 : decode prog_19_method_80_code 33 = .ok (.invokestatic 640, 3) := by decide +kernel
theorem dJ0_indexOf_7cf53_36 : decode prog_19_method_80_code 36 = .ok (.ireturn, 1) := by decide +kernel
theorem sp_ix2 {t : Nat} (ht : t < 2) {x : Int} (hx : 0 ≤ x ∧ x < 256) (hn : 2 ≤ n) (hp : ∀ r, ixK t x r → Post (some (.int (iI r))) S I R) : Call n 0 0 mJ0_indexOf_7cf53 [.ref (S.2.2.2.2 t), .int (iI x), .int (iI 0)] S I R Post := by
  refine Call.of (by decide +kernel) (Nat.le_of_ble_eq_true rfl) ?_
  show WP _ _ _ _ _ 0 [(0, _), (1, _), (2, _)] [] 0 0 _ _ _
  refine x_aload_n dJ0_indexOf_7cf53_0 rfl ?_
  refine x_callT (t := t) (mc1 := 0) (ms1 := 0) (n1 := n - 1) [] [] dJ0_indexOf_7cf53_1 cv_RJ0_492 ht rfl rfl (Nat.le_of_ble_eq_true rfl) (by omega) (Nat.le_refl _) (Nat.le_refl _) ?_
  refine sp_latin ht ?_
  refine x_if_eq 23 dJ0_indexOf_7cf53_4 (by decide) (by decide) (fun w => absurd w (by decide)) (fun _ => ?_)
  refine x_aload_n dJ0_indexOf_7cf53_7 rfl ?_
  refine x_getS9 ht rfl dJ0_indexOf_7cf53_8 ?_
  refine x_iload_n dJ0_indexOf_7cf53_11 rfl ?_
  refine x_iload_n dJ0_indexOf_7cf53_12 rfl ?_
  refine x_aload_n dJ0_indexOf_7cf53_13 rfl ?_
  refine x_callT (t := t) (mc1 := 0) (ms1 := 0) (n1 := n - 1) [] [_, _, _] dJ0_indexOf_7cf53_14 cv_RJ0_505 ht rfl rfl (Nat.le_of_ble_eq_true rfl) (by omega) (Nat.le_refl _) (Nat.le_refl _) ?_
  refine sp_length ht (by omega) ?_
  refine x_callS (mc1 := 0) (ms1 := 0) (n1 := n - 1) [.ref (S.2.2.2.2 (2 + t)), .int (iI x), .int (iI 0), .int (iI ((lnK t : Nat) : Int))] [] dJ0_indexOf_7cf53_17 cv_RJ0_637 rfl (Nat.le_of_ble_eq_true rfl) (by omega) (Nat.le_refl _) (Nat.le_refl _) ?_
  refine sp_ix1 ht hx (by omega) (fun r hr => ?_)
  refine x_goto 36 dJ0_indexOf_7cf53_20 (by decide) ?_
  exact x_ireturn dJ0_indexOf_7cf53_36 rfl (Nat.le_refl _) (Nat.le_refl _) (hp r hr)
theorem dJ0_indexOf_0f7a4_0 : decode prog_19_method_79_code 0 = .ok (.aload_n 0, 1) := by decide +kernel
theorem dJ0_indexOf_0f7a4_1 : decode prog_19_method_79_code 1 = .ok (.iload_n 1, 1) := by decide +kernel
theorem dJ0_indexOf_0f7a4_2 : decode prog_19_method_79_code 2 = .ok (.iconst 0, 1) := by decide +kernel
theorem dJ0_indexOf_0f7a4_3 : decode prog_19_method_79_code 3 = .ok (.invokevirtual 633, 3) := by decide +kernel
theorem dJ0_indexOf_0f7a4_6 : decode prog_19_method_79_code 6 = .ok (.ireturn, 1) := by decide +kernel
theorem sp_ix {t : Nat} (ht : t < 2) {x : Int} (hx : 0 ≤ x ∧ x < 256) (hn : 3 ≤ n) (hp : ∀ r, ixK t x r → Post (some (.int (iI r))) S I R) : Call n 0 0 mJ0_indexOf_0f7a4 [.ref (S.2.2.2.2 t), .int (iI x)] S I R Post := by
  refine Call.of (by decide +kernel) (Nat.le_of_ble_eq_true rfl) ?_
  show WP _ _ _ _ _ 0 [(0, _), (1, _)] [] 0 0 _ _ _
  refine x_aload_n dJ0_indexOf_0f7a4_0 rfl ?_
  refine x_iload_n dJ0_indexOf_0f7a4_1 rfl ?_
  refine x_iconst dJ0_indexOf_0f7a4_2 ?_
  refine x_callT (t := t) (mc1 := 0) (ms1 := 0) (n1 := n - 1) [.int (iI x), .int (iI 0)] [] dJ0_indexOf_0f7a4_3 cv_RJ0_633 ht rfl rfl (Nat.le_of_ble_eq_true rfl) (by omega) (Nat.le_refl _) (Nat.le_refl _) ?_
  refine sp_ix2 ht hx (by omega) (fun r hr => ?_)
  exact x_ireturn dJ0_indexOf_0f7a4_6 rfl (Nat.le_refl _) (Nat.le_refl _) (hp r hr)
theorem sgK : ∀ i : Fin 11, sgP (byK 1 i) := by decide +kernel
theorem ixK_sg {x r : Int} (h : ixK 1 x r) : 0 ≤ r ↔ sgP x := by
  rcases h with ⟨h1, h2, h3⟩ | ⟨h1, h2⟩
  · have := sgK ⟨r.toNat, by have : lnK 1 = 11 := rfl; omega⟩
    rw [← h3]
    exact ⟨fun _ => this, fun _ => h1⟩
  · constructor
    · intro h; omega
    · intro h
      exfalso
      have g : ∀ i, i < 11 → byK 1 i ≠ x := h2
      have b0 := g 0 (by omega); have b1 := g 1 (by omega); have b2 := g 2 (by omega); have b3 := g 3 (by omega); have b4 := g 4 (by omega); have b5 := g 5 (by omega); have b6 := g 6 (by omega); have b7 := g 7 (by omega); have b8 := g 8 (by omega); have b9 := g 9 (by omega); have b10 := g 10 (by omega)
      rw [show byK 1 0 = 60 by decide +kernel] at b0
      rw [show byK 1 1 = 62 by decide +kernel] at b1
      rw [show byK 1 2 = 61 by decide +kernel] at b2
      rw [show byK 1 3 = 35 by decide +kernel] at b3
      rw [show byK 1 4 = 43 by decide +kernel] at b4
      rw [show byK 1 5 = 45 by decide +kernel] at b5
      rw [show byK 1 6 = 42 by decide +kernel] at b6
      rw [show byK 1 7 = 47 by decide +kernel] at b7
      rw [show byK 1 8 = 40 by decide +kernel] at b8
      rw [show byK 1 9 = 41 by decide +kernel] at b9
      rw [show byK 1 10 = 59 by decide +kernel] at b10
      unfold sgP at h
      omega
end Str
