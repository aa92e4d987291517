section Ctor5
variable {n mc ms : Nat} {M : Md} {pc : Nat} {lv : List (Nat × Value)} {st : List Value} {k j : Nat} {Post : PT} {S : Sh} {I : CI} {R : CR} {A : Nat → Int} {tx : Nat → Nat → Int}
/-- the class's part of the shape -/
def CsC (S : Sh) (R : CR) : Prop := (∀ e ∈ obL, e.1 < 306 → OB S e.1 e.2) ∧ (∀ e ∈ arL, e.1 < 306 → AR S e.1 e.2.1 e.2.2) ∧ (∀ e ∈ rfL, e.1 < 306 → R e.1 e.2.1 = some e.2.2) ∧ (∀ i, i < 30 → R 10 i = some (20 + 4 * i) ∧ ST S R (20 + 4 * i)) ∧ (∀ i, i < 30 → R 149 i = some (159 + 4 * i) ∧ ST S R (159 + 4 * i))
theorem csC_of (w1 : WS S R 1) (w2 : WS S R 140) (h0 : OB S 0 11 ∧ R 0 0 = some 1 ∧ R 0 1 = some 140 ∧ R 0 2 = some 279 ∧ R 0 3 = some 282 ∧ R 0 4 = some 287 ∧ R 0 5 = some 291 ∧ R 0 6 = some 295 ∧ R 0 7 = some 299 ∧ R 0 8 = some 303) (h279 : OB S 279 3 ∧ AR S 280 13 8 ∧ AR S 281 13 303 ∧ R 279 1 = some 280 ∧ R 279 2 = some 281 ∧ R 279 0 = some 1) (h282 : OB S 282 0 ∧ ST S R 283 ∧ R 282 2 = some 283 ∧ R 282 0 = some 1 ∧ R 282 1 = some 279) (h287 : OB S 287 5 ∧ AR S 288 13 300 ∧ AR S 289 13 300 ∧ AR S 290 13 96 ∧ R 287 0 = some 288 ∧ R 287 1 = some 289 ∧ R 287 2 = some 290) (h291 : OB S 291 7 ∧ AR S 292 13 36 ∧ AR S 293 13 6 ∧ AR S 294 13 6 ∧ R 291 2 = some 292 ∧ R 291 3 = some 293 ∧ R 291 4 = some 294 ∧ R 291 0 = some 1 ∧ R 291 1 = some 279) (h295 : OB S 295 4 ∧ AR S 296 13 5 ∧ AR S 297 13 5 ∧ AR S 298 13 8 ∧ R 295 0 = some 296 ∧ R 295 5 = some 297 ∧ R 295 6 = some 298 ∧ R 295 3 = some 1 ∧ R 295 4 = some 279) (h299 : OB S 299 2 ∧ AR S 300 13 6 ∧ AR S 301 13 256 ∧ AR S 302 13 256 ∧ R 299 1 = some 300 ∧ R 299 2 = some 301 ∧ R 299 3 = some 302 ∧ R 299 0 = some 1) (h303 : OB S 303 1 ∧ AR S 304 13 10 ∧ AR S 305 13 10 ∧ R 303 1 = some 304 ∧ R 303 2 = some 305 ∧ R 303 0 = some 13) : CsC S R := by
  have cc : CSc S R := ⟨w1, w2⟩
  refine ⟨(List.forall_mem_cons.mpr ⟨(fun _ => h0.1), (List.forall_mem_cons.mpr ⟨(fun _ => kc_ob_1 cc), (List.forall_mem_cons.mpr ⟨(fun _ => (kc_st_6 cc).1), (List.forall_mem_cons.mpr ⟨(fun _ => kc_ob_13 cc), (List.forall_mem_cons.mpr ⟨(fun _ => kc_ob_140 cc), (List.forall_mem_cons.mpr ⟨(fun _ => (kc_st_145 cc).1), (List.forall_mem_cons.mpr ⟨(fun _ => kc_ob_152 cc), (List.forall_mem_cons.mpr ⟨(fun _ => h279.1), (List.forall_mem_cons.mpr ⟨(fun _ => h282.1), (List.forall_mem_cons.mpr ⟨(fun _ => h282.2.1.1), (List.forall_mem_cons.mpr ⟨(fun _ => h287.1), (List.forall_mem_cons.mpr ⟨(fun _ => h291.1), (List.forall_mem_cons.mpr ⟨(fun _ => h295.1), (List.forall_mem_cons.mpr ⟨(fun _ => h299.1), (List.forall_mem_cons.mpr ⟨(fun _ => h303.1), (List.forall_mem_cons.mpr ⟨(fun h9 => absurd h9 (by decide)), (fun e he => by cases he)⟩)⟩)⟩)⟩)⟩)⟩)⟩)⟩)⟩)⟩)⟩)⟩)⟩)⟩)⟩)⟩), (List.forall_mem_cons.mpr ⟨(fun _ => kc_ar_2 cc), (List.forall_mem_cons.mpr ⟨(fun _ => kc_ar_3 cc), (List.forall_mem_cons.mpr ⟨(fun _ => kc_ar_4 cc), (List.forall_mem_cons.mpr ⟨(fun _ => kc_ar_5 cc), (List.forall_mem_cons.mpr ⟨(fun _ => (kc_st_6 cc).2.2.2.2.1), (List.forall_mem_cons.mpr ⟨(fun _ => (kc_st_6 cc).2.2.2.2.2.1), (List.forall_mem_cons.mpr ⟨(fun _ => (kc_st_6 cc).2.2.2.2.2.2), (List.forall_mem_cons.mpr ⟨(fun _ => kc_ar_10 cc), (List.forall_mem_cons.mpr ⟨(fun _ => kc_ar_11 cc), (List.forall_mem_cons.mpr ⟨(fun _ => kc_ar_12 cc), (List.forall_mem_cons.mpr ⟨(fun _ => kc_ar_14 cc), (List.forall_mem_cons.mpr ⟨(fun _ => kc_ar_15 cc), (List.forall_mem_cons.mpr ⟨(fun _ => kc_ar_16 cc), (List.forall_mem_cons.mpr ⟨(fun _ => kc_ar_17 cc), (List.forall_mem_cons.mpr ⟨(fun _ => kc_ar_18 cc), (List.forall_mem_cons.mpr ⟨(fun _ => kc_ar_19 cc), (List.forall_mem_cons.mpr ⟨(fun _ => kc_ar_141 cc), (List.forall_mem_cons.mpr ⟨(fun _ => kc_ar_142 cc), (List.forall_mem_cons.mpr ⟨(fun _ => kc_ar_143 cc), (List.forall_mem_cons.mpr ⟨(fun _ => kc_ar_144 cc), (List.forall_mem_cons.mpr ⟨(fun _ => (kc_st_145 cc).2.2.2.2.1), (List.forall_mem_cons.mpr ⟨(fun _ => (kc_st_145 cc).2.2.2.2.2.1), (List.forall_mem_cons.mpr ⟨(fun _ => (kc_st_145 cc).2.2.2.2.2.2), (List.forall_mem_cons.mpr ⟨(fun _ => kc_ar_149 cc), (List.forall_mem_cons.mpr ⟨(fun _ => kc_ar_150 cc), (List.forall_mem_cons.mpr ⟨(fun _ => kc_ar_151 cc), (List.forall_mem_cons.mpr ⟨(fun _ => kc_ar_153 cc), (List.forall_mem_cons.mpr ⟨(fun _ => kc_ar_154 cc), (List.forall_mem_cons.mpr ⟨(fun _ => kc_ar_155 cc), (List.forall_mem_cons.mpr ⟨(fun _ => kc_ar_156 cc), (List.forall_mem_cons.mpr ⟨(fun _ => kc_ar_157 cc), (List.forall_mem_cons.mpr ⟨(fun _ => kc_ar_158 cc), (List.forall_mem_cons.mpr ⟨(fun _ => h279.2.1), (List.forall_mem_cons.mpr ⟨(fun _ => h279.2.2.1), (List.forall_mem_cons.mpr ⟨(fun _ => h282.2.1.2.2.2.2.1), (List.forall_mem_cons.mpr ⟨(fun _ => h282.2.1.2.2.2.2.2.1), (List.forall_mem_cons.mpr ⟨(fun _ => h282.2.1.2.2.2.2.2.2), (List.forall_mem_cons.mpr ⟨(fun _ => h287.2.1), (List.forall_mem_cons.mpr ⟨(fun _ => h287.2.2.1), (List.forall_mem_cons.mpr ⟨(fun _ => h287.2.2.2.1), (List.forall_mem_cons.mpr ⟨(fun _ => h291.2.1), (List.forall_mem_cons.mpr ⟨(fun _ => h291.2.2.1), (List.forall_mem_cons.mpr ⟨(fun _ => h291.2.2.2.1), (List.forall_mem_cons.mpr ⟨(fun _ => h295.2.1), (List.forall_mem_cons.mpr ⟨(fun _ => h295.2.2.1), (List.forall_mem_cons.mpr ⟨(fun _ => h295.2.2.2.1), (List.forall_mem_cons.mpr ⟨(fun _ => h299.2.1), (List.forall_mem_cons.mpr ⟨(fun _ => h299.2.2.1), (List.forall_mem_cons.mpr ⟨(fun _ => h299.2.2.2.1), (List.forall_mem_cons.mpr ⟨(fun _ => h303.2.1), (List.forall_mem_cons.mpr ⟨(fun _ => h303.2.2.1), (List.forall_mem_cons.mpr ⟨(fun h9 => absurd h9 (by decide)), (List.forall_mem_cons.mpr ⟨(fun h9 => absurd h9 (by decide)), (List.forall_mem_cons.mpr ⟨(fun h9 => absurd h9 (by decide)), (List.forall_mem_cons.mpr ⟨(fun h9 => absurd h9 (by decide)), (List.forall_mem_cons.mpr ⟨(fun h9 => absurd h9 (by decide)), (List.forall_mem_cons.mpr ⟨(fun h9 => absurd h9 (by decide)), (List.forall_mem_cons.mpr ⟨(fun h9 => absurd h9 (by decide)), (List.forall_mem_cons.mpr ⟨(fun h9 => absurd h9 (by decide)), (List.forall_mem_cons.mpr ⟨(fun h9 => absurd h9 (by decide)), (List.forall_mem_cons.mpr ⟨(fun h9 => absurd h9 (by decide)), (List.forall_mem_cons.mpr ⟨(fun h9 => absurd h9 (by decide)), (List.forall_mem_cons.mpr ⟨(fun h9 => absurd h9 (by decide)), (List.forall_mem_cons.mpr ⟨(fun h9 => absurd h9 (by decide)), (List.forall_mem_cons.mpr ⟨(fun h9 => absurd h9 (by decide)), (List.forall_mem_cons.mpr ⟨(fun h9 => absurd h9 (by decide)), (List.forall_mem_cons.mpr ⟨(fun h9 => absurd h9 (by decide)), (List.forall_mem_cons.mpr ⟨(fun h9 => absurd h9 (by decide)), (List.forall_mem_cons.mpr ⟨(fun h9 => absurd h9 (by decide)), (fun e he => by cases he)⟩)⟩)⟩)⟩)⟩)⟩)⟩)⟩)⟩)⟩)⟩)⟩)⟩)⟩)⟩)⟩)⟩)⟩)⟩)⟩)⟩)⟩)⟩)⟩)⟩)⟩)⟩)⟩)⟩)⟩)⟩)⟩)⟩)⟩)⟩)⟩)⟩)⟩)⟩)⟩)⟩)⟩)⟩)⟩)⟩)⟩)⟩)⟩)⟩)⟩)⟩)⟩)⟩)⟩)⟩)⟩)⟩)⟩)⟩)⟩)⟩)⟩)⟩)⟩)⟩)⟩)⟩)⟩)⟩), (List.forall_mem_cons.mpr ⟨(fun _ => h0.2.1), (List.forall_mem_cons.mpr ⟨(fun _ => h0.2.2.1), (List.forall_mem_cons.mpr ⟨(fun _ => h0.2.2.2.1), (List.forall_mem_cons.mpr ⟨(fun _ => h0.2.2.2.2.1), (List.forall_mem_cons.mpr ⟨(fun _ => h0.2.2.2.2.2.1), (List.forall_mem_cons.mpr ⟨(fun _ => h0.2.2.2.2.2.2.1), (List.forall_mem_cons.mpr ⟨(fun _ => h0.2.2.2.2.2.2.2.1), (List.forall_mem_cons.mpr ⟨(fun _ => h0.2.2.2.2.2.2.2.2.1), (List.forall_mem_cons.mpr ⟨(fun _ => h0.2.2.2.2.2.2.2.2.2), (List.forall_mem_cons.mpr ⟨(fun _ => kc_r_1_0 cc), (List.forall_mem_cons.mpr ⟨(fun _ => kc_r_1_1 cc), (List.forall_mem_cons.mpr ⟨(fun _ => kc_r_1_2 cc), (List.forall_mem_cons.mpr ⟨(fun _ => kc_r_1_3 cc), (List.forall_mem_cons.mpr ⟨(fun _ => kc_r_1_4 cc), (List.forall_mem_cons.mpr ⟨(fun _ => kc_r_1_5 cc), (List.forall_mem_cons.mpr ⟨(fun _ => kc_r_1_6 cc), (List.forall_mem_cons.mpr ⟨(fun _ => kc_r_1_7 cc), (List.forall_mem_cons.mpr ⟨(fun _ => kc_r_1_8 cc), (List.forall_mem_cons.mpr ⟨(fun _ => (kc_st_6 cc).2.1), (List.forall_mem_cons.mpr ⟨(fun _ => (kc_st_6 cc).2.2.1), (List.forall_mem_cons.mpr ⟨(fun _ => (kc_st_6 cc).2.2.2.1), (List.forall_mem_cons.mpr ⟨(fun _ => kc_r_13_0 cc), (List.forall_mem_cons.mpr ⟨(fun _ => kc_r_13_1 cc), (List.forall_mem_cons.mpr ⟨(fun _ => kc_r_13_2 cc), (List.forall_mem_cons.mpr ⟨(fun _ => kc_r_13_3 cc), (List.forall_mem_cons.mpr ⟨(fun _ => kc_r_13_4 cc), (List.forall_mem_cons.mpr ⟨(fun _ => kc_r_13_5 cc), (List.forall_mem_cons.mpr ⟨(fun _ => kc_r_140_0 cc), (List.forall_mem_cons.mpr ⟨(fun _ => kc_r_140_1 cc), (List.forall_mem_cons.mpr ⟨(fun _ => kc_r_140_2 cc), (List.forall_mem_cons.mpr ⟨(fun _ => kc_r_140_3 cc), (List.forall_mem_cons.mpr ⟨(fun _ => kc_r_140_4 cc), (List.forall_mem_cons.mpr ⟨(fun _ => kc_r_140_5 cc), (List.forall_mem_cons.mpr ⟨(fun _ => kc_r_140_6 cc), (List.forall_mem_cons.mpr ⟨(fun _ => kc_r_140_7 cc), (List.forall_mem_cons.mpr ⟨(fun _ => kc_r_140_8 cc), (List.forall_mem_cons.mpr ⟨(fun _ => (kc_st_145 cc).2.1), (List.forall_mem_cons.mpr ⟨(fun _ => (kc_st_145 cc).2.2.1), (List.forall_mem_cons.mpr ⟨(fun _ => (kc_st_145 cc).2.2.2.1), (List.forall_mem_cons.mpr ⟨(fun _ => kc_r_152_0 cc), (List.forall_mem_cons.mpr ⟨(fun _ => kc_r_152_1 cc), (List.forall_mem_cons.mpr ⟨(fun _ => kc_r_152_2 cc), (List.forall_mem_cons.mpr ⟨(fun _ => kc_r_152_3 cc), (List.forall_mem_cons.mpr ⟨(fun _ => kc_r_152_4 cc), (List.forall_mem_cons.mpr ⟨(fun _ => kc_r_152_5 cc), (List.forall_mem_cons.mpr ⟨(fun _ => h279.2.2.2.2.2), (List.forall_mem_cons.mpr ⟨(fun _ => h279.2.2.2.1), (List.forall_mem_cons.mpr ⟨(fun _ => h279.2.2.2.2.1), (List.forall_mem_cons.mpr ⟨(fun _ => h282.2.2.2.1), (List.forall_mem_cons.mpr ⟨(fun _ => h282.2.2.2.2), (List.forall_mem_cons.mpr ⟨(fun _ => h282.2.2.1), (List.forall_mem_cons.mpr ⟨(fun _ => h282.2.1.2.1), (List.forall_mem_cons.mpr ⟨(fun _ => h282.2.1.2.2.1), (List.forall_mem_cons.mpr ⟨(fun _ => h282.2.1.2.2.2.1), (List.forall_mem_cons.mpr ⟨(fun _ => h287.2.2.2.2.1), (List.forall_mem_cons.mpr ⟨(fun _ => h287.2.2.2.2.2.1), (List.forall_mem_cons.mpr ⟨(fun _ => h287.2.2.2.2.2.2), (List.forall_mem_cons.mpr ⟨(fun _ => h291.2.2.2.2.2.2.2.1), (List.forall_mem_cons.mpr ⟨(fun _ => h291.2.2.2.2.2.2.2.2), (List.forall_mem_cons.mpr ⟨(fun _ => h291.2.2.2.2.1), (List.forall_mem_cons.mpr ⟨(fun _ => h291.2.2.2.2.2.1), (List.forall_mem_cons.mpr ⟨(fun _ => h291.2.2.2.2.2.2.1), (List.forall_mem_cons.mpr ⟨(fun _ => h295.2.2.2.2.1), (List.forall_mem_cons.mpr ⟨(fun _ => h295.2.2.2.2.2.2.2.1), (List.forall_mem_cons.mpr ⟨(fun _ => h295.2.2.2.2.2.2.2.2), (List.forall_mem_cons.mpr ⟨(fun _ => h295.2.2.2.2.2.1), (List.forall_mem_cons.mpr ⟨(fun _ => h295.2.2.2.2.2.2.1), (List.forall_mem_cons.mpr ⟨(fun _ => h299.2.2.2.2.2.2.2), (List.forall_mem_cons.mpr ⟨(fun _ => h299.2.2.2.2.1), (List.forall_mem_cons.mpr ⟨(fun _ => h299.2.2.2.2.2.1), (List.forall_mem_cons.mpr ⟨(fun _ => h299.2.2.2.2.2.2.1), (List.forall_mem_cons.mpr ⟨(fun _ => h303.2.2.2.2.2), (List.forall_mem_cons.mpr ⟨(fun _ => h303.2.2.2.1), (List.forall_mem_cons.mpr ⟨(fun _ => h303.2.2.2.2.1), (List.forall_mem_cons.mpr ⟨(fun h9 => absurd h9 (by decide)), (List.forall_mem_cons.mpr ⟨(fun h9 => absurd h9 (by decide)), (List.forall_mem_cons.mpr ⟨(fun h9 => absurd h9 (by decide)), (List.forall_mem_cons.mpr ⟨(fun h9 => absurd h9 (by decide)), (List.forall_mem_cons.mpr ⟨(fun h9 => absurd h9 (by decide)), (List.forall_mem_cons.mpr ⟨(fun h9 => absurd h9 (by decide)), (List.forall_mem_cons.mpr ⟨(fun h9 => absurd h9 (by decide)), (List.forall_mem_cons.mpr ⟨(fun h9 => absurd h9 (by decide)), (List.forall_mem_cons.mpr ⟨(fun h9 => absurd h9 (by decide)), (List.forall_mem_cons.mpr ⟨(fun h9 => absurd h9 (by decide)), (List.forall_mem_cons.mpr ⟨(fun h9 => absurd h9 (by decide)), (List.forall_mem_cons.mpr ⟨(fun h9 => absurd h9 (by decide)), (List.forall_mem_cons.mpr ⟨(fun h9 => absurd h9 (by decide)), (List.forall_mem_cons.mpr ⟨(fun h9 => absurd h9 (by decide)), (List.forall_mem_cons.mpr ⟨(fun h9 => absurd h9 (by decide)), (List.forall_mem_cons.mpr ⟨(fun h9 => absurd h9 (by decide)), (List.forall_mem_cons.mpr ⟨(fun h9 => absurd h9 (by decide)), (List.forall_mem_cons.mpr ⟨(fun h9 => absurd h9 (by decide)), (fun e he => by cases he)⟩)⟩)⟩)⟩)⟩)⟩)⟩)⟩)⟩)⟩)⟩)⟩)⟩)⟩)⟩)⟩)⟩)⟩)⟩)⟩)⟩)⟩)⟩)⟩)⟩)⟩)⟩)⟩)⟩)⟩)⟩)⟩)⟩)⟩)⟩)⟩)⟩)⟩)⟩)⟩)⟩)⟩)⟩)⟩)⟩)⟩)⟩)⟩)⟩)⟩)⟩)⟩)⟩)⟩)⟩)⟩)⟩)⟩)⟩)⟩)⟩)⟩)⟩)⟩)⟩)⟩)⟩)⟩)⟩)⟩)⟩)⟩)⟩)⟩)⟩)⟩)⟩)⟩)⟩)⟩)⟩)⟩)⟩)⟩)⟩)⟩)⟩)⟩)⟩)⟩)⟩)⟩), fun i hi => kc_sp cc hi, fun i hi => kc_sk cc hi⟩
/-- what a new object of the class holds -/
def VzC (J : CI) : Prop := ClW J 1 A0 ∧ ClW J 140 A0 ∧ (∀ q, J 281 q = 0) ∧ (∀ q, J 288 q = 0) ∧ (∀ q, J 290 q = 0) ∧ (∀ q, J 304 q = 0) ∧ (∀ q, J 305 q = 0) ∧ J 287 3 = 0 ∧ J 287 4 = -1 ∧ J 287 5 = -1 ∧ J 287 12 = 0
theorem dX11_init_0 : decode prog_1_method_1_code 0 = .ok (.aload_n 0, 1) := by decide +kernel
theorem dX11_init_1 : decode prog_1_method_1_code 1 = .ok (.invokespecial 1, 3) := by decide +kernel
theorem dX11_init_4 : decode prog_1_method_1_code 4 = .ok (.aload_n 0, 1) := by decide +kernel
theorem dX11_init_5 : decode prog_1_method_1_code 5 = .ok (.new 7, 3) := by decide +kernel
theorem dX11_init_8 : decode prog_1_method_1_code 8 = .ok (.dup, 1) := by decide +kernel
theorem dX11_init_9 : decode prog_1_method_1_code 9 = .ok (.invokespecial 9, 3) := by decide +kernel
theorem dX11_init_12 : decode prog_1_method_1_code 12 = .ok (.putfield 10, 3) := by decide +kernel
theorem dX11_init_15 : decode prog_1_method_1_code 15 = .ok (.aload_n 0, 1) := by decide +kernel
theorem dX11_init_16 : decode prog_1_method_1_code 16 = .ok (.new 7, 3) := by decide +kernel
theorem dX11_init_19 : decode prog_1_method_1_code 19 = .ok (.dup, 1) := by decide +kernel
theorem dX11_init_20 : decode prog_1_method_1_code 20 = .ok (.invokespecial 9, 3) := by decide +kernel
theorem dX11_init_23 : decode prog_1_method_1_code 23 = .ok (.putfield 16, 3) := by decide +kernel
theorem dX11_init_26 : decode prog_1_method_1_code 26 = .ok (.aload_n 0, 1) := by decide +kernel
theorem dX11_init_27 : decode prog_1_method_1_code 27 = .ok (.new 19, 3) := by decide +kernel
theorem dX11_init_30 : decode prog_1_method_1_code 30 = .ok (.dup, 1) := by decide +kernel
theorem dX11_init_31 : decode prog_1_method_1_code 31 = .ok (.aload_n 0, 1) := by decide +kernel
theorem dX11_init_32 : decode prog_1_method_1_code 32 = .ok (.getfield 10, 3) := by decide +kernel
theorem dX11_init_35 : decode prog_1_method_1_code 35 = .ok (.invokespecial 21, 3) := by decide +kernel
theorem dX11_init_38 : decode prog_1_method_1_code 38 = .ok (.putfield 24, 3) := by decide +kernel
theorem dX11_init_41 : decode prog_1_method_1_code 41 = .ok (.aload_n 0, 1) := by decide +kernel
theorem dX11_init_42 : decode prog_1_method_1_code 42 = .ok (.new 28, 3) := by decide +kernel
theorem dX11_init_45 : decode prog_1_method_1_code 45 = .ok (.dup, 1) := by decide +kernel
theorem dX11_init_46 : decode prog_1_method_1_code 46 = .ok (.aload_n 0, 1) := by decide +kernel
theorem dX11_init_47 : decode prog_1_method_1_code 47 = .ok (.getfield 10, 3) := by decide +kernel
theorem dX11_init_50 : decode prog_1_method_1_code 50 = .ok (.aload_n 0, 1) := by decide +kernel
theorem dX11_init_51 : decode prog_1_method_1_code 51 = .ok (.getfield 24, 3) := by decide +kernel
theorem dX11_init_54 : decode prog_1_method_1_code 54 = .ok (.invokespecial 30, 3) := by decide +kernel
theorem dX11_init_57 : decode prog_1_method_1_code 57 = .ok (.putfield 33, 3) := by decide +kernel
theorem dX11_init_60 : decode prog_1_method_1_code 60 = .ok (.aload_n 0, 1) := by decide +kernel
theorem dX11_init_61 : decode prog_1_method_1_code 61 = .ok (.new 37, 3) := by decide +kernel
theorem dX11_init_64 : decode prog_1_method_1_code 64 = .ok (.dup, 1) := by decide +kernel
theorem dX11_init_65 : decode prog_1_method_1_code 65 = .ok (.invokespecial 39, 3) := by decide +kernel
theorem dX11_init_68 : decode prog_1_method_1_code 68 = .ok (.putfield 40, 3) := by decide +kernel
theorem dX11_init_71 : decode prog_1_method_1_code 71 = .ok (.aload_n 0, 1) := by decide +kernel
theorem dX11_init_72 : decode prog_1_method_1_code 72 = .ok (.new 44, 3) := by decide +kernel
theorem dX11_init_75 : decode prog_1_method_1_code 75 = .ok (.dup, 1) := by decide +kernel
theorem dX11_init_76 : decode prog_1_method_1_code 76 = .ok (.aload_n 0, 1) := by decide +kernel
theorem dX11_init_77 : decode prog_1_method_1_code 77 = .ok (.getfield 10, 3) := by decide +kernel
theorem dX11_init_80 : decode prog_1_method_1_code 80 = .ok (.aload_n 0, 1) := by decide +kernel
theorem dX11_init_81 : decode prog_1_method_1_code 81 = .ok (.getfield 24, 3) := by decide +kernel
theorem dX11_init_84 : decode prog_1_method_1_code 84 = .ok (.invokespecial 46, 3) := by decide +kernel
theorem dX11_init_87 : decode prog_1_method_1_code 87 = .ok (.putfield 47, 3) := by decide +kernel
theorem dX11_init_90 : decode prog_1_method_1_code 90 = .ok (.aload_n 0, 1) := by decide +kernel
theorem dX11_init_91 : decode prog_1_method_1_code 91 = .ok (.new 51, 3) := by decide +kernel
theorem dX11_init_94 : decode prog_1_method_1_code 94 = .ok (.dup, 1) := by decide +kernel
theorem dX11_init_95 : decode prog_1_method_1_code 95 = .ok (.aload_n 0, 1) := by decide +kernel
theorem dX11_init_96 : decode prog_1_method_1_code 96 = .ok (.getfield 10, 3) := by decide +kernel
theorem dX11_init_99 : decode prog_1_method_1_code 99 = .ok (.aload_n 0, 1) := by decide +kernel
theorem dX11_init_100 : decode prog_1_method_1_code 100 = .ok (.getfield 24, 3) := by decide +kernel
theorem dX11_init_103 : decode prog_1_method_1_code 103 = .ok (.invokespecial 53, 3) := by decide +kernel
theorem dX11_init_106 : decode prog_1_method_1_code 106 = .ok (.putfield 54, 3) := by decide +kernel
theorem dX11_init_109 : decode prog_1_method_1_code 109 = .ok (.aload_n 0, 1) := by decide +kernel
theorem dX11_init_110 : decode prog_1_method_1_code 110 = .ok (.new 58, 3) := by decide +kernel
theorem dX11_init_113 : decode prog_1_method_1_code 113 = .ok (.dup, 1) := by decide +kernel
theorem dX11_init_114 : decode prog_1_method_1_code 114 = .ok (.aload_n 0, 1) := by decide +kernel
theorem dX11_init_115 : decode prog_1_method_1_code 115 = .ok (.getfield 10, 3) := by decide +kernel
theorem dX11_init_118 : decode prog_1_method_1_code 118 = .ok (.invokespecial 60, 3) := by decide +kernel
theorem dX11_init_121 : decode prog_1_method_1_code 121 = .ok (.putfield 61, 3) := by decide +kernel
theorem dX11_init_124 : decode prog_1_method_1_code 124 = .ok (.aload_n 0, 1) := by decide +kernel
theorem dX11_init_125 : decode prog_1_method_1_code 125 = .ok (.new 65, 3) := by decide +kernel
theorem dX11_init_128 : decode prog_1_method_1_code 128 = .ok (.dup, 1) := by decide +kernel
theorem dX11_init_129 : decode prog_1_method_1_code 129 = .ok (.aload_n 0, 1) := by decide +kernel
theorem dX11_init_130 : decode prog_1_method_1_code 130 = .ok (.getfield 10, 3) := by decide +kernel
theorem dX11_init_133 : decode prog_1_method_1_code 133 = .ok (.getfield 67, 3) := by decide +kernel
theorem dX11_init_136 : decode prog_1_method_1_code 136 = .ok (.invokespecial 71, 3) := by decide +kernel
theorem dX11_init_139 : decode prog_1_method_1_code 139 = .ok (.putfield 74, 3) := by decide +kernel
theorem dX11_init_142 : decode prog_1_method_1_code 142 = .ok (.aload_n 0, 1) := by decide +kernel
theorem dX11_init_143 : decode prog_1_method_1_code 143 = .ok (.getfield 16, 3) := by decide +kernel
theorem dX11_init_146 : decode prog_1_method_1_code 146 = .ok (.aload_n 0, 1) := by decide +kernel
theorem dX11_init_147 : decode prog_1_method_1_code 147 = .ok (.getfield 10, 3) := by decide +kernel
theorem dX11_init_150 : decode prog_1_method_1_code 150 = .ok (.invokevirtual 78, 3) := by decide +kernel
theorem dX11_init_153 : decode prog_1_method_1_code 153 = .ok (.return_, 1) := by decide +kernel
theorem sp_X11_init (hn : 8 ≤ n) (hb : OB S 0 11) (hS : S.1 = 1) (hrb : RB S R) (hp : ∀ (S2 : Sh) (J : CI) (R2 : CR), Gr S S2 → S2.1 = 306 → RB S2 R2 → CsC S2 R2 → (∀ q, q < 4 → R2 12 q = none ∧ R2 151 q = none) → VzC J → Post none S2 J R2) : Call n 305 4244 mX11_init [.ref (S.2.1 0)] S I R Post := by
  have n0 : nfd 0 = 3 := rfl
  have n1 : nfd 1 = 5 := rfl
  have n2 : nfd 2 = 4 := rfl
  have n3 : nfd 3 = 3 := rfl
  have n4 : nfd 4 = 7 := rfl
  have n5 : nfd 5 = 17 := rfl
  have n7 : nfd 7 = 5 := rfl
  have n10 : nfd 10 = 13 := rfl
  have l0 : S.1 = 1 := hS
  have ob0 := hb
  have rb0 := hrb
  refine Call.of (by decide +kernel) (Nat.le_of_ble_eq_true rfl) ?_
  show WP _ _ _ _ _ 0 [(0, _)] [] 0 0 _ _ _
  refine x_aload_n dX11_init_0 rfl ?_
  refine x_objInit dX11_init_1 oi_RX11_1 (by omega) (Nat.le_of_ble_eq_true rfl) ?_
  refine x_aload_n dX11_init_4 rfl ?_
  refine x_new dX11_init_5 nw_RX11_7 rb0 (by omega) (by omega) (fun T1 w1 => ?_)
  have lw1 : T1.1 = 2 := by rw [w1.1]; omega
  have nb1 : OB T1 1 10 := by have h9 := Nw.nob w1; rw [l0] at h9; exact h9
  have no1 := Nw.ob w1 ob0
  rw [l0, ← Gr.ad (Nw.gr w1) (a := 0) (by omega)]
  refine x_dup dX11_init_8 rfl ?_
  refine x_callI0 (b := 1) (mc1 := 138) (ms1 := 1265) dX11_init_9 cv_RX11_9 (Nat.le_of_ble_eq_true rfl) (n1 := n - 1) (by omega) (by omega) (by omega) ?_
  refine sp_X10_init (b := 1) (by omega) nb1 lw1 (RB.zr rb0 (Nw.gr w1).1 _) (fun q => zI_s _ _ _) (fun S1 J1 Q1 gx1 lx1 rx1 fx1 sh1 va1 => ?_)
  show WP n 305 4244 mX11_init Post 12 _ [.ref (T1.2.1 1), .ref (T1.2.1 0)] _ _ S1 J1 Q1
  rw [← Gr.ad gx1 (a := 0) (by omega), ← Gr.ad gx1 (a := 1) (by omega)]
  refine x_putRF dX11_init_12 gf_RX11_10 (Gr.ob gx1 no1) rfl (fun _ _ => rfl) (fun _ => rfl) (fun _ => rfl) rfl rfl ?_
  obtain ⟨R1, hR1⟩ : ∃ R1, R1 = uR Q1 0 0 (some 1) := ⟨_, rfl⟩
  rw [← hR1]
  have gq1 : Gr S S1 := Gr.tr (Nw.gr w1) gx1
  have l1 : S1.1 = 140 := lx1
  have ob1 := Gr.ob gq1 ob0
  have rb1 : RB S1 R1 := by rw [hR1]; exact RB.ur rx1 (fun q hq => by have h9 := Option.some.inj hq; omega)
  have fJ1 : ∀ x, x < 1 → J1 x = I x := fun x hx => by rw [(fx1 x hx).1, zI_o (by omega)]
  have fR1 : ∀ x q, x < 1 → (x ≠ 0 ∨ q ≠ 0) → R1 x q = R x q := fun x q h1 h2 => by rw [hR1, uR_o h2, (fx1 x h1).2, zR_o (by omega)]
  have qR1 : ∀ x, x ≠ 0 → R1 x = Q1 x := fun x hx => by rw [hR1, uR_row hx]
  have f0_1 : R1 0 0 = some 1 := by rw [hR1]; exact uR_s _ _ _ _
  have ft_1 : R1 1 8 = some 13 := by rw [qR1 1 (by omega)]; exact sh1.1.2.1.2.2.2.2.2.2.2.2
  refine x_kj (k2 := 139) (j2 := 1278) rfl rfl ?_
  refine x_aload_n dX11_init_15 rfl ?_
  refine x_new dX11_init_16 nw_RX11_7 rb1 (by omega) (by omega) (fun T2 w2 => ?_)
  have lw2 : T2.1 = 141 := by rw [w2.1]; omega
  have nb2 : OB T2 140 10 := by have h9 := Nw.nob w2; rw [l1] at h9; exact h9
  have no2 := Nw.ob w2 ob1
  rw [l1, ← Gr.ad (Nw.gr w2) (a := 0) (by omega)]
  refine x_dup dX11_init_19 rfl ?_
  refine x_callI0 (b := 140) (mc1 := 138) (ms1 := 1265) dX11_init_20 cv_RX11_9 (Nat.le_of_ble_eq_true rfl) (n1 := n - 1) (by omega) (by omega) (by omega) ?_
  refine sp_X10_init (b := 140) (by omega) nb2 lw2 (RB.zr rb1 (Nw.gr w2).1 _) (fun q => zI_s _ _ _) (fun S2 J2 Q2 gx2 lx2 rx2 fx2 sh2 va2 => ?_)
  show WP n 305 4244 mX11_init Post 23 _ [.ref (T2.2.1 140), .ref (T2.2.1 0)] _ _ S2 J2 Q2
  rw [← Gr.ad gx2 (a := 0) (by omega), ← Gr.ad gx2 (a := 140) (by omega)]
  refine x_putRF dX11_init_23 gf_RX11_16 (Gr.ob gx2 no2) rfl (fun _ _ => rfl) (fun _ => rfl) (fun _ => rfl) rfl rfl ?_
  obtain ⟨R2, hR2⟩ : ∃ R2, R2 = uR Q2 0 1 (some 140) := ⟨_, rfl⟩
  rw [← hR2]
  have gq2 : Gr S1 S2 := Gr.tr (Nw.gr w2) gx2
  have l2 : S2.1 = 279 := lx2
  have ob2 := Gr.ob gq2 ob1
  have rb2 : RB S2 R2 := by rw [hR2]; exact RB.ur rx2 (fun q hq => by have h9 := Option.some.inj hq; omega)
  have fJ2 : ∀ x, x < 140 → J2 x = J1 x := fun x hx => by rw [(fx2 x hx).1, zI_o (by omega)]
  have fR2 : ∀ x q, x < 140 → (x ≠ 0 ∨ q ≠ 1) → R2 x q = R1 x q := fun x q h1 h2 => by rw [hR2, uR_o h2, (fx2 x h1).2, zR_o (by omega)]
  have qR2 : ∀ x, x ≠ 0 → R2 x = Q2 x := fun x hx => by rw [hR2, uR_row hx]
  have f1_2 : R2 0 1 = some 140 := by rw [hR2]; exact uR_s _ _ _ _
  have f0_2 : R2 0 0 = some 1 := by rw [fR2 0 0 (by omega) (by omega)]; exact f0_1
  have ft_2 : R2 1 8 = some 13 := by rw [fR2 1 8 (by omega) (by omega)]; exact ft_1
  refine x_kj (k2 := 278) (j2 := 2556) rfl rfl ?_
  refine x_aload_n dX11_init_26 rfl ?_
  refine x_new dX11_init_27 nw_RX11_19 rb2 (by omega) (by omega) (fun T3 w3 => ?_)
  have lw3 : T3.1 = 280 := by rw [w3.1]; omega
  have nb3 : OB T3 279 3 := by have h9 := Nw.nob w3; rw [l2] at h9; exact h9
  have no3 := Nw.ob w3 ob2
  rw [l2, ← Gr.ad (Nw.gr w3) (a := 0) (by omega)]
  refine x_dup dX11_init_30 rfl ?_
  refine x_aload_n dX11_init_31 rfl ?_
  refine x_getR (b := 1) dX11_init_32 gf_RX11_10 no3 (fun _ _ => rfl) (by rw [zR_o (by omega)]; exact f0_2) ?_
  refine x_callI1 (b := 279) (mc1 := 2) (ms1 := 311) dX11_init_35 cv_RX11_21 (Nat.le_of_ble_eq_true rfl) (n1 := n - 1) (by omega) (by omega) (by omega) ?_
  refine sp_X3_init (b := 279) (w := 1) (by omega) nb3 (by omega) lw3 (RB.zr rb2 (Nw.gr w3).1 _) (fun q => zI_s _ _ _) (fun S3 J3 Q3 gx3 lx3 rx3 fx3 sh3 va3 => ?_)
  show WP n 305 4244 mX11_init Post 38 _ [.ref (T3.2.1 279), .ref (T3.2.1 0)] _ _ S3 J3 Q3
  rw [← Gr.ad gx3 (a := 0) (by omega), ← Gr.ad gx3 (a := 279) (by omega)]
  refine x_putRF dX11_init_38 gf_RX11_24 (Gr.ob gx3 no3) rfl (fun _ _ => rfl) (fun _ => rfl) (fun _ => rfl) rfl rfl ?_
  obtain ⟨R3, hR3⟩ : ∃ R3, R3 = uR Q3 0 2 (some 279) := ⟨_, rfl⟩
  rw [← hR3]
  have gq3 : Gr S2 S3 := Gr.tr (Nw.gr w3) gx3
  have l3 : S3.1 = 282 := lx3
  have ob3 := Gr.ob gq3 ob2
  have rb3 : RB S3 R3 := by rw [hR3]; exact RB.ur rx3 (fun q hq => by have h9 := Option.some.inj hq; omega)
  have fJ3 : ∀ x, x < 279 → J3 x = J2 x := fun x hx => by rw [(fx3 x hx).1, zI_o (by omega)]
  have fR3 : ∀ x q, x < 279 → (x ≠ 0 ∨ q ≠ 2) → R3 x q = R2 x q := fun x q h1 h2 => by rw [hR3, uR_o h2, (fx3 x h1).2, zR_o (by omega)]
  have qR3 : ∀ x, x ≠ 0 → R3 x = Q3 x := fun x hx => by rw [hR3, uR_row hx]
  have f2_3 : R3 0 2 = some 279 := by rw [hR3]; exact uR_s _ _ _ _
  have f0_3 : R3 0 0 = some 1 := by rw [fR3 0 0 (by omega) (by omega)]; exact f0_2
  have f1_3 : R3 0 1 = some 140 := by rw [fR3 0 1 (by omega) (by omega)]; exact f1_2
  have ft_3 : R3 1 8 = some 13 := by rw [fR3 1 8 (by omega) (by omega)]; exact ft_2
  refine x_kj (k2 := 281) (j2 := 2870) rfl rfl ?_
  refine x_aload_n dX11_init_41 rfl ?_
  refine x_new dX11_init_42 nw_RX11_28 rb3 (by omega) (by omega) (fun T4 w4 => ?_)
  have lw4 : T4.1 = 283 := by rw [w4.1]; omega
  have nb4 : OB T4 282 0 := by have h9 := Nw.nob w4; rw [l3] at h9; exact h9
  have no4 := Nw.ob w4 ob3
  rw [l3, ← Gr.ad (Nw.gr w4) (a := 0) (by omega)]
  refine x_dup dX11_init_45 rfl ?_
  refine x_aload_n dX11_init_46 rfl ?_
  refine x_getR (b := 1) dX11_init_47 gf_RX11_10 no4 (fun _ _ => rfl) (by rw [zR_o (by omega)]; exact f0_3) ?_
  refine x_aload_n dX11_init_50 rfl ?_
  refine x_getR (b := 279) dX11_init_51 gf_RX11_24 no4 (fun _ _ => rfl) (by rw [zR_o (by omega)]; exact f2_3) ?_
  refine x_callI2 (b := 282) (mc1 := 4) (ms1 := 33) dX11_init_54 cv_RX11_30 (Nat.le_of_ble_eq_true rfl) (n1 := n - 1) (by omega) (by omega) (by omega) ?_
  refine sp_X0_init (b := 282) (w := 1) (v := 279) (by omega) nb4 (by omega) (by omega) lw4 (RB.zr rb3 (Nw.gr w4).1 _) (fun q => zI_s _ _ _) (fun S4 J4 Q4 gx4 lx4 rx4 fx4 sh4 va4 => ?_)
  show WP n 305 4244 mX11_init Post 57 _ [.ref (T4.2.1 282), .ref (T4.2.1 0)] _ _ S4 J4 Q4
  rw [← Gr.ad gx4 (a := 0) (by omega), ← Gr.ad gx4 (a := 282) (by omega)]
  refine x_putRF dX11_init_57 gf_RX11_33 (Gr.ob gx4 no4) rfl (fun _ _ => rfl) (fun _ => rfl) (fun _ => rfl) rfl rfl ?_
  obtain ⟨R4, hR4⟩ : ∃ R4, R4 = uR Q4 0 3 (some 282) := ⟨_, rfl⟩
  rw [← hR4]
  have gq4 : Gr S3 S4 := Gr.tr (Nw.gr w4) gx4
  have l4 : S4.1 = 287 := lx4
  have ob4 := Gr.ob gq4 ob3
  have rb4 : RB S4 R4 := by rw [hR4]; exact RB.ur rx4 (fun q hq => by have h9 := Option.some.inj hq; omega)
  have fJ4 : ∀ x, x < 282 → J4 x = J3 x := fun x hx => by rw [(fx4 x hx).1, zI_o (by omega)]
  have fR4 : ∀ x q, x < 282 → (x ≠ 0 ∨ q ≠ 3) → R4 x q = R3 x q := fun x q h1 h2 => by rw [hR4, uR_o h2, (fx4 x h1).2, zR_o (by omega)]
  have qR4 : ∀ x, x ≠ 0 → R4 x = Q4 x := fun x hx => by rw [hR4, uR_row hx]
  have f3_4 : R4 0 3 = some 282 := by rw [hR4]; exact uR_s _ _ _ _
  have f0_4 : R4 0 0 = some 1 := by rw [fR4 0 0 (by omega) (by omega)]; exact f0_3
  have f1_4 : R4 0 1 = some 140 := by rw [fR4 0 1 (by omega) (by omega)]; exact f1_3
  have f2_4 : R4 0 2 = some 279 := by rw [fR4 0 2 (by omega) (by omega)]; exact f2_3
  have ft_4 : R4 1 8 = some 13 := by rw [fR4 1 8 (by omega) (by omega)]; exact ft_3
  refine x_kj (k2 := 286) (j2 := 2906) rfl rfl ?_
  refine x_aload_n dX11_init_60 rfl ?_
  refine x_new dX11_init_61 nw_RX11_37 rb4 (by omega) (by omega) (fun T5 w5 => ?_)
  have lw5 : T5.1 = 288 := by rw [w5.1]; omega
  have nb5 : OB T5 287 5 := by have h9 := Nw.nob w5; rw [l4] at h9; exact h9
  have no5 := Nw.ob w5 ob4
  rw [l4, ← Gr.ad (Nw.gr w5) (a := 0) (by omega)]
  refine x_dup dX11_init_64 rfl ?_
  refine x_callIN0 (b := 287) (mc1 := 3) (ms1 := 696) dX11_init_65 cv_RX11_39 (Nat.le_of_ble_eq_true rfl) (n1 := n - 1) (by omega) (by omega) (by omega) ?_
  refine sp_X5_init (b := 287) (by omega) nb5 lw5 (RB.zr rb4 (Nw.gr w5).1 _) (fun q => zI_s _ _ _) (fun S5 J5 Q5 gx5 lx5 rx5 fx5 sh5 va5 => ?_)
  show WP n 305 4244 mX11_init Post 68 _ [.ref (T5.2.1 287), .ref (T5.2.1 0)] _ _ S5 J5 Q5
  rw [← Gr.ad gx5 (a := 0) (by omega), ← Gr.ad gx5 (a := 287) (by omega)]
  refine x_putRF dX11_init_68 gf_RX11_40 (Gr.ob gx5 no5) rfl (fun _ _ => rfl) (fun _ => rfl) (fun _ => rfl) rfl rfl ?_
  obtain ⟨R5, hR5⟩ : ∃ R5, R5 = uR Q5 0 4 (some 287) := ⟨_, rfl⟩
  rw [← hR5]
  have gq5 : Gr S4 S5 := Gr.tr (Nw.gr w5) gx5
  have l5 : S5.1 = 291 := lx5
  have ob5 := Gr.ob gq5 ob4
  have rb5 : RB S5 R5 := by rw [hR5]; exact RB.ur rx5 (fun q hq => by have h9 := Option.some.inj hq; omega)
  have fJ5 : ∀ x, x < 287 → J5 x = J4 x := fun x hx => by rw [(fx5 x hx).1, zI_o (by omega)]
  have fR5 : ∀ x q, x < 287 → (x ≠ 0 ∨ q ≠ 4) → R5 x q = R4 x q := fun x q h1 h2 => by rw [hR5, uR_o h2, (fx5 x h1).2, zR_o (by omega)]
  have qR5 : ∀ x, x ≠ 0 → R5 x = Q5 x := fun x hx => by rw [hR5, uR_row hx]
  have f4_5 : R5 0 4 = some 287 := by rw [hR5]; exact uR_s _ _ _ _
  have f0_5 : R5 0 0 = some 1 := by rw [fR5 0 0 (by omega) (by omega)]; exact f0_4
  have f1_5 : R5 0 1 = some 140 := by rw [fR5 0 1 (by omega) (by omega)]; exact f1_4
  have f2_5 : R5 0 2 = some 279 := by rw [fR5 0 2 (by omega) (by omega)]; exact f2_4
  have f3_5 : R5 0 3 = some 282 := by rw [fR5 0 3 (by omega) (by omega)]; exact f3_4
  have ft_5 : R5 1 8 = some 13 := by rw [fR5 1 8 (by omega) (by omega)]; exact ft_4
  refine x_kj (k2 := 290) (j2 := 3619) rfl rfl ?_
  refine x_aload_n dX11_init_71 rfl ?_
  refine x_new dX11_init_72 nw_RX11_44 rb5 (by omega) (by omega) (fun T6 w6 => ?_)
  have lw6 : T6.1 = 292 := by rw [w6.1]; omega
  have nb6 : OB T6 291 7 := by have h9 := Nw.nob w6; rw [l5] at h9; exact h9
  have no6 := Nw.ob w6 ob5
  rw [l5, ← Gr.ad (Nw.gr w6) (a := 0) (by omega)]
  refine x_dup dX11_init_75 rfl ?_
  refine x_aload_n dX11_init_76 rfl ?_
  refine x_getR (b := 1) dX11_init_77 gf_RX11_10 no6 (fun _ _ => rfl) (by rw [zR_o (by omega)]; exact f0_5) ?_
  refine x_aload_n dX11_init_80 rfl ?_
  refine x_getR (b := 279) dX11_init_81 gf_RX11_24 no6 (fun _ _ => rfl) (by rw [zR_o (by omega)]; exact f2_5) ?_
  refine x_callI2 (b := 291) (mc1 := 3) (ms1 := 48) dX11_init_84 cv_RX11_46 (Nat.le_of_ble_eq_true rfl) (n1 := n - 1) (by omega) (by omega) (by omega) ?_
  refine sp_X7_init (b := 291) (w := 1) (v := 279) (by omega) nb6 (by omega) (by omega) lw6 (RB.zr rb5 (Nw.gr w6).1 _) (fun q => zI_s _ _ _) (fun S6 J6 Q6 gx6 lx6 rx6 fx6 sh6 va6 => ?_)
  show WP n 305 4244 mX11_init Post 87 _ [.ref (T6.2.1 291), .ref (T6.2.1 0)] _ _ S6 J6 Q6
  rw [← Gr.ad gx6 (a := 0) (by omega), ← Gr.ad gx6 (a := 291) (by omega)]
  refine x_putRF dX11_init_87 gf_RX11_47 (Gr.ob gx6 no6) rfl (fun _ _ => rfl) (fun _ => rfl) (fun _ => rfl) rfl rfl ?_
  obtain ⟨R6, hR6⟩ : ∃ R6, R6 = uR Q6 0 5 (some 291) := ⟨_, rfl⟩
  rw [← hR6]
  have gq6 : Gr S5 S6 := Gr.tr (Nw.gr w6) gx6
  have l6 : S6.1 = 295 := lx6
  have ob6 := Gr.ob gq6 ob5
  have rb6 : RB S6 R6 := by rw [hR6]; exact RB.ur rx6 (fun q hq => by have h9 := Option.some.inj hq; omega)
  have fJ6 : ∀ x, x < 291 → J6 x = J5 x := fun x hx => by rw [(fx6 x hx).1, zI_o (by omega)]
  have fR6 : ∀ x q, x < 291 → (x ≠ 0 ∨ q ≠ 5) → R6 x q = R5 x q := fun x q h1 h2 => by rw [hR6, uR_o h2, (fx6 x h1).2, zR_o (by omega)]
  have qR6 : ∀ x, x ≠ 0 → R6 x = Q6 x := fun x hx => by rw [hR6, uR_row hx]
  have f5_6 : R6 0 5 = some 291 := by rw [hR6]; exact uR_s _ _ _ _
  have f0_6 : R6 0 0 = some 1 := by rw [fR6 0 0 (by omega) (by omega)]; exact f0_5
  have f1_6 : R6 0 1 = some 140 := by rw [fR6 0 1 (by omega) (by omega)]; exact f1_5
  have f2_6 : R6 0 2 = some 279 := by rw [fR6 0 2 (by omega) (by omega)]; exact f2_5
  have f3_6 : R6 0 3 = some 282 := by rw [fR6 0 3 (by omega) (by omega)]; exact f3_5
  have f4_6 : R6 0 4 = some 287 := by rw [fR6 0 4 (by omega) (by omega)]; exact f4_5
  have ft_6 : R6 1 8 = some 13 := by rw [fR6 1 8 (by omega) (by omega)]; exact ft_5
  refine x_kj (k2 := 294) (j2 := 3672) rfl rfl ?_
  refine x_aload_n dX11_init_90 rfl ?_
  refine x_new dX11_init_91 nw_RX11_51 rb6 (by omega) (by omega) (fun T7 w7 => ?_)
  have lw7 : T7.1 = 296 := by rw [w7.1]; omega
  have nb7 : OB T7 295 4 := by have h9 := Nw.nob w7; rw [l6] at h9; exact h9
  have no7 := Nw.ob w7 ob6
  rw [l6, ← Gr.ad (Nw.gr w7) (a := 0) (by omega)]
  refine x_dup dX11_init_94 rfl ?_
  refine x_aload_n dX11_init_95 rfl ?_
  refine x_getR (b := 1) dX11_init_96 gf_RX11_10 no7 (fun _ _ => rfl) (by rw [zR_o (by omega)]; exact f0_6) ?_
  refine x_aload_n dX11_init_99 rfl ?_
  refine x_getR (b := 279) dX11_init_100 gf_RX11_24 no7 (fun _ _ => rfl) (by rw [zR_o (by omega)]; exact f2_6) ?_
  refine x_callI2 (b := 295) (mc1 := 3) (ms1 := 18) dX11_init_103 cv_RX11_53 (Nat.le_of_ble_eq_true rfl) (n1 := n - 1) (by omega) (by omega) (by omega) ?_
  refine sp_X4_init (b := 295) (w := 1) (v := 279) (by omega) nb7 (by omega) (by omega) lw7 (RB.zr rb6 (Nw.gr w7).1 _) (fun q => zI_s _ _ _) (fun S7 J7 Q7 gx7 lx7 rx7 fx7 sh7 va7 => ?_)
  show WP n 305 4244 mX11_init Post 106 _ [.ref (T7.2.1 295), .ref (T7.2.1 0)] _ _ S7 J7 Q7
  rw [← Gr.ad gx7 (a := 0) (by omega), ← Gr.ad gx7 (a := 295) (by omega)]
  refine x_putRF dX11_init_106 gf_RX11_54 (Gr.ob gx7 no7) rfl (fun _ _ => rfl) (fun _ => rfl) (fun _ => rfl) rfl rfl ?_
  obtain ⟨R7, hR7⟩ : ∃ R7, R7 = uR Q7 0 6 (some 295) := ⟨_, rfl⟩
  rw [← hR7]
  have gq7 : Gr S6 S7 := Gr.tr (Nw.gr w7) gx7
  have l7 : S7.1 = 299 := lx7
  have ob7 := Gr.ob gq7 ob6
  have rb7 : RB S7 R7 := by rw [hR7]; exact RB.ur rx7 (fun q hq => by have h9 := Option.some.inj hq; omega)
  have fJ7 : ∀ x, x < 295 → J7 x = J6 x := fun x hx => by rw [(fx7 x hx).1, zI_o (by omega)]
  have fR7 : ∀ x q, x < 295 → (x ≠ 0 ∨ q ≠ 6) → R7 x q = R6 x q := fun x q h1 h2 => by rw [hR7, uR_o h2, (fx7 x h1).2, zR_o (by omega)]
  have qR7 : ∀ x, x ≠ 0 → R7 x = Q7 x := fun x hx => by rw [hR7, uR_row hx]
  have f6_7 : R7 0 6 = some 295 := by rw [hR7]; exact uR_s _ _ _ _
  have f0_7 : R7 0 0 = some 1 := by rw [fR7 0 0 (by omega) (by omega)]; exact f0_6
  have f1_7 : R7 0 1 = some 140 := by rw [fR7 0 1 (by omega) (by omega)]; exact f1_6
  have f2_7 : R7 0 2 = some 279 := by rw [fR7 0 2 (by omega) (by omega)]; exact f2_6
  have f3_7 : R7 0 3 = some 282 := by rw [fR7 0 3 (by omega) (by omega)]; exact f3_6
  have f4_7 : R7 0 4 = some 287 := by rw [fR7 0 4 (by omega) (by omega)]; exact f4_6
  have f5_7 : R7 0 5 = some 291 := by rw [fR7 0 5 (by omega) (by omega)]; exact f5_6
  have ft_7 : R7 1 8 = some 13 := by rw [fR7 1 8 (by omega) (by omega)]; exact ft_6
  refine x_kj (k2 := 298) (j2 := 3697) rfl rfl ?_
  refine x_aload_n dX11_init_109 rfl ?_
  refine x_new dX11_init_110 nw_RX11_58 rb7 (by omega) (by omega) (fun T8 w8 => ?_)
  have lw8 : T8.1 = 300 := by rw [w8.1]; omega
  have nb8 : OB T8 299 2 := by have h9 := Nw.nob w8; rw [l7] at h9; exact h9
  have no8 := Nw.ob w8 ob7
  rw [l7, ← Gr.ad (Nw.gr w8) (a := 0) (by omega)]
  refine x_dup dX11_init_113 rfl ?_
  refine x_aload_n dX11_init_114 rfl ?_
  refine x_getR (b := 1) dX11_init_115 gf_RX11_10 no8 (fun _ _ => rfl) (by rw [zR_o (by omega)]; exact f0_7) ?_
  refine x_callI1 (b := 299) (mc1 := 3) (ms1 := 518) dX11_init_118 cv_RX11_60 (Nat.le_of_ble_eq_true rfl) (n1 := n - 1) (by omega) (by omega) (by omega) ?_
  refine sp_X2_init (b := 299) (w := 1) (by omega) nb8 (by omega) lw8 (RB.zr rb7 (Nw.gr w8).1 _) (fun q => zI_s _ _ _) (fun S8 J8 Q8 gx8 lx8 rx8 fx8 sh8 va8 => ?_)
  show WP n 305 4244 mX11_init Post 121 _ [.ref (T8.2.1 299), .ref (T8.2.1 0)] _ _ S8 J8 Q8
  rw [← Gr.ad gx8 (a := 0) (by omega), ← Gr.ad gx8 (a := 299) (by omega)]
  refine x_putRF dX11_init_121 gf_RX11_61 (Gr.ob gx8 no8) rfl (fun _ _ => rfl) (fun _ => rfl) (fun _ => rfl) rfl rfl ?_
  obtain ⟨R8, hR8⟩ : ∃ R8, R8 = uR Q8 0 7 (some 299) := ⟨_, rfl⟩
  rw [← hR8]
  have gq8 : Gr S7 S8 := Gr.tr (Nw.gr w8) gx8
  have l8 : S8.1 = 303 := lx8
  have ob8 := Gr.ob gq8 ob7
  have rb8 : RB S8 R8 := by rw [hR8]; exact RB.ur rx8 (fun q hq => by have h9 := Option.some.inj hq; omega)
  have fJ8 : ∀ x, x < 299 → J8 x = J7 x := fun x hx => by rw [(fx8 x hx).1, zI_o (by omega)]
  have fR8 : ∀ x q, x < 299 → (x ≠ 0 ∨ q ≠ 7) → R8 x q = R7 x q := fun x q h1 h2 => by rw [hR8, uR_o h2, (fx8 x h1).2, zR_o (by omega)]
  have qR8 : ∀ x, x ≠ 0 → R8 x = Q8 x := fun x hx => by rw [hR8, uR_row hx]
  have f7_8 : R8 0 7 = some 299 := by rw [hR8]; exact uR_s _ _ _ _
  have f0_8 : R8 0 0 = some 1 := by rw [fR8 0 0 (by omega) (by omega)]; exact f0_7
  have f1_8 : R8 0 1 = some 140 := by rw [fR8 0 1 (by omega) (by omega)]; exact f1_7
  have f2_8 : R8 0 2 = some 279 := by rw [fR8 0 2 (by omega) (by omega)]; exact f2_7
  have f3_8 : R8 0 3 = some 282 := by rw [fR8 0 3 (by omega) (by omega)]; exact f3_7
  have f4_8 : R8 0 4 = some 287 := by rw [fR8 0 4 (by omega) (by omega)]; exact f4_7
  have f5_8 : R8 0 5 = some 291 := by rw [fR8 0 5 (by omega) (by omega)]; exact f5_7
  have f6_8 : R8 0 6 = some 295 := by rw [fR8 0 6 (by omega) (by omega)]; exact f6_7
  have ft_8 : R8 1 8 = some 13 := by rw [fR8 1 8 (by omega) (by omega)]; exact ft_7
  refine x_kj (k2 := 302) (j2 := 4219) rfl rfl ?_
  refine x_aload_n dX11_init_124 rfl ?_
  refine x_new dX11_init_125 nw_RX11_65 rb8 (by omega) (by omega) (fun T9 w9 => ?_)
  have lw9 : T9.1 = 304 := by rw [w9.1]; omega
  have nb9 : OB T9 303 1 := by have h9 := Nw.nob w9; rw [l8] at h9; exact h9
  have no9 := Nw.ob w9 ob8
  rw [l8, ← Gr.ad (Nw.gr w9) (a := 0) (by omega)]
  refine x_dup dX11_init_128 rfl ?_
  refine x_aload_n dX11_init_129 rfl ?_
  refine x_getR (b := 1) dX11_init_130 gf_RX11_10 no9 (fun _ _ => rfl) (by rw [zR_o (by omega)]; exact f0_8) ?_
  refine x_getR (b := 13) dX11_init_133 gf_RX11_67 (Nw.ob w9 (Gr.ob (Gr.tr gq2 (Gr.tr gq3 (Gr.tr gq4 (Gr.tr gq5 (Gr.tr gq6 (Gr.tr gq7 gq8)))))) sh1.1.1)) (fun _ _ => rfl) (by rw [zR_o (by omega)]; exact ft_8) ?_
  refine x_callI1 (b := 303) (mc1 := 2) (ms1 := 20) dX11_init_136 cv_RX11_71 (Nat.le_of_ble_eq_true rfl) (n1 := n - 1) (by omega) (by omega) (by omega) ?_
  refine sp_X1_init (b := 303) (w := 13) (by omega) nb9 (by omega) lw9 (RB.zr rb8 (Nw.gr w9).1 _) (fun q => zI_s _ _ _) (fun S9 J9 Q9 gx9 lx9 rx9 fx9 sh9 va9 => ?_)
  show WP n 305 4244 mX11_init Post 139 _ [.ref (T9.2.1 303), .ref (T9.2.1 0)] _ _ S9 J9 Q9
  rw [← Gr.ad gx9 (a := 0) (by omega), ← Gr.ad gx9 (a := 303) (by omega)]
  refine x_putRF dX11_init_139 gf_RX11_74 (Gr.ob gx9 no9) rfl (fun _ _ => rfl) (fun _ => rfl) (fun _ => rfl) rfl rfl ?_
  obtain ⟨R9, hR9⟩ : ∃ R9, R9 = uR Q9 0 8 (some 303) := ⟨_, rfl⟩
  rw [← hR9]
  have gq9 : Gr S8 S9 := Gr.tr (Nw.gr w9) gx9
  have l9 : S9.1 = 306 := lx9
  have ob9 := Gr.ob gq9 ob8
  have rb9 : RB S9 R9 := by rw [hR9]; exact RB.ur rx9 (fun q hq => by have h9 := Option.some.inj hq; omega)
  have fJ9 : ∀ x, x < 303 → J9 x = J8 x := fun x hx => by rw [(fx9 x hx).1, zI_o (by omega)]
  have fR9 : ∀ x q, x < 303 → (x ≠ 0 ∨ q ≠ 8) → R9 x q = R8 x q := fun x q h1 h2 => by rw [hR9, uR_o h2, (fx9 x h1).2, zR_o (by omega)]
  have qR9 : ∀ x, x ≠ 0 → R9 x = Q9 x := fun x hx => by rw [hR9, uR_row hx]
  have f8_9 : R9 0 8 = some 303 := by rw [hR9]; exact uR_s _ _ _ _
  have f0_9 : R9 0 0 = some 1 := by rw [fR9 0 0 (by omega) (by omega)]; exact f0_8
  have f1_9 : R9 0 1 = some 140 := by rw [fR9 0 1 (by omega) (by omega)]; exact f1_8
  have f2_9 : R9 0 2 = some 279 := by rw [fR9 0 2 (by omega) (by omega)]; exact f2_8
  have f3_9 : R9 0 3 = some 282 := by rw [fR9 0 3 (by omega) (by omega)]; exact f3_8
  have f4_9 : R9 0 4 = some 287 := by rw [fR9 0 4 (by omega) (by omega)]; exact f4_8
  have f5_9 : R9 0 5 = some 291 := by rw [fR9 0 5 (by omega) (by omega)]; exact f5_8
  have f6_9 : R9 0 6 = some 295 := by rw [fR9 0 6 (by omega) (by omega)]; exact f6_8
  have f7_9 : R9 0 7 = some 299 := by rw [fR9 0 7 (by omega) (by omega)]; exact f7_8
  have ft_9 : R9 1 8 = some 13 := by rw [fR9 1 8 (by omega) (by omega)]; exact ft_8
  refine x_kj (k2 := 305) (j2 := 4244) rfl rfl ?_
  have k1 : WS S9 R9 1 := WS.gr (Gr.tr gq2 (Gr.tr gq3 (Gr.tr gq4 (Gr.tr gq5 (Gr.tr gq6 (Gr.tr gq7 (Gr.tr gq8 gq9))))))) (fun x h1 h2 => by funext q; rw [fR9 (x) (q) (by omega) (by omega), fR8 (x) (q) (by omega) (by omega), fR7 (x) (q) (by omega) (by omega), fR6 (x) (q) (by omega) (by omega), fR5 (x) (q) (by omega) (by omega), fR4 (x) (q) (by omega) (by omega), fR3 (x) (q) (by omega) (by omega), fR2 (x) (q) (by omega) (by omega), qR1 x (by omega)]) sh1.1
  have k2 : WS S9 R9 140 := WS.gr (Gr.tr gq3 (Gr.tr gq4 (Gr.tr gq5 (Gr.tr gq6 (Gr.tr gq7 (Gr.tr gq8 gq9)))))) (fun x h1 h2 => by funext q; rw [fR9 (x) (q) (by omega) (by omega), fR8 (x) (q) (by omega) (by omega), fR7 (x) (q) (by omega) (by omega), fR6 (x) (q) (by omega) (by omega), fR5 (x) (q) (by omega) (by omega), fR4 (x) (q) (by omega) (by omega), fR3 (x) (q) (by omega) (by omega), qR2 x (by omega)]) sh2.1
  have t1 : ∀ q, R9 12 q = none := fun q => by rw [fR9 (12) (q) (by omega) (by omega), fR8 (12) (q) (by omega) (by omega), fR7 (12) (q) (by omega) (by omega), fR6 (12) (q) (by omega) (by omega), fR5 (12) (q) (by omega) (by omega), fR4 (12) (q) (by omega) (by omega), fR3 (12) (q) (by omega) (by omega), fR2 (12) (q) (by omega) (by omega), qR1 12 (by omega)]; exact sh1.2 q
  have cc : CSc S9 R9 := ⟨k1, k2⟩
  have z279 : OB S9 279 3 ∧ AR S9 280 13 8 ∧ AR S9 281 13 303 ∧ R9 279 1 = some 280 ∧ R9 279 2 = some 281 ∧ R9 279 0 = some 1 := ⟨Gr.ob (Gr.tr gq4 (Gr.tr gq5 (Gr.tr gq6 (Gr.tr gq7 (Gr.tr gq8 gq9))))) sh3.1, Gr.ar (Gr.tr gq4 (Gr.tr gq5 (Gr.tr gq6 (Gr.tr gq7 (Gr.tr gq8 gq9))))) sh3.2.1, Gr.ar (Gr.tr gq4 (Gr.tr gq5 (Gr.tr gq6 (Gr.tr gq7 (Gr.tr gq8 gq9))))) sh3.2.2.1, by rw [fR9 (279) (1) (by omega) (by omega), fR8 (279) (1) (by omega) (by omega), fR7 (279) (1) (by omega) (by omega), fR6 (279) (1) (by omega) (by omega), fR5 (279) (1) (by omega) (by omega), fR4 (279) (1) (by omega) (by omega), qR3 279 (by omega)]; exact sh3.2.2.2.1, by rw [fR9 (279) (2) (by omega) (by omega), fR8 (279) (2) (by omega) (by omega), fR7 (279) (2) (by omega) (by omega), fR6 (279) (2) (by omega) (by omega), fR5 (279) (2) (by omega) (by omega), fR4 (279) (2) (by omega) (by omega), qR3 279 (by omega)]; exact sh3.2.2.2.2.1, by rw [fR9 (279) (0) (by omega) (by omega), fR8 (279) (0) (by omega) (by omega), fR7 (279) (0) (by omega) (by omega), fR6 (279) (0) (by omega) (by omega), fR5 (279) (0) (by omega) (by omega), fR4 (279) (0) (by omega) (by omega), qR3 279 (by omega)]; exact sh3.2.2.2.2.2⟩
  have z282 : OB S9 282 0 ∧ ST S9 R9 283 ∧ R9 282 2 = some 283 ∧ R9 282 0 = some 1 ∧ R9 282 1 = some 279 := ⟨Gr.ob (Gr.tr gq5 (Gr.tr gq6 (Gr.tr gq7 (Gr.tr gq8 gq9)))) sh4.1, ST.gr (Gr.tr gq5 (Gr.tr gq6 (Gr.tr gq7 (Gr.tr gq8 gq9)))) (by funext q; rw [fR9 (283) (q) (by omega) (by omega), fR8 (283) (q) (by omega) (by omega), fR7 (283) (q) (by omega) (by omega), fR6 (283) (q) (by omega) (by omega), fR5 (283) (q) (by omega) (by omega)]; rw [qR4 (283) (by omega)]) sh4.2.1, by rw [fR9 (282) (2) (by omega) (by omega), fR8 (282) (2) (by omega) (by omega), fR7 (282) (2) (by omega) (by omega), fR6 (282) (2) (by omega) (by omega), fR5 (282) (2) (by omega) (by omega), qR4 282 (by omega)]; exact sh4.2.2.1, by rw [fR9 (282) (0) (by omega) (by omega), fR8 (282) (0) (by omega) (by omega), fR7 (282) (0) (by omega) (by omega), fR6 (282) (0) (by omega) (by omega), fR5 (282) (0) (by omega) (by omega), qR4 282 (by omega)]; exact sh4.2.2.2.1, by rw [fR9 (282) (1) (by omega) (by omega), fR8 (282) (1) (by omega) (by omega), fR7 (282) (1) (by omega) (by omega), fR6 (282) (1) (by omega) (by omega), fR5 (282) (1) (by omega) (by omega), qR4 282 (by omega)]; exact sh4.2.2.2.2⟩
  have z287 : OB S9 287 5 ∧ AR S9 288 13 300 ∧ AR S9 289 13 300 ∧ AR S9 290 13 96 ∧ R9 287 0 = some 288 ∧ R9 287 1 = some 289 ∧ R9 287 2 = some 290 := ⟨Gr.ob (Gr.tr gq6 (Gr.tr gq7 (Gr.tr gq8 gq9))) sh5.1, Gr.ar (Gr.tr gq6 (Gr.tr gq7 (Gr.tr gq8 gq9))) sh5.2.1, Gr.ar (Gr.tr gq6 (Gr.tr gq7 (Gr.tr gq8 gq9))) sh5.2.2.1, Gr.ar (Gr.tr gq6 (Gr.tr gq7 (Gr.tr gq8 gq9))) sh5.2.2.2.1, by rw [fR9 (287) (0) (by omega) (by omega), fR8 (287) (0) (by omega) (by omega), fR7 (287) (0) (by omega) (by omega), fR6 (287) (0) (by omega) (by omega), qR5 287 (by omega)]; exact sh5.2.2.2.2.1, by rw [fR9 (287) (1) (by omega) (by omega), fR8 (287) (1) (by omega) (by omega), fR7 (287) (1) (by omega) (by omega), fR6 (287) (1) (by omega) (by omega), qR5 287 (by omega)]; exact sh5.2.2.2.2.2.1, by rw [fR9 (287) (2) (by omega) (by omega), fR8 (287) (2) (by omega) (by omega), fR7 (287) (2) (by omega) (by omega), fR6 (287) (2) (by omega) (by omega), qR5 287 (by omega)]; exact sh5.2.2.2.2.2.2⟩
  have z291 : OB S9 291 7 ∧ AR S9 292 13 36 ∧ AR S9 293 13 6 ∧ AR S9 294 13 6 ∧ R9 291 2 = some 292 ∧ R9 291 3 = some 293 ∧ R9 291 4 = some 294 ∧ R9 291 0 = some 1 ∧ R9 291 1 = some 279 := ⟨Gr.ob (Gr.tr gq7 (Gr.tr gq8 gq9)) sh6.1, Gr.ar (Gr.tr gq7 (Gr.tr gq8 gq9)) sh6.2.1, Gr.ar (Gr.tr gq7 (Gr.tr gq8 gq9)) sh6.2.2.1, Gr.ar (Gr.tr gq7 (Gr.tr gq8 gq9)) sh6.2.2.2.1, by rw [fR9 (291) (2) (by omega) (by omega), fR8 (291) (2) (by omega) (by omega), fR7 (291) (2) (by omega) (by omega), qR6 291 (by omega)]; exact sh6.2.2.2.2.1, by rw [fR9 (291) (3) (by omega) (by omega), fR8 (291) (3) (by omega) (by omega), fR7 (291) (3) (by omega) (by omega), qR6 291 (by omega)]; exact sh6.2.2.2.2.2.1, by rw [fR9 (291) (4) (by omega) (by omega), fR8 (291) (4) (by omega) (by omega), fR7 (291) (4) (by omega) (by omega), qR6 291 (by omega)]; exact sh6.2.2.2.2.2.2.1, by rw [fR9 (291) (0) (by omega) (by omega), fR8 (291) (0) (by omega) (by omega), fR7 (291) (0) (by omega) (by omega), qR6 291 (by omega)]; exact sh6.2.2.2.2.2.2.2.1, by rw [fR9 (291) (1) (by omega) (by omega), fR8 (291) (1) (by omega) (by omega), fR7 (291) (1) (by omega) (by omega), qR6 291 (by omega)]; exact sh6.2.2.2.2.2.2.2.2⟩
  have z295 : OB S9 295 4 ∧ AR S9 296 13 5 ∧ AR S9 297 13 5 ∧ AR S9 298 13 8 ∧ R9 295 0 = some 296 ∧ R9 295 5 = some 297 ∧ R9 295 6 = some 298 ∧ R9 295 3 = some 1 ∧ R9 295 4 = some 279 := ⟨Gr.ob (Gr.tr gq8 gq9) sh7.1, Gr.ar (Gr.tr gq8 gq9) sh7.2.1, Gr.ar (Gr.tr gq8 gq9) sh7.2.2.1, Gr.ar (Gr.tr gq8 gq9) sh7.2.2.2.1, by rw [fR9 (295) (0) (by omega) (by omega), fR8 (295) (0) (by omega) (by omega), qR7 295 (by omega)]; exact sh7.2.2.2.2.1, by rw [fR9 (295) (5) (by omega) (by omega), fR8 (295) (5) (by omega) (by omega), qR7 295 (by omega)]; exact sh7.2.2.2.2.2.1, by rw [fR9 (295) (6) (by omega) (by omega), fR8 (295) (6) (by omega) (by omega), qR7 295 (by omega)]; exact sh7.2.2.2.2.2.2.1, by rw [fR9 (295) (3) (by omega) (by omega), fR8 (295) (3) (by omega) (by omega), qR7 295 (by omega)]; exact sh7.2.2.2.2.2.2.2.1, by rw [fR9 (295) (4) (by omega) (by omega), fR8 (295) (4) (by omega) (by omega), qR7 295 (by omega)]; exact sh7.2.2.2.2.2.2.2.2⟩
  have z299 : OB S9 299 2 ∧ AR S9 300 13 6 ∧ AR S9 301 13 256 ∧ AR S9 302 13 256 ∧ R9 299 1 = some 300 ∧ R9 299 2 = some 301 ∧ R9 299 3 = some 302 ∧ R9 299 0 = some 1 := ⟨Gr.ob gq9 sh8.1, Gr.ar gq9 sh8.2.1, Gr.ar gq9 sh8.2.2.1, Gr.ar gq9 sh8.2.2.2.1, by rw [fR9 (299) (1) (by omega) (by omega), qR8 299 (by omega)]; exact sh8.2.2.2.2.1, by rw [fR9 (299) (2) (by omega) (by omega), qR8 299 (by omega)]; exact sh8.2.2.2.2.2.1, by rw [fR9 (299) (3) (by omega) (by omega), qR8 299 (by omega)]; exact sh8.2.2.2.2.2.2.1, by rw [fR9 (299) (0) (by omega) (by omega), qR8 299 (by omega)]; exact sh8.2.2.2.2.2.2.2⟩
  have z303 : OB S9 303 1 ∧ AR S9 304 13 10 ∧ AR S9 305 13 10 ∧ R9 303 1 = some 304 ∧ R9 303 2 = some 305 ∧ R9 303 0 = some 13 := ⟨sh9.1, sh9.2.1, sh9.2.2.1, by rw [qR9 303 (by omega)]; exact sh9.2.2.2.1, by rw [qR9 303 (by omega)]; exact sh9.2.2.2.2.1, by rw [qR9 303 (by omega)]; exact sh9.2.2.2.2.2⟩
  refine x_aload_n dX11_init_142 rfl ?_
  refine x_getR (b := 140) dX11_init_143 gf_RX11_16 ob9 (fun _ _ => rfl) f1_9 ?_
  refine x_aload_n dX11_init_146 rfl ?_
  refine x_getR (b := 1) dX11_init_147 gf_RX11_10 ob9 (fun _ _ => rfl) f0_9 ?_
  refine x_callV1 (mc1 := 0) (ms1 := 0) dX11_init_150 cv_RX11_78 (ci := 10) k2.1 rfl (Nat.le_of_ble_eq_true rfl) (n1 := n - 1) (by omega) (by omega) (by omega) ?_
  refine sp_X10_take_c cc (fun i hi => Or.inl (t1 i)) (by omega) (fun J R2 cp fj r151 ro => ?_)
  refine x_return dX11_init_153 rfl (by omega) (by omega) ?_
  have rb : RB S9 R2 := by
    intro x q v hv
    by_cases hx : x = 151 ∧ q < 4
    · obtain ⟨rfl, h9⟩ := hx
      rw [r151 q h9, t1 q] at hv; cases hv
    · rw [ro x q (by omega)] at hv; exact rb9 x q v hv
  have ro2 : ∀ x, x ≠ 151 → R2 x = R9 x := fun x hx => by funext q; exact ro x q (Or.inl hx)
  have k3 := CSc_R (R' := R2) (fun c i h1 h2 => ro c i (Or.inl h2)) cc
  have wz1 : WZ J9 1 := by
    have h9 := va1
    obtain ⟨a1, ⟨a2, a3, a4, a5⟩, a6, a7⟩ := h9
    refine ⟨?_, ⟨?_, ?_, ?_, ?_⟩, StZ.w a6 (fun x h1 h2 => by rw [fJ9 (x) (by omega), fJ8 (x) (by omega), fJ7 (x) (by omega), fJ6 (x) (by omega), fJ5 (x) (by omega), fJ4 (x) (by omega), fJ3 (x) (by omega), fJ2 (x) (by omega)]), TdZ.w a7 (fun x h1 h2 => by rw [fJ9 (x) (by omega), fJ8 (x) (by omega), fJ7 (x) (by omega), fJ6 (x) (by omega), fJ5 (x) (by omega), fJ4 (x) (by omega), fJ3 (x) (by omega), fJ2 (x) (by omega)])⟩
    · rw [fJ9 (1) (by omega), fJ8 (1) (by omega), fJ7 (1) (by omega), fJ6 (1) (by omega), fJ5 (1) (by omega), fJ4 (1) (by omega), fJ3 (1) (by omega), fJ2 (1) (by omega)]; exact a1
    · rw [fJ9 (1 + 1) (by omega), fJ8 (1 + 1) (by omega), fJ7 (1 + 1) (by omega), fJ6 (1 + 1) (by omega), fJ5 (1 + 1) (by omega), fJ4 (1 + 1) (by omega), fJ3 (1 + 1) (by omega), fJ2 (1 + 1) (by omega)]; exact a2
    · rw [fJ9 (1 + 2) (by omega), fJ8 (1 + 2) (by omega), fJ7 (1 + 2) (by omega), fJ6 (1 + 2) (by omega), fJ5 (1 + 2) (by omega), fJ4 (1 + 2) (by omega), fJ3 (1 + 2) (by omega), fJ2 (1 + 2) (by omega)]; exact a3
    · rw [fJ9 (1 + 3) (by omega), fJ8 (1 + 3) (by omega), fJ7 (1 + 3) (by omega), fJ6 (1 + 3) (by omega), fJ5 (1 + 3) (by omega), fJ4 (1 + 3) (by omega), fJ3 (1 + 3) (by omega), fJ2 (1 + 3) (by omega)]; exact a4
    · rw [fJ9 (1 + 4) (by omega), fJ8 (1 + 4) (by omega), fJ7 (1 + 4) (by omega), fJ6 (1 + 4) (by omega), fJ5 (1 + 4) (by omega), fJ4 (1 + 4) (by omega), fJ3 (1 + 4) (by omega), fJ2 (1 + 4) (by omega)]; exact a5
  have cw1 := ClW_0 wz1
  refine hp S9 J R2 (Gr.tr gq1 (Gr.tr gq2 (Gr.tr gq3 (Gr.tr gq4 (Gr.tr gq5 (Gr.tr gq6 (Gr.tr gq7 (Gr.tr gq8 gq9)))))))) l9 rb (csC_of k3.1 k3.2 ⟨ob9, (by rw [ro2 0 (by omega)]; exact f0_9), (by rw [ro2 0 (by omega)]; exact f1_9), (by rw [ro2 0 (by omega)]; exact f2_9), (by rw [ro2 0 (by omega)]; exact f3_9), (by rw [ro2 0 (by omega)]; exact f4_9), (by rw [ro2 0 (by omega)]; exact f5_9), (by rw [ro2 0 (by omega)]; exact f6_9), (by rw [ro2 0 (by omega)]; exact f7_9), (by rw [ro2 0 (by omega)]; exact f8_9)⟩ (by rw [ro2 279 (by omega)]; exact z279) (by rw [ro2 282 (by omega)]; exact ⟨z282.1, ST.gr Gr.rf (ro2 283 (by omega)) z282.2.1, z282.2.2⟩) (by rw [ro2 287 (by omega)]; exact z287) (by rw [ro2 291 (by omega)]; exact z291) (by rw [ro2 295 (by omega)]; exact z295) (by rw [ro2 299 (by omega)]; exact z299) (by rw [ro2 303 (by omega)]; exact z303)) (fun q hq => ⟨by rw [ro 12 q (by omega)]; exact t1 q, by rw [r151 q hq]; exact t1 q⟩) ⟨?_, ?_, ?_, ?_, ?_, ?_, ?_, ?_, ?_, ?_, ?_⟩
  · exact ClW_fr (fun x h1 h2 => fj x (by omega)) cw1
  · exact ClW_cp cw1 (by decide) (by decide) cp
  · intro q; rw [fj 281 (by omega), fJ9 (281) (by omega), fJ8 (281) (by omega), fJ7 (281) (by omega), fJ6 (281) (by omega), fJ5 (281) (by omega), fJ4 (281) (by omega)]; exact va3.2 q
  · intro q; rw [fj 288 (by omega), fJ9 (288) (by omega), fJ8 (288) (by omega), fJ7 (288) (by omega), fJ6 (288) (by omega)]; exact va5.1 q
  · intro q; rw [fj 290 (by omega), fJ9 (290) (by omega), fJ8 (290) (by omega), fJ7 (290) (by omega), fJ6 (290) (by omega)]; exact va5.2.2.1 q
  · intro q; rw [fj 304 (by omega)]; exact va9.1 q
  · intro q; rw [fj 305 (by omega)]; exact va9.2 q
  · rw [fj 287 (by omega), fJ9 (287) (by omega), fJ8 (287) (by omega), fJ7 (287) (by omega), fJ6 (287) (by omega)]; exact va5.2.2.2.2.2.1
  · rw [fj 287 (by omega), fJ9 (287) (by omega), fJ8 (287) (by omega), fJ7 (287) (by omega), fJ6 (287) (by omega)]; exact va5.2.2.2.1
  · rw [fj 287 (by omega), fJ9 (287) (by omega), fJ8 (287) (by omega), fJ7 (287) (by omega), fJ6 (287) (by omega)]; exact va5.2.2.2.2.1
  · rw [fj 287 (by omega), fJ9 (287) (by omega), fJ8 (287) (by omega), fJ7 (287) (by omega), fJ6 (287) (by omega)]; exact va5.2.2.2.2.2.2
end Ctor5
