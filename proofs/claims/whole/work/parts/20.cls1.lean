/-- what the class's world doesn't hold stays -/
def Fw (I I' : CI) : Prop := ∀ c, (c = 0 ∨ 140 ≤ c) → I' c = I c
theorem Fw.rf {I : CI} : Fw I I := fun _ _ => rfl
theorem Fw.tr {I I' I'' : CI} (h : Fw I I') (h2 : Fw I' I'') : Fw I I'' := fun c hc => (h2 c hc).trans (h c hc)
theorem Fw.u {I I' : CI} {a k : Nat} {v : Int} (h : Fw I I') (ha : 1 ≤ a ∧ a < 140) : Fw I (uI I' a k v) := fun c hc => (uI_row (by omega)).trans (h c hc)
/-- a line of the book -/
def wrA (A : Nat → Int) (q w : Int) : Nat → Int := upA (upA (upA A (2815 + (A 11).toNat) ((A 7 * 8 + q) * 3 + w)) (2845 + (A 11).toNat) (A 9)) 11 (A 11 + 1)
theorem cu_write {I : CI} {b : Nat} {A : Nat → Int} {q w : Int} (hc : ClW I b A) (h11 : 0 ≤ A 11 ∧ A 11 < 30) (h7 : 0 ≤ A 7 ∧ A 7 ≤ 9999) (hq : 0 ≤ q ∧ q ≤ 7) (hw : 0 ≤ w ∧ w ≤ 2) (h3 : A 3 ≤ 30) : ClW (uI (uI (uI (uI (uI I (b + 10) (I (b + 5) 8 * 4).toNat (I (b + 5) 6)) (b + 10) (I (b + 5) 8 * 4 + 1).toNat q) (b + 10) (I (b + 5) 8 * 4 + 2).toNat w) (b + 10) (I (b + 5) 8 * 4 + 3).toNat (I (b + 5) 4)) (b + 5) 8 (I (b + 5) 8 + 1)) b (wrA A q w) := by
  obtain ⟨⟨⟨c0, c7, c8, c9, c10, c11⟩, cq⟩, ⟨⟨t1, t2, t3, t4, t5, t6, t7, t8, t9⟩, tq, th, tb, ts, td⟩, cb, cp⟩ := hc
  rw [← c11, ← c7, ← c9]
  obtain ⟨l, hl⟩ : ∃ l : Nat, A 11 = (l : Int) := ⟨(A 11).toNat, by omega⟩
  unfold wrA
  rw [hl]
  rw [show ((l : Int) * 4).toNat = 4 * l by omega, show ((l : Int) * 4 + 1).toNat = 4 * l + 1 by omega, show ((l : Int) * 4 + 2).toNat = 4 * l + 2 by omega, show ((l : Int) * 4 + 3).toNat = 4 * l + 3 by omega, show ((l : Int)).toNat = l by omega]
  have hl30 : l < 30 := by omega
  have up : ∀ i : Nat, i ≠ 11 → i < 2815 → upA (upA (upA A (2815 + l) ((A 7 * 8 + q) * 3 + w)) (2845 + l) (A 9)) 11 ((l : Int) + 1) i = A i := fun i h1 h2 => by rw [upA_o h1, upA_o (by omega), upA_o (by omega)]
  have uu : ∀ c k : Nat, c ≠ b + 10 → (c ≠ b + 5 ∨ k ≠ 8) → uI (uI (uI (uI (uI I (b + 10) (4 * l) (A 7)) (b + 10) (4 * l + 1) q) (b + 10) (4 * l + 2) w) (b + 10) (4 * l + 3) (A 9)) (b + 5) 8 ((l : Int) + 1) c k = I c k := fun c k h1 h2 => by rw [uI_o (by omega), uI_o (by omega), uI_o (by omega), uI_o (by omega), uI_o (by omega)]
  have ub : ∀ k : Nat, k < 4 * l ∨ 4 * l + 3 < k → uI (uI (uI (uI (uI I (b + 10) (4 * l) (A 7)) (b + 10) (4 * l + 1) q) (b + 10) (4 * l + 2) w) (b + 10) (4 * l + 3) (A 9)) (b + 5) 8 ((l : Int) + 1) (b + 10) k = I (b + 10) k := fun k h1 => by rw [uI_o (by omega), uI_o (by omega), uI_o (by omega), uI_o (by omega), uI_o (by omega)]
  refine ⟨⟨⟨?_, ?_, ?_, ?_, ?_, ?_⟩, fun z hz => ?_⟩, ⟨⟨?_, ?_, ?_, ?_, ?_, ?_, ?_, ?_, ?_⟩, fun z hz => ?_, fun i hi => ?_, fun i hi => ?_, fun i hi => ?_, fun i hi => ?_⟩, fun i hi => ?_, fun z hz => ?_⟩
  · rw [up 0 (by decide) (by decide), uu _ _ (by omega) (by omega)]; exact c0
  · rw [up 7 (by decide) (by decide), uu _ _ (by omega) (by omega)]; exact c7
  · rw [up 8 (by decide) (by decide), uu _ _ (by omega) (by omega)]; exact c8
  · rw [up 9 (by decide) (by decide), uu _ _ (by omega) (by omega)]; exact c9
  · rw [up 10 (by decide) (by decide), uu _ _ (by omega) (by omega)]; exact c10
  · rw [upA_s, uI_s]
  · rw [up _ (by omega) (by omega), up _ (by omega) (by omega), up _ (by omega) (by omega), uu _ _ (by omega) (by omega), uu _ _ (by omega) (by omega), uu _ _ (by omega) (by omega)]; exact cq z hz
  · rw [up _ (by omega) (by omega), uu _ _ (by omega) (by omega)]; exact t1
  · rw [up _ (by omega) (by omega), uu _ _ (by omega) (by omega)]; exact t2
  · rw [up _ (by omega) (by omega), uu _ _ (by omega) (by omega)]; exact t3
  · rw [up _ (by omega) (by omega), uu _ _ (by omega) (by omega)]; exact t4
  · rw [up _ (by omega) (by omega), uu _ _ (by omega) (by omega)]; exact t5
  · rw [up _ (by omega) (by omega), uu _ _ (by omega) (by omega)]; exact t6
  · rw [up _ (by omega) (by omega), uu _ _ (by omega) (by omega)]; exact t7
  · rw [uu _ _ (by omega) (by omega)]; exact t8
  · rw [uu _ _ (by omega) (by omega)]; exact t9
  · rw [up _ (by omega) (by omega), up _ (by omega) (by omega), up _ (by omega) (by omega), up _ (by omega) (by omega), uu _ _ (by omega) (by omega), uu _ _ (by omega) (by omega), uu _ _ (by omega) (by omega), uu _ _ (by omega) (by omega)]; exact tq z hz
  · rw [up _ (by omega) (by omega), uu _ _ (by omega) (by omega)]; exact th i hi
  · rw [up _ (by omega) (by omega), up _ (by omega) (by omega), uu _ _ (by omega) (by omega), uu _ _ (by omega) (by omega)]; exact tb i hi
  · rw [up _ (by omega) (by omega), up _ (by omega) (by omega), uu _ _ (by omega) (by omega), uu _ _ (by omega) (by omega)]; exact ts i hi
  · rw [up _ (by omega) (by omega), uu _ _ (by omega) (by omega)]; exact td i hi
  · rw [upA_s] at hi
    by_cases e : i = l
    · subst e
      rw [upA_o (by omega), upA_o (by omega), upA_s, upA_o (by omega), upA_s]
      have e0 : uI (uI (uI (uI (uI I (b + 10) (4 * i) (A 7)) (b + 10) (4 * i + 1) q) (b + 10) (4 * i + 2) w) (b + 10) (4 * i + 3) (A 9)) (b + 5) 8 ((i : Int) + 1) (b + 10) (4 * i) = A 7 := by rw [uI_o (by omega), uI_o (by omega), uI_o (by omega), uI_o (by omega), uI_s]
      have e1 : uI (uI (uI (uI (uI I (b + 10) (4 * i) (A 7)) (b + 10) (4 * i + 1) q) (b + 10) (4 * i + 2) w) (b + 10) (4 * i + 3) (A 9)) (b + 5) 8 ((i : Int) + 1) (b + 10) (4 * i + 1) = q := by rw [uI_o (by omega), uI_o (by omega), uI_o (by omega), uI_s]
      have e2 : uI (uI (uI (uI (uI I (b + 10) (4 * i) (A 7)) (b + 10) (4 * i + 1) q) (b + 10) (4 * i + 2) w) (b + 10) (4 * i + 3) (A 9)) (b + 5) 8 ((i : Int) + 1) (b + 10) (4 * i + 2) = w := by rw [uI_o (by omega), uI_o (by omega), uI_s]
      have e3 : uI (uI (uI (uI (uI I (b + 10) (4 * i) (A 7)) (b + 10) (4 * i + 1) q) (b + 10) (4 * i + 2) w) (b + 10) (4 * i + 3) (A 9)) (b + 5) 8 ((i : Int) + 1) (b + 10) (4 * i + 3) = A 9 := by rw [uI_o (by omega), uI_s]
      rw [e0, e1, e2, e3]
      exact ⟨rfl, rfl, h7, hq, hw⟩
    · rw [upA_o (by omega), upA_o (by omega), upA_o (by omega), upA_o (by omega), upA_o (by omega), upA_o (by omega), ub _ (by omega), ub _ (by omega), ub _ (by omega), ub _ (by omega)]
      exact cb i (by omega)
  · rw [up 3 (by decide) (by decide)] at hz
    have e : stId b (uI (uI (uI (uI (uI I (b + 10) (4 * l) (A 7)) (b + 10) (4 * l + 1) q) (b + 10) (4 * l + 2) w) (b + 10) (4 * l + 3) (A 9)) (b + 5) 8 ((l : Int) + 1)) z = stId b I z := by unfold stId; rw [uu _ _ (by omega) (by omega), uu _ _ (by omega) (by omega)]
    rw [e]
    have hs := cp z hz
    have hs1 : b + 19 ≤ stId b I z := by unfold stId; omega
    have hz30 : z < 30 := by omega
    obtain ⟨⟨s1, s2, s3, s4, s5, s6⟩, s7⟩ := hs
    refine ⟨⟨?_, ?_, ?_, ?_, ?_, ?_⟩, fun y hy => ⟨?_, ?_, ?_⟩⟩ <;> (rw [up _ (by omega) (by omega), uu _ _ (by omega) (by omega)]; first | assumption | exact (s7 y hy).1 | exact (s7 y hy).2.1 | exact (s7 y hy).2.2)
section Cls1
variable {n : Nat} {Post : PT} {S : Sh} {I : CI} {R : CR} {A : Nat → Int}
theorem dX10_write_0 : decode prog_12_method_5_code 0 = .ok (.aload_n 0, 1) := by decide +kernel
theorem dX10_write_1 : decode prog_12_method_5_code 1 = .ok (.getfield 27, 3) := by decide +kernel
theorem dX10_write_4 : decode prog_12_method_5_code 4 = .ok (.getfield 88, 3) := by decide +kernel
theorem dX10_write_7 : decode prog_12_method_5_code 7 = .ok (.bipush 30, 2) := by decide +kernel
theorem dX10_write_9 : decode prog_12_method_5_code 9 = .ok (.if_icmp .lt 4, 3) := by decide +kernel
theorem dX10_write_12 : decode prog_12_method_5_code 12 = .ok (.return_, 1) := by decide +kernel
theorem dX10_write_13 : decode prog_12_method_5_code 13 = .ok (.aload_n 0, 1) := by decide +kernel
theorem dX10_write_14 : decode prog_12_method_5_code 14 = .ok (.getfield 27, 3) := by decide +kernel
theorem dX10_write_17 : decode prog_12_method_5_code 17 = .ok (.getfield 88, 3) := by decide +kernel
theorem dX10_write_20 : decode prog_12_method_5_code 20 = .ok (.iconst 4, 1) := by decide +kernel
theorem dX10_write_21 : decode prog_12_method_5_code 21 = .ok (.imul, 1) := by decide +kernel
theorem dX10_write_22 : decode prog_12_method_5_code 22 = .ok (.istore_n 3, 1) := by decide +kernel
theorem dX10_write_23 : decode prog_12_method_5_code 23 = .ok (.aload_n 0, 1) := by decide +kernel
theorem dX10_write_24 : decode prog_12_method_5_code 24 = .ok (.getfield 35, 3) := by decide +kernel
theorem dX10_write_27 : decode prog_12_method_5_code 27 = .ok (.iload_n 3, 1) := by decide +kernel
theorem dX10_write_28 : decode prog_12_method_5_code 28 = .ok (.aload_n 0, 1) := by decide +kernel
theorem dX10_write_29 : decode prog_12_method_5_code 29 = .ok (.getfield 27, 3) := by decide +kernel
theorem dX10_write_32 : decode prog_12_method_5_code 32 = .ok (.getfield 91, 3) := by decide +kernel
theorem dX10_write_35 : decode prog_12_method_5_code 35 = .ok (.iastore, 1) := by decide +kernel
theorem dX10_write_36 : decode prog_12_method_5_code 36 = .ok (.aload_n 0, 1) := by decide +kernel
theorem dX10_write_37 : decode prog_12_method_5_code 37 = .ok (.getfield 35, 3) := by decide +kernel
theorem dX10_write_40 : decode prog_12_method_5_code 40 = .ok (.iload_n 3, 1) := by decide +kernel
theorem dX10_write_41 : decode prog_12_method_5_code 41 = .ok (.iconst 1, 1) := by decide +kernel
theorem dX10_write_42 : decode prog_12_method_5_code 42 = .ok (.iadd, 1) := by decide +kernel
theorem dX10_write_43 : decode prog_12_method_5_code 43 = .ok (.iload_n 1, 1) := by decide +kernel
theorem dX10_write_44 : decode prog_12_method_5_code 44 = .ok (.iastore, 1) := by decide +kernel
theorem dX10_write_45 : decode prog_12_method_5_code 45 = .ok (.aload_n 0, 1) := by decide +kernel
theorem dX10_write_46 : decode prog_12_method_5_code 46 = .ok (.getfield 35, 3) := by decide +kernel
theorem dX10_write_49 : decode prog_12_method_5_code 49 = .ok (.iload_n 3, 1) := by decide +kernel
theorem dX10_write_50 : decode prog_12_method_5_code 50 = .ok (.iconst 2, 1) := by decide +kernel
theorem dX10_write_51 : decode prog_12_method_5_code 51 = .ok (.iadd, 1) := by decide +kernel
theorem dX10_write_52 : decode prog_12_method_5_code 52 = .ok (.iload_n 2, 1) := by decide +kernel
theorem dX10_write_53 : decode prog_12_method_5_code 53 = .ok (.iastore, 1) := by decide +kernel
theorem dX10_write_54 : decode prog_12_method_5_code 54 = .ok (.aload_n 0, 1) := by decide +kernel
theorem dX10_write_55 : decode prog_12_method_5_code 55 = .ok (.getfield 35, 3) := by decide +kernel
theorem dX10_write_58 : decode prog_12_method_5_code 58 = .ok (.iload_n 3, 1) := by decide +kernel
theorem dX10_write_59 : decode prog_12_method_5_code 59 = .ok (.iconst 3, 1) := by decide +kernel
theorem dX10_write_60 : decode prog_12_method_5_code 60 = .ok (.iadd, 1) := by decide +kernel
theorem dX10_write_61 : decode prog_12_method_5_code 61 = .ok (.aload_n 0, 1) := by decide +kernel
theorem dX10_write_62 : decode prog_12_method_5_code 62 = .ok (.getfield 27, 3) := by decide +kernel
theorem dX10_write_65 : decode prog_12_method_5_code 65 = .ok (.getfield 94, 3) := by decide +kernel
theorem dX10_write_68 : decode prog_12_method_5_code 68 = .ok (.iastore, 1) := by decide +kernel
theorem dX10_write_69 : decode prog_12_method_5_code 69 = .ok (.aload_n 0, 1) := by decide +kernel
theorem dX10_write_70 : decode prog_12_method_5_code 70 = .ok (.getfield 27, 3) := by decide +kernel
theorem dX10_write_73 : decode prog_12_method_5_code 73 = .ok (.dup, 1) := by decide +kernel
theorem dX10_write_74 : decode prog_12_method_5_code 74 = .ok (.getfield 88, 3) := by decide +kernel
theorem dX10_write_77 : decode prog_12_method_5_code 77 = .ok (.iconst 1, 1) := by decide +kernel
theorem dX10_write_78 : decode prog_12_method_5_code 78 = .ok (.iadd, 1) := by decide +kernel
theorem dX10_write_79 : decode prog_12_method_5_code 79 = .ok (.putfield 88, 3) := by decide +kernel
theorem dX10_write_82 : decode prog_12_method_5_code 82 = .ok (.return_, 1) := by decide +kernel
theorem sp_X10_write {q w : Int} (cs : CS S R) (hc : ClW I 1 A) (h11 : 0 ≤ A 11 ∧ A 11 < 30) (h7 : 0 ≤ A 7 ∧ A 7 ≤ 9999) (hq : 0 ≤ q ∧ q ≤ 7) (hw : 0 ≤ w ∧ w ≤ 2) (h3 : A 3 ≤ 30) (hp : ∀ I', ClW I' 1 (wrA A q w) → Fw I I' → Post none S I' R) : Call n 0 0 mX10_write [.ref (S.2.1 1), .int (iI q), .int (iI w)] S I R Post := by
  obtain ⟨⟨⟨c0, c7, c8, c9, c10, c11⟩, cq⟩, ⟨⟨t1, t2, t3, t4, t5, t6, t7, t8, t9⟩, tq, th, tb, ts, td⟩, cb, cp⟩ := id hc
  dsimp only [Nat.reduceAdd] at c0 c7 c8 c9 c10 c11 cq t1 t2 t3 t4 t5 t6 t7 t8 t9 tq th tb ts td
  refine Call.of (by decide +kernel) (Nat.le_of_ble_eq_true rfl) ?_
  show WP _ _ _ _ _ 0 [(0, _), (1, _), (2, _)] [] 0 0 _ _ _
  refine x_aload_n dX10_write_0 rfl ?_
  refine x_getR (b := 6) dX10_write_1 gf_RX10_27 (k_ob_1 cs) (fun _ _ => rfl) (k_r_1_4 cs) ?_
  refine x_getI dX10_write_4 gf_RX10_88 (k_ob_6 cs) (fun _ _ => rfl) ?_
  refine x_bipush dX10_write_7 (by decide) ?_
  refine x_icmp_lt 13 dX10_write_9 (by decide) ⟨(by omega), (by omega)⟩ (fun w9 => ?_) (fun w9 => ?_)
  · refine x_aload_n dX10_write_13 rfl ?_
    refine x_getR (b := 6) dX10_write_14 gf_RX10_27 (k_ob_1 cs) (fun _ _ => rfl) (k_r_1_4 cs) ?_
    refine x_getI dX10_write_17 gf_RX10_88 (k_ob_6 cs) (fun _ _ => rfl) ?_
    refine x_iconst dX10_write_20 ?_
    refine x_imul dX10_write_21 ?_
    refine x_istore_n (lv2 := [(3, _), (0, _), (1, _), (2, _)]) dX10_write_22 (by decide) rfl ?_
    refine x_aload_n dX10_write_23 rfl ?_
    refine x_getR (b := 11) dX10_write_24 gf_RX10_35 (k_ob_1 cs) (fun _ _ => rfl) (k_r_1_6 cs) ?_
    refine x_iload_n dX10_write_27 rfl ?_
    refine x_aload_n dX10_write_28 rfl ?_
    refine x_getR (b := 6) dX10_write_29 gf_RX10_27 (k_ob_1 cs) (fun _ _ => rfl) (k_r_1_4 cs) ?_
    refine x_getIv (z := I 6 6) dX10_write_32 gf_RX10_91 (k_ob_6 cs) (fun _ _ => rfl) (by (repeat first | rw [uI_s] | rw [uI_o (by omega)]); try rfl) ?_
    refine x_iastore dX10_write_35 (k_ar_11 cs) (by omega) (by omega) ?_
    refine x_aload_n dX10_write_36 rfl ?_
    refine x_getR (b := 11) dX10_write_37 gf_RX10_35 (k_ob_1 cs) (fun _ _ => rfl) (k_r_1_6 cs) ?_
    refine x_iload_n dX10_write_40 rfl ?_
    refine x_iconst dX10_write_41 ?_
    refine x_iadd dX10_write_42 ?_
    refine x_iload_n dX10_write_43 rfl ?_
    refine x_iastore dX10_write_44 (k_ar_11 cs) (by omega) (by omega) ?_
    refine x_aload_n dX10_write_45 rfl ?_
    refine x_getR (b := 11) dX10_write_46 gf_RX10_35 (k_ob_1 cs) (fun _ _ => rfl) (k_r_1_6 cs) ?_
    refine x_iload_n dX10_write_49 rfl ?_
    refine x_iconst dX10_write_50 ?_
    refine x_iadd dX10_write_51 ?_
    refine x_iload_n dX10_write_52 rfl ?_
    refine x_iastore dX10_write_53 (k_ar_11 cs) (by omega) (by omega) ?_
    refine x_aload_n dX10_write_54 rfl ?_
    refine x_getR (b := 11) dX10_write_55 gf_RX10_35 (k_ob_1 cs) (fun _ _ => rfl) (k_r_1_6 cs) ?_
    refine x_iload_n dX10_write_58 rfl ?_
    refine x_iconst dX10_write_59 ?_
    refine x_iadd dX10_write_60 ?_
    refine x_aload_n dX10_write_61 rfl ?_
    refine x_getR (b := 6) dX10_write_62 gf_RX10_27 (k_ob_1 cs) (fun _ _ => rfl) (k_r_1_4 cs) ?_
    refine x_getIv (z := I 6 4) dX10_write_65 gf_RX10_94 (k_ob_6 cs) (fun _ _ => rfl) (by (repeat first | rw [uI_s] | rw [uI_o (by omega)]); try rfl) ?_
    refine x_iastore dX10_write_68 (k_ar_11 cs) (by omega) (by omega) ?_
    refine x_aload_n dX10_write_69 rfl ?_
    refine x_getR (b := 6) dX10_write_70 gf_RX10_27 (k_ob_1 cs) (fun _ _ => rfl) (k_r_1_4 cs) ?_
    refine x_dup dX10_write_73 rfl ?_
    refine x_getIv (z := I 6 8) dX10_write_74 gf_RX10_88 (k_ob_6 cs) (fun _ _ => rfl) (by (repeat first | rw [uI_s] | rw [uI_o (by omega)]); try rfl) ?_
    refine x_iconst dX10_write_77 ?_
    refine x_iadd dX10_write_78 ?_
    refine x_putI dX10_write_79 gf_RX10_88 (k_ob_6 cs) rfl ?_
    exact x_return dX10_write_82 rfl (by omega) (by omega) (by first | (exfalso; omega) | exact hp _ (cu_write hc h11 h7 hq hw h3) ((((((Fw.rf.u (by omega)).u (by omega)).u (by omega)).u (by omega)).u (by omega))))
  · exact x_return dX10_write_12 rfl (by omega) (by omega) (by first | (exfalso; omega) | exact hp _ (cu_write hc h11 h7 hq hw h3) ((((((Fw.rf.u (by omega)).u (by omega)).u (by omega)).u (by omega)).u (by omega))))
theorem dX0_canPayOut_0 : decode prog_2_method_13_code 0 = .ok (.iload_n 1, 1) := by decide +kernel
theorem dX0_canPayOut_1 : decode prog_2_method_13_code 1 = .ok (.iconst 1, 1) := by decide +kernel
theorem dX0_canPayOut_2 : decode prog_2_method_13_code 2 = .ok (.if_icmp .lt 32, 3) := by decide +kernel
theorem dX0_canPayOut_5 : decode prog_2_method_13_code 5 = .ok (.iload_n 1, 1) := by decide +kernel
theorem dX0_canPayOut_6 : decode prog_2_method_13_code 6 = .ok (.sipush 999, 3) := by decide +kernel
theorem dX0_canPayOut_9 : decode prog_2_method_13_code 9 = .ok (.if_icmp .gt 25, 3) := by decide +kernel
theorem dX0_canPayOut_12 : decode prog_2_method_13_code 12 = .ok (.aload_n 0, 1) := by decide +kernel
theorem dX0_canPayOut_13 : decode prog_2_method_13_code 13 = .ok (.getfield 18, 3) := by decide +kernel
theorem dX0_canPayOut_16 : decode prog_2_method_13_code 16 = .ok (.getfield 26, 3) := by decide +kernel
theorem dX0_canPayOut_19 : decode prog_2_method_13_code 19 = .ok (.getfield 54, 3) := by decide +kernel
theorem dX0_canPayOut_22 : decode prog_2_method_13_code 22 = .ok (.iload_n 1, 1) := by decide +kernel
theorem dX0_canPayOut_23 : decode prog_2_method_13_code 23 = .ok (.iadd, 1) := by decide +kernel
theorem dX0_canPayOut_24 : decode prog_2_method_13_code 24 = .ok (.sipush 9999, 3) := by decide +kernel
theorem dX0_canPayOut_27 : decode prog_2_method_13_code 27 = .ok (.if_icmp .gt 7, 3) := by decide +kernel
theorem dX0_canPayOut_30 : decode prog_2_method_13_code 30 = .ok (.iconst 1, 1) := by decide +kernel
theorem dX0_canPayOut_31 : decode prog_2_method_13_code 31 = .ok (.goto 4, 3) := by decide +kernel
theorem dX0_canPayOut_34 : decode prog_2_method_13_code 34 = .ok (.iconst 0, 1) := by decide +kernel
theorem dX0_canPayOut_35 : decode prog_2_method_13_code 35 = .ok (.ireturn, 1) := by decide +kernel
theorem sp_X0_canPayOut {q : Int} (cs : CS S R) (hc : ClW I 1 A) (hb : BA A) (hq : Rg q) (hp : ∀ r, (r = 1 ∧ (1 ≤ q ∧ q ≤ 999 ∧ A 9 + q ≤ 9999) ∨ r = 0 ∧ ¬ (1 ≤ q ∧ q ≤ 999 ∧ A 9 + q ≤ 9999)) → Post (some (.int (iI r))) S I R) : Call n 0 0 mX0_canPayOut [.ref (S.2.1 282), .int (iI q)] S I R Post := by
  obtain ⟨⟨⟨c0, c7, c8, c9, c10, c11⟩, cq⟩, ⟨⟨t1, t2, t3, t4, t5, t6, t7, t8, t9⟩, tq, th, tb, ts, td⟩, cb, cp⟩ := id hc
  dsimp only [Nat.reduceAdd] at c0 c7 c8 c9 c10 c11 cq t1 t2 t3 t4 t5 t6 t7 t8 t9 tq th tb ts td
  obtain ⟨⟨b0, b1, b2, b3, b4, bq, bl⟩, ⟨d1, d2, d3, d4, d5, d6, d7⟩, dq, dh, db, ds, dd, dp⟩ := id hb
  have b7 : 0 ≤ A 7 ∧ A 7 ≤ 9999 := b1
  have b8 : 0 ≤ A 8 ∧ A 8 ≤ 30870 := b2
  have b9 : 0 ≤ A 9 ∧ A 9 ≤ 9999 := b3
  have b10 : 0 ≤ A 10 ∧ A 10 ≤ 1 := b4
  have b11 : 0 ≤ A 11 ∧ A 11 ≤ 16 := by have h1 := lns_b (fun q => A (6 + 6 + 3 * q)) (A 0).toNat; have h2 : A 11 = _ := bl; omega
  refine Call.of (by decide +kernel) (Nat.le_of_ble_eq_true rfl) ?_
  show WP _ _ _ _ _ 0 [(0, _), (1, _)] [] 0 0 _ _ _
  refine x_iload_n dX0_canPayOut_0 rfl ?_
  refine x_iconst dX0_canPayOut_1 ?_
  refine x_icmp_lt 34 dX0_canPayOut_2 (by decide) ⟨(by omega), (by omega)⟩ (fun w2 => ?_) (fun w2 => ?_)
  · refine x_iconst dX0_canPayOut_34 ?_
    exact x_zreturn (by omega) dX0_canPayOut_35 rfl (by omega) (by omega) (hp _ (by omega))
  · refine x_iload_n dX0_canPayOut_5 rfl ?_
    refine x_sipush dX0_canPayOut_6 (by decide) ?_
    refine x_icmp_gt 34 dX0_canPayOut_9 (by decide) ⟨(by omega), (by omega)⟩ (fun w9 => ?_) (fun w9 => ?_)
    · refine x_iconst dX0_canPayOut_34 ?_
      exact x_zreturn (by omega) dX0_canPayOut_35 rfl (by omega) (by omega) (hp _ (by omega))
    · refine x_aload_n dX0_canPayOut_12 rfl ?_
      refine x_getR (b := 1) dX0_canPayOut_13 gf_RX0_18 (k_ob_282 cs) (fun _ _ => rfl) (k_r_282_0 cs) ?_
      refine x_getR (b := 6) dX0_canPayOut_16 gf_RX0_26 (k_ob_1 cs) (fun _ _ => rfl) (k_r_1_4 cs) ?_
      refine x_getI dX0_canPayOut_19 gf_RX0_54 (k_ob_6 cs) (fun _ _ => rfl) ?_
      refine x_iload_n dX0_canPayOut_22 rfl ?_
      refine x_iadd dX0_canPayOut_23 ?_
      refine x_sipush dX0_canPayOut_24 (by decide) ?_
      refine x_icmp_gt 34 dX0_canPayOut_27 (by decide) ⟨(by omega), (by omega)⟩ (fun w27 => ?_) (fun w27 => ?_)
      · refine x_iconst dX0_canPayOut_34 ?_
        exact x_zreturn (by omega) dX0_canPayOut_35 rfl (by omega) (by omega) (hp _ (by omega))
      · refine x_iconst dX0_canPayOut_30 ?_
        refine x_goto 35 dX0_canPayOut_31 (by decide) ?_
        exact x_zreturn (by omega) dX0_canPayOut_35 rfl (by omega) (by omega) (hp _ (by omega))
def f_earns (A : Nat → Int) (q : Int) : Int × (Nat → Int) := if 0 ≤ q ∧ q ≤ 99 then (1, upA A 114 q) else (0, A)
theorem dX11_earns_0 : decode prog_1_method_29_code 0 = .ok (.iload_n 1, 1) := by decide +kernel
theorem dX11_earns_1 : decode prog_1_method_29_code 1 = .ok (.ifCond .lt 9, 3) := by decide +kernel
theorem dX11_earns_4 : decode prog_1_method_29_code 4 = .ok (.iload_n 1, 1) := by decide +kernel
theorem dX11_earns_5 : decode prog_1_method_29_code 5 = .ok (.bipush 99, 2) := by decide +kernel
theorem dX11_earns_7 : decode prog_1_method_29_code 7 = .ok (.if_icmp .le 5, 3) := by decide +kernel
theorem dX11_earns_10 : decode prog_1_method_29_code 10 = .ok (.iconst 0, 1) := by decide +kernel
theorem dX11_earns_11 : decode prog_1_method_29_code 11 = .ok (.ireturn, 1) := by decide +kernel
theorem dX11_earns_12 : decode prog_1_method_29_code 12 = .ok (.aload_n 0, 1) := by decide +kernel
theorem dX11_earns_13 : decode prog_1_method_29_code 13 = .ok (.getfield 10, 3) := by decide +kernel
theorem dX11_earns_16 : decode prog_1_method_29_code 16 = .ok (.getfield 67, 3) := by decide +kernel
theorem dX11_earns_19 : decode prog_1_method_29_code 19 = .ok (.iload_n 1, 1) := by decide +kernel
theorem dX11_earns_20 : decode prog_1_method_29_code 20 = .ok (.putfield 257, 3) := by decide +kernel
theorem dX11_earns_23 : decode prog_1_method_29_code 23 = .ok (.iconst 1, 1) := by decide +kernel
theorem dX11_earns_24 : decode prog_1_method_29_code 24 = .ok (.ireturn, 1) := by decide +kernel
theorem sp_X11_earns {q : Int} (cs : CS S R) (hc : ClW I 1 A) (hq : Rg q) (hp : ∀ I', ClW I' 1 (f_earns A q).2 → Fw I I' → Post (some (.int (iI (f_earns A q).1))) S I' R) : Call n 0 0 mX11_earns [.ref (S.2.1 0), .int (iI q)] S I R Post := by
  refine Call.of (by decide +kernel) (Nat.le_of_ble_eq_true rfl) ?_
  show WP _ _ _ _ _ 0 [(0, _), (1, _)] [] 0 0 _ _ _
  refine x_iload_n dX11_earns_0 rfl ?_
  refine x_if_lt 10 dX11_earns_1 (by decide) (by omega) (fun w1 => ?_) (fun w1 => ?_)
  · refine x_iconst dX11_earns_10 ?_
    exact x_zreturn (by omega) dX11_earns_11 rfl (by omega) (by omega) (by first | (rw [show f_earns A q = (1, upA A 114 q) from if_pos (by omega)] at hp; exact hp _ (cu_wage q hc) (Fw.rf.u (by omega))) | (rw [show f_earns A q = (0, A) from if_neg (by omega)] at hp; exact hp _ hc Fw.rf))
  · refine x_iload_n dX11_earns_4 rfl ?_
    refine x_bipush dX11_earns_5 (by decide) ?_
    refine x_icmp_le 12 dX11_earns_7 (by decide) ⟨(by omega), (by omega)⟩ (fun w7 => ?_) (fun w7 => ?_)
    · refine x_aload_n dX11_earns_12 rfl ?_
      refine x_getR (b := 1) dX11_earns_13 gf_RX11_10 (k_ob_0 cs) (fun _ _ => rfl) (k_r_0_0 cs) ?_
      refine x_getR (b := 13) dX11_earns_16 gf_RX11_67 (k_ob_1 cs) (fun _ _ => rfl) (k_r_1_8 cs) ?_
      refine x_iload_n dX11_earns_19 rfl ?_
      refine x_putI dX11_earns_20 gf_RX11_257 (k_ob_13 cs) rfl ?_
      refine x_iconst dX11_earns_23 ?_
      exact x_zreturn (by omega) dX11_earns_24 rfl (by omega) (by omega) (by first | (rw [show f_earns A q = (1, upA A 114 q) from if_pos (by omega)] at hp; exact hp _ (cu_wage q hc) (Fw.rf.u (by omega))) | (rw [show f_earns A q = (0, A) from if_neg (by omega)] at hp; exact hp _ hc Fw.rf))
    · refine x_iconst dX11_earns_10 ?_
      exact x_zreturn (by omega) dX11_earns_11 rfl (by omega) (by omega) (by first | (rw [show f_earns A q = (1, upA A 114 q) from if_pos (by omega)] at hp; exact hp _ (cu_wage q hc) (Fw.rf.u (by omega))) | (rw [show f_earns A q = (0, A) from if_neg (by omega)] at hp; exact hp _ hc Fw.rf))
def f_digit (A : Nat → Int) (q d : Int) : Int × (Nat → Int) := if 0 ≤ q ∧ q < 4 ∧ -1 ≤ d ∧ d ≤ 9 then (1, upA A (110 + q.toNat) d) else (0, A)
theorem dX11_digit_0 : decode prog_1_method_32_code 0 = .ok (.iload_n 1, 1) := by decide +kernel
theorem dX11_digit_1 : decode prog_1_method_32_code 1 = .ok (.ifCond .lt 19, 3) := by decide +kernel
theorem dX11_digit_4 : decode prog_1_method_32_code 4 = .ok (.iload_n 1, 1) := by decide +kernel
theorem dX11_digit_5 : decode prog_1_method_32_code 5 = .ok (.iconst 4, 1) := by decide +kernel
theorem dX11_digit_6 : decode prog_1_method_32_code 6 = .ok (.if_icmp .ge 14, 3) := by decide +kernel
theorem dX11_digit_9 : decode prog_1_method_32_code 9 = .ok (.iload_n 2, 1) := by decide +kernel
theorem dX11_digit_10 : decode prog_1_method_32_code 10 = .ok (.iconst (-1), 1) := by decide +kernel
theorem dX11_digit_11 : decode prog_1_method_32_code 11 = .ok (.if_icmp .lt 9, 3) := by decide +kernel
theorem dX11_digit_14 : decode prog_1_method_32_code 14 = .ok (.iload_n 2, 1) := by decide +kernel
theorem dX11_digit_15 : decode prog_1_method_32_code 15 = .ok (.bipush 9, 2) := by decide +kernel
theorem dX11_digit_17 : decode prog_1_method_32_code 17 = .ok (.if_icmp .le 5, 3) := by decide +kernel
theorem dX11_digit_20 : decode prog_1_method_32_code 20 = .ok (.iconst 0, 1) := by decide +kernel
theorem dX11_digit_21 : decode prog_1_method_32_code 21 = .ok (.ireturn, 1) := by decide +kernel
theorem dX11_digit_22 : decode prog_1_method_32_code 22 = .ok (.aload_n 0, 1) := by decide +kernel
theorem dX11_digit_23 : decode prog_1_method_32_code 23 = .ok (.getfield 10, 3) := by decide +kernel
theorem dX11_digit_26 : decode prog_1_method_32_code 26 = .ok (.getfield 67, 3) := by decide +kernel
theorem dX11_digit_29 : decode prog_1_method_32_code 29 = .ok (.getfield 291, 3) := by decide +kernel
theorem dX11_digit_32 : decode prog_1_method_32_code 32 = .ok (.iload_n 1, 1) := by decide +kernel
theorem dX11_digit_33 : decode prog_1_method_32_code 33 = .ok (.iload_n 2, 1) := by decide +kernel
theorem dX11_digit_34 : decode prog_1_method_32_code 34 = .ok (.iastore, 1) := by decide +kernel
theorem dX11_digit_35 : decode prog_1_method_32_code 35 = .ok (.iconst 1, 1) := by decide +kernel
theorem dX11_digit_36 : decode prog_1_method_32_code 36 = .ok (.ireturn, 1) := by decide +kernel
theorem sp_X11_digit {q d : Int} (cs : CS S R) (hc : ClW I 1 A) (hq : Rg q) (hd : Rg d) (hp : ∀ I', ClW I' 1 (f_digit A q d).2 → Fw I I' → Post (some (.int (iI (f_digit A q d).1))) S I' R) : Call n 0 0 mX11_digit [.ref (S.2.1 0), .int (iI q), .int (iI d)] S I R Post := by
  refine Call.of (by decide +kernel) (Nat.le_of_ble_eq_true rfl) ?_
  show WP _ _ _ _ _ 0 [(0, _), (1, _), (2, _)] [] 0 0 _ _ _
  refine x_iload_n dX11_digit_0 rfl ?_
  refine x_if_lt 20 dX11_digit_1 (by decide) (by omega) (fun w1 => ?_) (fun w1 => ?_)
  · refine x_iconst dX11_digit_20 ?_
    exact x_zreturn (by omega) dX11_digit_21 rfl (by omega) (by omega) (by first | (rw [show f_digit A q d = (1, upA A (110 + q.toNat) d) from if_pos (by omega)] at hp; exact hp _ (cu_digit d hc (by omega)) (Fw.rf.u (by omega))) | (rw [show f_digit A q d = (0, A) from if_neg (by omega)] at hp; exact hp _ hc Fw.rf))
  · refine x_iload_n dX11_digit_4 rfl ?_
    refine x_iconst dX11_digit_5 ?_
    refine x_icmp_ge 20 dX11_digit_6 (by decide) ⟨(by omega), (by omega)⟩ (fun w6 => ?_) (fun w6 => ?_)
    · refine x_iconst dX11_digit_20 ?_
      exact x_zreturn (by omega) dX11_digit_21 rfl (by omega) (by omega) (by first | (rw [show f_digit A q d = (1, upA A (110 + q.toNat) d) from if_pos (by omega)] at hp; exact hp _ (cu_digit d hc (by omega)) (Fw.rf.u (by omega))) | (rw [show f_digit A q d = (0, A) from if_neg (by omega)] at hp; exact hp _ hc Fw.rf))
    · refine x_iload_n dX11_digit_9 rfl ?_
      refine x_iconst dX11_digit_10 ?_
      refine x_icmp_lt 20 dX11_digit_11 (by decide) ⟨(by omega), (by omega)⟩ (fun w11 => ?_) (fun w11 => ?_)
      · refine x_iconst dX11_digit_20 ?_
        exact x_zreturn (by omega) dX11_digit_21 rfl (by omega) (by omega) (by first | (rw [show f_digit A q d = (1, upA A (110 + q.toNat) d) from if_pos (by omega)] at hp; exact hp _ (cu_digit d hc (by omega)) (Fw.rf.u (by omega))) | (rw [show f_digit A q d = (0, A) from if_neg (by omega)] at hp; exact hp _ hc Fw.rf))
      · refine x_iload_n dX11_digit_14 rfl ?_
        refine x_bipush dX11_digit_15 (by decide) ?_
        refine x_icmp_le 22 dX11_digit_17 (by decide) ⟨(by omega), (by omega)⟩ (fun w17 => ?_) (fun w17 => ?_)
        · refine x_aload_n dX11_digit_22 rfl ?_
          refine x_getR (b := 1) dX11_digit_23 gf_RX11_10 (k_ob_0 cs) (fun _ _ => rfl) (k_r_0_0 cs) ?_
          refine x_getR (b := 13) dX11_digit_26 gf_RX11_67 (k_ob_1 cs) (fun _ _ => rfl) (k_r_1_8 cs) ?_
          refine x_getR (b := 14) dX11_digit_29 gf_RX11_291 (k_ob_13 cs) (fun _ _ => rfl) (k_r_13_0 cs) ?_
          refine x_iload_n dX11_digit_32 rfl ?_
          refine x_iload_n dX11_digit_33 rfl ?_
          refine x_iastore dX11_digit_34 (k_ar_14 cs) (by omega) (by omega) ?_
          refine x_iconst dX11_digit_35 ?_
          exact x_zreturn (by omega) dX11_digit_36 rfl (by omega) (by omega) (by first | (rw [show f_digit A q d = (1, upA A (110 + q.toNat) d) from if_pos (by omega)] at hp; exact hp _ (cu_digit d hc (by omega)) (Fw.rf.u (by omega))) | (rw [show f_digit A q d = (0, A) from if_neg (by omega)] at hp; exact hp _ hc Fw.rf))
        · refine x_iconst dX11_digit_20 ?_
          exact x_zreturn (by omega) dX11_digit_21 rfl (by omega) (by omega) (by first | (rw [show f_digit A q d = (1, upA A (110 + q.toNat) d) from if_pos (by omega)] at hp; exact hp _ (cu_digit d hc (by omega)) (Fw.rf.u (by omega))) | (rw [show f_digit A q d = (0, A) from if_neg (by omega)] at hp; exact hp _ hc Fw.rf))
def f_hook (A : Nat → Int) (q : Int) : Int × (Nat → Int) := if q = -1 then (0, upA A 4 0) else if 1 ≤ q ∧ q ≤ 99 ∧ A 4 < 6 then (A 4 + 1, upA (upA A (68 + (A 4).toNat) q) 4 (A 4 + 1)) else (-2, A)
theorem cu_hook2 {I : CI} {A : Nat → Int} (q : Int) (hc : ClW I 1 A) (h : 0 ≤ A 4 ∧ A 4 < 6) : ClW (uI (uI I 15 (I 13 7).toNat q) 13 7 (I 13 7 + 1)) 1 (upA (upA A (68 + (A 4).toNat) q) 4 (A 4 + 1)) := by
  have e : A 4 = I 13 7 := hc.2.1.1.2.2.2.1
  rw [← e]
  exact cu_hooks _ (cu_hook _ hc (by omega))
theorem dX11_hook_0 : decode prog_1_method_34_code 0 = .ok (.aload_n 0, 1) := by decide +kernel
theorem dX11_hook_1 : decode prog_1_method_34_code 1 = .ok (.getfield 10, 3) := by decide +kernel
theorem dX11_hook_4 : decode prog_1_method_34_code 4 = .ok (.getfield 67, 3) := by decide +kernel
theorem dX11_hook_7 : decode prog_1_method_34_code 7 = .ok (.astore_n 2, 1) := by decide +kernel
theorem dX11_hook_8 : decode prog_1_method_34_code 8 = .ok (.iload_n 1, 1) := by decide +kernel
theorem dX11_hook_9 : decode prog_1_method_34_code 9 = .ok (.iconst (-1), 1) := by decide +kernel
theorem dX11_hook_10 : decode prog_1_method_34_code 10 = .ok (.if_icmp .ne 10, 3) := by decide +kernel
theorem dX11_hook_13 : decode prog_1_method_34_code 13 = .ok (.aload_n 2, 1) := by decide +kernel
theorem dX11_hook_14 : decode prog_1_method_34_code 14 = .ok (.iconst 0, 1) := by decide +kernel
theorem dX11_hook_15 : decode prog_1_method_34_code 15 = .ok (.putfield 297, 3) := by decide +kernel
theorem dX11_hook_18 : decode prog_1_method_34_code 18 = .ok (.iconst 0, 1) := by decide +kernel
theorem dX11_hook_19 : decode prog_1_method_34_code 19 = .ok (.ireturn, 1) := by decide +kernel
theorem dX11_hook_20 : decode prog_1_method_34_code 20 = .ok (.iload_n 1, 1) := by decide +kernel
theorem dX11_hook_21 : decode prog_1_method_34_code 21 = .ok (.iconst 1, 1) := by decide +kernel
theorem dX11_hook_22 : decode prog_1_method_34_code 22 = .ok (.if_icmp .lt 18, 3) := by decide +kernel
theorem dX11_hook_25 : decode prog_1_method_34_code 25 = .ok (.iload_n 1, 1) := by decide +kernel
theorem dX11_hook_26 : decode prog_1_method_34_code 26 = .ok (.bipush 99, 2) := by decide +kernel
theorem dX11_hook_28 : decode prog_1_method_34_code 28 = .ok (.if_icmp .gt 12, 3) := by decide +kernel
theorem dX11_hook_31 : decode prog_1_method_34_code 31 = .ok (.aload_n 2, 1) := by decide +kernel
theorem dX11_hook_32 : decode prog_1_method_34_code 32 = .ok (.getfield 297, 3) := by decide +kernel
theorem dX11_hook_35 : decode prog_1_method_34_code 35 = .ok (.bipush 6, 2) := by decide +kernel
theorem dX11_hook_37 : decode prog_1_method_34_code 37 = .ok (.if_icmp .lt 6, 3) := by decide +kernel
theorem dX11_hook_40 : decode prog_1_method_34_code 40 = .ok (.bipush (-2), 2) := by decide +kernel
theorem dX11_hook_42 : decode prog_1_method_34_code 42 = .ok (.ireturn, 1) := by decide +kernel
theorem dX11_hook_43 : decode prog_1_method_34_code 43 = .ok (.aload_n 2, 1) := by decide +kernel
theorem dX11_hook_44 : decode prog_1_method_34_code 44 = .ok (.getfield 300, 3) := by decide +kernel
theorem dX11_hook_47 : decode prog_1_method_34_code 47 = .ok (.aload_n 2, 1) := by decide +kernel
theorem dX11_hook_48 : decode prog_1_method_34_code 48 = .ok (.getfield 297, 3) := by decide +kernel
theorem dX11_hook_51 : decode prog_1_method_34_code 51 = .ok (.iload_n 1, 1) := by decide +kernel
theorem dX11_hook_52 : decode prog_1_method_34_code 52 = .ok (.iastore, 1) := by decide +kernel
theorem dX11_hook_53 : decode prog_1_method_34_code 53 = .ok (.aload_n 2, 1) := by decide +kernel
theorem dX11_hook_54 : decode prog_1_method_34_code 54 = .ok (.dup, 1) := by decide +kernel
theorem dX11_hook_55 : decode prog_1_method_34_code 55 = .ok (.getfield 297, 3) := by decide +kernel
theorem dX11_hook_58 : decode prog_1_method_34_code 58 = .ok (.iconst 1, 1) := by decide +kernel
theorem dX11_hook_59 : decode prog_1_method_34_code 59 = .ok (.iadd, 1) := by decide +kernel
theorem dX11_hook_60 : decode prog_1_method_34_code 60 = .ok (.putfield 297, 3) := by decide +kernel
theorem dX11_hook_63 : decode prog_1_method_34_code 63 = .ok (.aload_n 2, 1) := by decide +kernel
theorem dX11_hook_64 : decode prog_1_method_34_code 64 = .ok (.getfield 297, 3) := by decide +kernel
theorem dX11_hook_67 : decode prog_1_method_34_code 67 = .ok (.ireturn, 1) := by decide +kernel
theorem sp_X11_hook {q : Int} (cs : CS S R) (hc : ClW I 1 A) (hb : BA A) (hq : Rg q) (hp : ∀ I', ClW I' 1 (f_hook A q).2 → Fw I I' → Post (some (.int (iI (f_hook A q).1))) S I' R) : Call n 0 0 mX11_hook [.ref (S.2.1 0), .int (iI q)] S I R Post := by
  obtain ⟨⟨⟨c0, c7, c8, c9, c10, c11⟩, cq⟩, ⟨⟨t1, t2, t3, t4, t5, t6, t7, t8, t9⟩, tq, th, tb, ts, td⟩, cb, cp⟩ := id hc
  dsimp only [Nat.reduceAdd] at c0 c7 c8 c9 c10 c11 cq t1 t2 t3 t4 t5 t6 t7 t8 t9 tq th tb ts td
  obtain ⟨⟨b0, b1, b2, b3, b4, bq, bl⟩, ⟨d1, d2, d3, d4, d5, d6, d7⟩, dq, dh, db, ds, dd, dp⟩ := id hb
  have b7 : 0 ≤ A 7 ∧ A 7 ≤ 9999 := b1
  have b8 : 0 ≤ A 8 ∧ A 8 ≤ 30870 := b2
  have b9 : 0 ≤ A 9 ∧ A 9 ≤ 9999 := b3
  have b10 : 0 ≤ A 10 ∧ A 10 ≤ 1 := b4
  have b11 : 0 ≤ A 11 ∧ A 11 ≤ 16 := by have h1 := lns_b (fun q => A (6 + 6 + 3 * q)) (A 0).toNat; have h2 : A 11 = _ := bl; omega
  refine Call.of (by decide +kernel) (Nat.le_of_ble_eq_true rfl) ?_
  show WP _ _ _ _ _ 0 [(0, _), (1, _)] [] 0 0 _ _ _
  refine x_aload_n dX11_hook_0 rfl ?_
  refine x_getR (b := 1) dX11_hook_1 gf_RX11_10 (k_ob_0 cs) (fun _ _ => rfl) (k_r_0_0 cs) ?_
  refine x_getR (b := 13) dX11_hook_4 gf_RX11_67 (k_ob_1 cs) (fun _ _ => rfl) (k_r_1_8 cs) ?_
  refine x_astore_n (lv2 := [(2, _), (0, _), (1, _)]) dX11_hook_7 (by decide) rfl ?_
  refine x_iload_n dX11_hook_8 rfl ?_
  refine x_iconst dX11_hook_9 ?_
  refine x_icmp_ne 20 dX11_hook_10 (by decide) ⟨(by omega), (by omega)⟩ (fun w10 => ?_) (fun w10 => ?_)
  · refine x_iload_n dX11_hook_20 rfl ?_
    refine x_iconst dX11_hook_21 ?_
    refine x_icmp_lt 40 dX11_hook_22 (by decide) ⟨(by omega), (by omega)⟩ (fun w22 => ?_) (fun w22 => ?_)
    · refine x_bipush dX11_hook_40 (by decide) ?_
      exact x_ireturn dX11_hook_42 rfl (by omega) (by omega) (by first | (rw [show f_hook A q = (0, upA A 4 0) from if_pos (by omega)] at hp; exact hp _ (cu_hooks 0 hc) (Fw.rf.u (by omega))) | (rw [show f_hook A q = (A 4 + 1, upA (upA A (68 + (A 4).toNat) q) 4 (A 4 + 1)) from (if_neg (by omega)).trans (if_pos (by omega))] at hp; exact (by have hp2 := hp _ (cu_hook2 q hc (by omega)) ((Fw.rf.u (by omega)).u (by omega)); rw [t4] at hp2; exact hp2)) | (rw [show f_hook A q = (-2, A) from (if_neg (by omega)).trans (if_neg (by omega))] at hp; exact hp _ hc Fw.rf))
    · refine x_iload_n dX11_hook_25 rfl ?_
      refine x_bipush dX11_hook_26 (by decide) ?_
      refine x_icmp_gt 40 dX11_hook_28 (by decide) ⟨(by omega), (by omega)⟩ (fun w28 => ?_) (fun w28 => ?_)
      · refine x_bipush dX11_hook_40 (by decide) ?_
        exact x_ireturn dX11_hook_42 rfl (by omega) (by omega) (by first | (rw [show f_hook A q = (0, upA A 4 0) from if_pos (by omega)] at hp; exact hp _ (cu_hooks 0 hc) (Fw.rf.u (by omega))) | (rw [show f_hook A q = (A 4 + 1, upA (upA A (68 + (A 4).toNat) q) 4 (A 4 + 1)) from (if_neg (by omega)).trans (if_pos (by omega))] at hp; exact (by have hp2 := hp _ (cu_hook2 q hc (by omega)) ((Fw.rf.u (by omega)).u (by omega)); rw [t4] at hp2; exact hp2)) | (rw [show f_hook A q = (-2, A) from (if_neg (by omega)).trans (if_neg (by omega))] at hp; exact hp _ hc Fw.rf))
      · refine x_aload_n dX11_hook_31 rfl ?_
        refine x_getI dX11_hook_32 gf_RX11_297 (k_ob_13 cs) (fun _ _ => rfl) ?_
        refine x_bipush dX11_hook_35 (by decide) ?_
        refine x_icmp_lt 43 dX11_hook_37 (by decide) ⟨(by omega), (by omega)⟩ (fun w37 => ?_) (fun w37 => ?_)
        · refine x_aload_n dX11_hook_43 rfl ?_
          refine x_getR (b := 15) dX11_hook_44 gf_RX11_300 (k_ob_13 cs) (fun _ _ => rfl) (k_r_13_1 cs) ?_
          refine x_aload_n dX11_hook_47 rfl ?_
          refine x_getI dX11_hook_48 gf_RX11_297 (k_ob_13 cs) (fun _ _ => rfl) ?_
          refine x_iload_n dX11_hook_51 rfl ?_
          refine x_iastore dX11_hook_52 (k_ar_15 cs) (by omega) (by omega) ?_
          refine x_aload_n dX11_hook_53 rfl ?_
          refine x_dup dX11_hook_54 rfl ?_
          refine x_getIv (z := I 13 7) dX11_hook_55 gf_RX11_297 (k_ob_13 cs) (fun _ _ => rfl) (by (repeat first | rw [uI_s] | rw [uI_o (by omega)]); try rfl) ?_
          refine x_iconst dX11_hook_58 ?_
          refine x_iadd dX11_hook_59 ?_
          refine x_putI dX11_hook_60 gf_RX11_297 (k_ob_13 cs) rfl ?_
          refine x_aload_n dX11_hook_63 rfl ?_
          refine x_getIv (z := I 13 7 + 1) dX11_hook_64 gf_RX11_297 (k_ob_13 cs) (fun _ _ => rfl) (by (repeat first | rw [uI_s] | rw [uI_o (by omega)]); try rfl) ?_
          exact x_ireturn dX11_hook_67 rfl (by omega) (by omega) (by first | (rw [show f_hook A q = (0, upA A 4 0) from if_pos (by omega)] at hp; exact hp _ (cu_hooks 0 hc) (Fw.rf.u (by omega))) | (rw [show f_hook A q = (A 4 + 1, upA (upA A (68 + (A 4).toNat) q) 4 (A 4 + 1)) from (if_neg (by omega)).trans (if_pos (by omega))] at hp; exact (by have hp2 := hp _ (cu_hook2 q hc (by omega)) ((Fw.rf.u (by omega)).u (by omega)); rw [t4] at hp2; exact hp2)) | (rw [show f_hook A q = (-2, A) from (if_neg (by omega)).trans (if_neg (by omega))] at hp; exact hp _ hc Fw.rf))
        · refine x_bipush dX11_hook_40 (by decide) ?_
          exact x_ireturn dX11_hook_42 rfl (by omega) (by omega) (by first | (rw [show f_hook A q = (0, upA A 4 0) from if_pos (by omega)] at hp; exact hp _ (cu_hooks 0 hc) (Fw.rf.u (by omega))) | (rw [show f_hook A q = (A 4 + 1, upA (upA A (68 + (A 4).toNat) q) 4 (A 4 + 1)) from (if_neg (by omega)).trans (if_pos (by omega))] at hp; exact (by have hp2 := hp _ (cu_hook2 q hc (by omega)) ((Fw.rf.u (by omega)).u (by omega)); rw [t4] at hp2; exact hp2)) | (rw [show f_hook A q = (-2, A) from (if_neg (by omega)).trans (if_neg (by omega))] at hp; exact hp _ hc Fw.rf))
  · refine x_aload_n dX11_hook_13 rfl ?_
    refine x_iconst dX11_hook_14 ?_
    refine x_putI dX11_hook_15 gf_RX11_297 (k_ob_13 cs) rfl ?_
    refine x_iconst dX11_hook_18 ?_
    exact x_ireturn dX11_hook_19 rfl (by omega) (by omega) (by first | (rw [show f_hook A q = (0, upA A 4 0) from if_pos (by omega)] at hp; exact hp _ (cu_hooks 0 hc) (Fw.rf.u (by omega))) | (rw [show f_hook A q = (A 4 + 1, upA (upA A (68 + (A 4).toNat) q) 4 (A 4 + 1)) from (if_neg (by omega)).trans (if_pos (by omega))] at hp; exact (by have hp2 := hp _ (cu_hook2 q hc (by omega)) ((Fw.rf.u (by omega)).u (by omega)); rw [t4] at hp2; exact hp2)) | (rw [show f_hook A q = (-2, A) from (if_neg (by omega)).trans (if_neg (by omega))] at hp; exact hp _ hc Fw.rf))
end Cls1
