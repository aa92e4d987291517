section Rm3s
variable {n mc ms : Nat} {M : Md} {pc : Nat} {lv : List (Nat × Value)} {st : List Value} {k j : Nat} {Post : PT} {S : Sh} {I : CI} {R : CR} {A : Nat → Int} {tx : Nat → Nat → Int}
variable {t : Nat → Int} {l o : Nat} {sl : Bool} {cu : Cu} {p b : List Int}
theorem stl_len {g : Int} : ∀ (p b : List Int), (stl g p b).2.length + (stl g p b).1.length = b.length + p.length := by
  intro p
  induction p with
  | nil => intro b; rfl
  | cons x p ih =>
    intro b
    by_cases h : g ≤ rk x
    · rw [stl_go h, ih, List.length_append, List.length_singleton, List.length_cons]; omega
    · rw [stl_no (by omega)]
theorem stl_ok {g : Int} : ∀ (p b : List Int), okP p → okP (stl g p b).1 ∧ nOp (stl g p b).1 ≤ nOp p := by
  intro p
  induction p with
  | nil => intro b _; exact ⟨trivial, Nat.le_refl _⟩
  | cons x p ih =>
    intro b hk
    by_cases h : g ≤ rk x
    · rw [stl_go h]
      have h1 := ih (b ++ [ivm x * 16384]) hk.1
      refine ⟨h1.1, ?_⟩
      have h2 : nOp (x :: p) = (if opT x then 1 else 0) + nOp p := rfl
      omega
    · rw [stl_no (by omega)]; exact ⟨hk, Nat.le_refl _⟩
theorem okP_160 (hk : okP p) (h8 : nOp p ≤ 8) : p.length ≤ 71 := by
  have h1 := okP_len p hk
  have h2 : rkh p ≤ 7 := by
    cases p with
    | nil => show (0 : Int) ≤ 7; omega
    | cons x p => exact (rk_b x).2
  omega
def RfB (J : CI) (t : Nat → Int) (l o : Nat) (sl : Bool) (p : List Int) (cu : Cu) (b : List Int) : Prop := (TpR J t l ∧ TkR J cu ∧ CuOK l cu) ∧ PlS J p ∧ CdS J o b ∧ ((J 306 14 = 1 ∧ sl = true) ∨ (J 306 14 = 0 ∧ sl = false)) ∧ okP p ∧ nOp p ≤ 8 ∧ b.length + p.length ≤ cu.2.1 ∧ o + 705 ≤ 2820
def RfS (J : CI) (t : Nat → Int) (l o : Nat) (sl : Bool) (s0 : MS) : Prop := RfB J t l o sl s0.1 s0.2.2.1 s0.2.2.2 ∧ ((J 306 18 = 1 ∧ s0.2.1 = true) ∨ (J 306 18 = 0 ∧ s0.2.1 = false))
def Frf (o : Nat) (I J : CI) : Prop := (∀ a, a ≠ 306 → a ≠ 309 → a ≠ 311 → J a = I a) ∧ (∀ a, (a < 7 ∨ a = 12 ∨ a = 14 ∨ 18 < a) → J 306 a = I 306 a) ∧ ∀ a, (a < o + 97 ∨ o + 705 ≤ a) → J 309 a = I 309 a
theorem Frf.rf {I : CI} : Frf o I I := ⟨fun _ _ _ _ => rfl, fun _ _ => rfl, fun _ _ => rfl⟩
theorem Frf.tr {I J K : CI} (h : Frf o I J) (h2 : Frf o J K) : Frf o I K := ⟨fun a x y z => (h2.1 a x y z).trans (h.1 a x y z), fun a x => (h2.2.1 a x).trans (h.2.1 a x), fun a x => (h2.2.2 a x).trans (h.2.2 a x)⟩
theorem Fst.frf {I J : CI} (h : Fst o I J) : Frf o I J := ⟨fun a x y _ => h.1 a x y, fun a x => h.2.1 a (by omega) (by omega) (by omega), h.2.2⟩
theorem FcR.frf {I J : CI} (h : FcR I J) : Frf o I J := ⟨fun a x _ _ => h.1 a x, fun a x => h.2 a (by omega), fun a _ => by rw [h.1 309 (by omega)]⟩
theorem Frf.u6 {I J : CI} {q : Nat} {v : Int} (h : Frf o I J) (hq : (7 ≤ q ∧ q ≤ 11) ∨ q = 13 ∨ (16 ≤ q ∧ q ≤ 18)) : Frf o I (uI J 306 q v) := ⟨fun a x y z => by rw [uI_row x]; exact h.1 a x y z, fun a x => by rw [uI_o (by omega)]; exact h.2.1 a x, fun a x => by rw [uI_row (by omega)]; exact h.2.2 a x⟩
theorem Frf.u1 {I J : CI} {q : Nat} {v : Int} (h : Frf o I J) : Frf o I (uI J 311 q v) := ⟨fun a x y z => by rw [uI_row z]; exact h.1 a x y z, fun a x => by rw [uI_row (by omega)]; exact h.2.1 a x, fun a x => by rw [uI_row (by omega)]; exact h.2.2 a x⟩
/-- the token and the tape stay where other fields are written -/
theorem tk_fr {J : CI} (h : TpR I t l ∧ TkR I cu ∧ CuOK l cu) (h310 : J 310 = I 310) (h6 : ∀ a, (a < 12) → J 306 a = I 306 a) : TpR J t l ∧ TkR J cu ∧ CuOK l cu := by
  refine ⟨⟨h310.trans h.1.1, (h6 4 (by omega)).trans h.1.2.1, h.1.2.2⟩, ?_, h.2.2⟩
  unfold TkR
  rw [h6 7 (by omega), h6 8 (by omega), h6 9 (by omega), h6 10 (by omega), h6 11 (by omega)]
  exact h.2.1
theorem sp_nxt (cs : CS S R) (hn : 2 ≤ n) (h : TpR I t l ∧ TkR I cu ∧ CuOK l cu) (hp : ∀ J, (TpR J t l ∧ TkR J (adv t l cu.1) ∧ CuOK l (adv t l cu.1)) → (cu.2.2.1 ≠ 0 → cu.2.1 < (adv t l cu.1).2.1) → cu.2.1 ≤ (adv t l cu.1).2.1 → FcR I J → Post none S J R) : Call n 0 0 mX12_nextToken [.ref (S.2.1 306)] S I R Post := by
  have l3 := h.1.2.2.1
  refine sp_X12_nextToken (t := t) (l := l) (p := cu.1) cs hn h.1 h.2.2.2.1 h.2.1.1.1 (fun J hC hF => ?_)
  have ha := cu_adv (t := t) h.2.2 l3
  have hT := TpR.f h.1 hF
  exact hp J ⟨hT, tk_of hT (eR_le h.2.2.2.1) hC, ha.1⟩ ha.2.1 ha.2.2 hF
theorem pls_fc {J : CI} (h : PlS I p) (f : FcR I J) : PlS J p := ⟨PlA.w h.1 (fun i _ => by rw [f.1 311 (by omega)]), (f.2 16 (by omega)).trans h.2.1, (f.2 17 (by omega)).trans h.2.2⟩
theorem cds_fc {J : CI} (h : CdS I o b) (f : FcR I J) : CdS J o b := ⟨by rw [f.1 309 (by omega)]; exact h.1, (f.2 13 (by omega)).trans h.2.1, (f.2 12 (by omega)).trans h.2.2⟩
theorem dX12_opened_0 : decode prog_14_method_44_code 0 = .ok (.aload_n 0, 1) := by decide +kernel
theorem dX12_opened_1 : decode prog_14_method_44_code 1 = .ok (.getfield 176, 3) := by decide +kernel
theorem dX12_opened_4 : decode prog_14_method_44_code 4 = .ok (.bipush 8, 2) := by decide +kernel
theorem dX12_opened_6 : decode prog_14_method_44_code 6 = .ok (.if_icmp .ne 5, 3) := by decide +kernel
theorem dX12_opened_9 : decode prog_14_method_44_code 9 = .ok (.iconst 3, 1) := by decide +kernel
theorem dX12_opened_10 : decode prog_14_method_44_code 10 = .ok (.ireturn, 1) := by decide +kernel
theorem dX12_opened_11 : decode prog_14_method_44_code 11 = .ok (.aload_n 0, 1) := by decide +kernel
theorem dX12_opened_12 : decode prog_14_method_44_code 12 = .ok (.dup, 1) := by decide +kernel
theorem dX12_opened_13 : decode prog_14_method_44_code 13 = .ok (.getfield 176, 3) := by decide +kernel
theorem dX12_opened_16 : decode prog_14_method_44_code 16 = .ok (.iconst 1, 1) := by decide +kernel
theorem dX12_opened_17 : decode prog_14_method_44_code 17 = .ok (.iadd, 1) := by decide +kernel
theorem dX12_opened_18 : decode prog_14_method_44_code 18 = .ok (.putfield 176, 3) := by decide +kernel
theorem dX12_opened_21 : decode prog_14_method_44_code 21 = .ok (.aload_n 0, 1) := by decide +kernel
theorem dX12_opened_22 : decode prog_14_method_44_code 22 = .ok (.getfield 29, 3) := by decide +kernel
theorem dX12_opened_25 : decode prog_14_method_44_code 25 = .ok (.aload_n 0, 1) := by decide +kernel
theorem dX12_opened_26 : decode prog_14_method_44_code 26 = .ok (.getfield 166, 3) := by decide +kernel
theorem dX12_opened_29 : decode prog_14_method_44_code 29 = .ok (.iload_n 1, 1) := by decide +kernel
theorem dX12_opened_30 : decode prog_14_method_44_code 30 = .ok (.iastore, 1) := by decide +kernel
theorem dX12_opened_31 : decode prog_14_method_44_code 31 = .ok (.aload_n 0, 1) := by decide +kernel
theorem dX12_opened_32 : decode prog_14_method_44_code 32 = .ok (.dup, 1) := by decide +kernel
theorem dX12_opened_33 : decode prog_14_method_44_code 33 = .ok (.getfield 166, 3) := by decide +kernel
theorem dX12_opened_36 : decode prog_14_method_44_code 36 = .ok (.iconst 1, 1) := by decide +kernel
theorem dX12_opened_37 : decode prog_14_method_44_code 37 = .ok (.iadd, 1) := by decide +kernel
theorem dX12_opened_38 : decode prog_14_method_44_code 38 = .ok (.putfield 166, 3) := by decide +kernel
theorem dX12_opened_41 : decode prog_14_method_44_code 41 = .ok (.aload_n 0, 1) := by decide +kernel
theorem dX12_opened_42 : decode prog_14_method_44_code 42 = .ok (.invokevirtual 186, 3) := by decide +kernel
theorem dX12_opened_45 : decode prog_14_method_44_code 45 = .ok (.iconst 0, 1) := by decide +kernel
theorem dX12_opened_46 : decode prog_14_method_44_code 46 = .ok (.ireturn, 1) := by decide +kernel
theorem sp_X12_opened {x : Int} (cs : CS S R) (hn : 3 ≤ n) (hx : vld x ∧ opT x = true) (h : RfB I t l o sl p cu b) (hw : I 306 18 = 0) (hk : cu.2.2.1 ≠ 0) (hp : ∀ J, RfS J t l o sl (opO t l x p cu b).2 → Frf o I J → Post (some (.int (iI (opO t l x p cu b).1))) S J R) : Call n 0 0 mX12_opened [.ref (S.2.1 306), .int (iI x)] S I R Post := by
  obtain ⟨h1, ⟨p1, p2, p3⟩, h3, h4, h5, h6, h7, h8⟩ := id h
  have hl := okP_160 h5 h6
  refine Call.of (by decide +kernel) (Nat.le_of_ble_eq_true rfl) ?_
  show WP _ _ _ _ _ 0 [(0, _), (1, _)] [] 0 0 _ _ _
  refine x_aload_n dX12_opened_0 rfl ?_
  refine x_getIv (z := (nOp p : Int)) dX12_opened_1 gf_RX12_176 (k_ob_306 cs) (fun _ _ => rfl) (by first | exact p3 | (rw [uI_o (by omega)]; exact p2) | (rw [uI_row (by omega), uI_o (by omega)]; exact p2)) ?_
  refine x_bipush dX12_opened_4 (by decide) ?_
  refine x_icmp_ne 11 dX12_opened_6 (by decide) ⟨(by omega), (by omega)⟩ (fun w6 => ?_) (fun w6 => ?_)
  · refine x_aload_n dX12_opened_11 rfl ?_
    refine x_dup dX12_opened_12 rfl ?_
    refine x_getIv (z := (nOp p : Int)) dX12_opened_13 gf_RX12_176 (k_ob_306 cs) (fun _ _ => rfl) (by first | exact p3 | (rw [uI_o (by omega)]; exact p2) | (rw [uI_row (by omega), uI_o (by omega)]; exact p2)) ?_
    refine x_iconst dX12_opened_16 ?_
    refine x_iadd dX12_opened_17 ?_
    refine x_putI dX12_opened_18 gf_RX12_176 (k_ob_306 cs) rfl ?_
    refine x_aload_n dX12_opened_21 rfl ?_
    refine x_getR (b := 311) dX12_opened_22 gf_RX12_29 (k_ob_306 cs) (fun _ _ => rfl) (k_r_306_15 cs) ?_
    refine x_aload_n dX12_opened_25 rfl ?_
    refine x_getIv (z := (p.length : Int)) dX12_opened_26 gf_RX12_166 (k_ob_306 cs) (fun _ _ => rfl) (by first | exact p3 | (rw [uI_o (by omega)]; exact p2) | (rw [uI_row (by omega), uI_o (by omega)]; exact p2)) ?_
    refine x_iload_n dX12_opened_29 rfl ?_
    refine x_iastore dX12_opened_30 (k_ar_311 cs) (by omega) (by omega) ?_
    refine x_aload_n dX12_opened_31 rfl ?_
    refine x_dup dX12_opened_32 rfl ?_
    refine x_getIv (z := (p.length : Int)) dX12_opened_33 gf_RX12_166 (k_ob_306 cs) (fun _ _ => rfl) (by first | exact p3 | (rw [uI_o (by omega)]; exact p2) | (rw [uI_row (by omega), uI_o (by omega)]; exact p2)) ?_
    refine x_iconst dX12_opened_36 ?_
    refine x_iadd dX12_opened_37 ?_
    refine x_putI dX12_opened_38 gf_RX12_166 (k_ob_306 cs) rfl ?_
    refine x_aload_n dX12_opened_41 rfl ?_
    refine x_callV0 (mc1 := 0) (ms1 := 0) dX12_opened_42 cv_RX12_186 (ci := 12) (k_ob_306 cs) rfl (Nat.le_of_ble_eq_true rfl) (n1 := n - 1) (by omega) (by omega) (by omega) ?_
    refine sp_nxt (t := t) (l := l) (cu := cu) cs (by omega) (tk_fr h1 (by rw [uI_row (by omega), uI_row (by omega), uI_row (by omega)]) (fun a ha => by rw [uI_o (by omega), uI_row (by omega), uI_o (by omega)])) (fun J42 k42 s42 m42 f42 => ?_)
    have e42 : opO t l x p cu b = (0, (x :: p, false, adv t l cu.1, b)) := opO_go (by omega)
    have hs42 := s42 hk
    refine x_iconst dX12_opened_45 ?_
    exact x_ireturn dX12_opened_46 rfl (by omega) (by omega) (by first
 | (exfalso; omega)
 | (have e3 : opO t l x p cu b = (3, (p, false, cu, b)) := if_pos (by omega)
    rw [e3] at hp
    exact hp I ⟨h, Or.inr ⟨hw, rfl⟩⟩ Frf.rf)
 | (rw [e42] at hp
    refine hp J42 ⟨⟨k42, pls_fc ⟨⟨?_, PlA.w p1 (fun i hi => by rw [uI_row (by omega), uI_o (by omega), uI_row (by omega)])⟩, ?_, ?_⟩ f42, cds_fc ⟨?_, ?_, ?_⟩ f42, ?_, ⟨h5, hx.1, Or.inl hx.2⟩, ?_, ?_, h8⟩, Or.inr ⟨?_, rfl⟩⟩ (Frf.tr (Frf.u6 (Frf.u1 (Frf.u6 Frf.rf (by omega))) (by omega)) (FcR.frf f42))
    · rw [uI_row (by omega), uI_x rfl (by omega)]
    · rw [uI_s, List.length_cons]; omega
    · rw [uI_o (by omega), uI_row (by omega), uI_s, nOp_c hx.2]; omega
    · rw [uI_row (by omega), uI_row (by omega), uI_row (by omega)]; exact h3.1
    · rw [uI_o (by omega), uI_row (by omega), uI_o (by omega)]; exact h3.2.1
    · rw [uI_o (by omega), uI_row (by omega), uI_o (by omega)]; exact h3.2.2
    · rw [f42.2 14 (by omega), uI_o (by omega), uI_row (by omega), uI_o (by omega)]; exact h4
    · show nOp (x :: p) ≤ 8; rw [nOp_c hx.2]; omega
    · show b.length + (x :: p).length ≤ (adv t l cu.1).2.1; rw [List.length_cons]; omega
    · rw [f42.2 18 (by omega), uI_o (by omega), uI_row (by omega), uI_o (by omega)]; exact hw))
  · refine x_iconst dX12_opened_9 ?_
    exact x_ireturn dX12_opened_10 rfl (by omega) (by omega) (by first
 | (exfalso; omega)
 | (have e3 : opO t l x p cu b = (3, (p, false, cu, b)) := if_pos (by omega)
    rw [e3] at hp
    exact hp I ⟨h, Or.inr ⟨hw, rfl⟩⟩ Frf.rf)
 | (rw [e42] at hp
    refine hp J42 ⟨⟨k42, pls_fc ⟨⟨?_, PlA.w p1 (fun i hi => by rw [uI_row (by omega), uI_o (by omega), uI_row (by omega)])⟩, ?_, ?_⟩ f42, cds_fc ⟨?_, ?_, ?_⟩ f42, ?_, ⟨h5, hx.1, Or.inl hx.2⟩, ?_, ?_, h8⟩, Or.inr ⟨?_, rfl⟩⟩ (Frf.tr (Frf.u6 (Frf.u1 (Frf.u6 Frf.rf (by omega))) (by omega)) (FcR.frf f42))
    · rw [uI_row (by omega), uI_x rfl (by omega)]
    · rw [uI_s, List.length_cons]; omega
    · rw [uI_o (by omega), uI_row (by omega), uI_s, nOp_c hx.2]; omega
    · rw [uI_row (by omega), uI_row (by omega), uI_row (by omega)]; exact h3.1
    · rw [uI_o (by omega), uI_row (by omega), uI_o (by omega)]; exact h3.2.1
    · rw [uI_o (by omega), uI_row (by omega), uI_o (by omega)]; exact h3.2.2
    · rw [f42.2 14 (by omega), uI_o (by omega), uI_row (by omega), uI_o (by omega)]; exact h4
    · show nOp (x :: p) ≤ 8; rw [nOp_c hx.2]; omega
    · show b.length + (x :: p).length ≤ (adv t l cu.1).2.1; rw [List.length_cons]; omega
    · rw [f42.2 18 (by omega), uI_o (by omega), uI_row (by omega), uI_o (by omega)]; exact hw))
theorem dX12_endOne_0 : decode prog_14_method_46_code 0 = .ok (.aload_n 0, 1) := by decide +kernel
theorem dX12_endOne_1 : decode prog_14_method_46_code 1 = .ok (.bipush 7, 2) := by decide +kernel
theorem dX12_endOne_3 : decode prog_14_method_46_code 3 = .ok (.invokevirtual 209, 3) := by decide +kernel
theorem dX12_endOne_6 : decode prog_14_method_46_code 6 = .ok (.aload_n 0, 1) := by decide +kernel
theorem dX12_endOne_7 : decode prog_14_method_46_code 7 = .ok (.iconst 1, 1) := by decide +kernel
theorem dX12_endOne_8 : decode prog_14_method_46_code 8 = .ok (.putfield 212, 3) := by decide +kernel
theorem dX12_endOne_11 : decode prog_14_method_46_code 11 = .ok (.aload_n 0, 1) := by decide +kernel
theorem dX12_endOne_12 : decode prog_14_method_46_code 12 = .ok (.getfield 166, 3) := by decide +kernel
theorem dX12_endOne_15 : decode prog_14_method_46_code 15 = .ok (.ifCond .eq 19, 3) := by decide +kernel
theorem dX12_endOne_18 : decode prog_14_method_46_code 18 = .ok (.aload_n 0, 1) := by decide +kernel
theorem dX12_endOne_19 : decode prog_14_method_46_code 19 = .ok (.getfield 29, 3) := by decide +kernel
theorem dX12_endOne_22 : decode prog_14_method_46_code 22 = .ok (.aload_n 0, 1) := by decide +kernel
theorem dX12_endOne_23 : decode prog_14_method_46_code 23 = .ok (.getfield 166, 3) := by decide +kernel
theorem dX12_endOne_26 : decode prog_14_method_46_code 26 = .ok (.iconst 1, 1) := by decide +kernel
theorem dX12_endOne_27 : decode prog_14_method_46_code 27 = .ok (.isub, 1) := by decide +kernel
theorem dX12_endOne_28 : decode prog_14_method_46_code 28 = .ok (.iaload, 1) := by decide +kernel
theorem dX12_endOne_29 : decode prog_14_method_46_code 29 = .ok (.bipush 41, 2) := by decide +kernel
theorem dX12_endOne_31 : decode prog_14_method_46_code 31 = .ok (.if_icmp .eq 5, 3) := by decide +kernel
theorem dX12_endOne_34 : decode prog_14_method_46_code 34 = .ok (.iconst 0, 1) := by decide +kernel
theorem dX12_endOne_35 : decode prog_14_method_46_code 35 = .ok (.ireturn, 1) := by decide +kernel
theorem dX12_endOne_36 : decode prog_14_method_46_code 36 = .ok (.aload_n 0, 1) := by decide +kernel
theorem dX12_endOne_37 : decode prog_14_method_46_code 37 = .ok (.bipush 98, 2) := by decide +kernel
theorem dX12_endOne_39 : decode prog_14_method_46_code 39 = .ok (.bipush 121, 2) := by decide +kernel
theorem dX12_endOne_41 : decode prog_14_method_46_code 41 = .ok (.invokestatic 137, 3) := by decide +kernel
theorem dX12_endOne_44 : decode prog_14_method_46_code 44 = .ok (.invokevirtual 201, 3) := by decide +kernel
theorem dX12_endOne_47 : decode prog_14_method_46_code 47 = .ok (.ifCond .ne 5, 3) := by decide +kernel
theorem dX12_endOne_50 : decode prog_14_method_46_code 50 = .ok (.iconst 1, 1) := by decide +kernel
theorem dX12_endOne_51 : decode prog_14_method_46_code 51 = .ok (.ireturn, 1) := by decide +kernel
theorem dX12_endOne_52 : decode prog_14_method_46_code 52 = .ok (.aload_n 0, 1) := by decide +kernel
theorem dX12_endOne_53 : decode prog_14_method_46_code 53 = .ok (.invokevirtual 186, 3) := by decide +kernel
theorem dX12_endOne_56 : decode prog_14_method_46_code 56 = .ok (.aload_n 0, 1) := by decide +kernel
theorem dX12_endOne_57 : decode prog_14_method_46_code 57 = .ok (.getfield 29, 3) := by decide +kernel
theorem dX12_endOne_60 : decode prog_14_method_46_code 60 = .ok (.aload_n 0, 1) := by decide +kernel
theorem dX12_endOne_61 : decode prog_14_method_46_code 61 = .ok (.getfield 166, 3) := by decide +kernel
theorem dX12_endOne_64 : decode prog_14_method_46_code 64 = .ok (.iconst 1, 1) := by decide +kernel
theorem dX12_endOne_65 : decode prog_14_method_46_code 65 = .ok (.isub, 1) := by decide +kernel
theorem dX12_endOne_66 : decode prog_14_method_46_code 66 = .ok (.iconst 4, 1) := by decide +kernel
theorem dX12_endOne_67 : decode prog_14_method_46_code 67 = .ok (.iastore, 1) := by decide +kernel
theorem dX12_endOne_68 : decode prog_14_method_46_code 68 = .ok (.aload_n 0, 1) := by decide +kernel
theorem dX12_endOne_69 : decode prog_14_method_46_code 69 = .ok (.iconst 0, 1) := by decide +kernel
theorem dX12_endOne_70 : decode prog_14_method_46_code 70 = .ok (.putfield 212, 3) := by decide +kernel
theorem dX12_endOne_73 : decode prog_14_method_46_code 73 = .ok (.iconst 0, 1) := by decide +kernel
theorem dX12_endOne_74 : decode prog_14_method_46_code 74 = .ok (.ireturn, 1) := by decide +kernel
theorem sp_X12_endOne (cs : CS S R) (hn : 4 ≤ n) (h : RfB I t l o sl p cu b) (hp : ∀ J, RfS J t l o sl (endO t l p cu b).2 → Frf o I J → Post (some (.int (iI (endO t l p cu b).1))) S J R) : Call n 0 0 mX12_endOne [.ref (S.2.1 306)] S I R Post := by
  obtain ⟨h1, h2, h3, h4, h5, h6, h7, h8⟩ := id h
  have hl := okP_160 h5 h6
  have l3 := h1.1.2.2.1
  have ok := h1.2.2
  have ok1 := ok.1
  have ok2 := ok.2.1
  obtain ⟨q, b2, hq⟩ : ∃ q b2, stl 7 p b = (q, b2) := ⟨_, _, rfl⟩
  have hlen := stl_len (g := 7) p b
  have hok := stl_ok (g := 7) p b h5
  rw [hq] at hlen hok
  have hlen' : b2.length + q.length = b.length + p.length := hlen
  have hq1 : okP q := hok.1
  have hq2 : nOp q ≤ nOp p := hok.2
  have hlq := okP_160 hq1 (by omega)
  have hend : endO t l p cu b = if q.head? = some 41 then (if cu.2.2.1 = 139 then (0, (4 :: q.tail, false, adv t l cu.1, b2)) else (1, (q, true, cu, b2))) else (0, (q, true, cu, b2)) := by
    unfold endO
    rw [hq]
  refine Call.of (by decide +kernel) (Nat.le_of_ble_eq_true rfl) ?_
  show WP _ _ _ _ _ 0 [(0, _)] [] 0 0 _ _ _
  refine x_aload_n dX12_endOne_0 rfl ?_
  refine x_bipush dX12_endOne_1 (by decide) ?_
  refine x_callV1 (mc1 := 0) (ms1 := 0) dX12_endOne_3 cv_RX12_209 (ci := 12) (k_ob_306 cs) rfl (Nat.le_of_ble_eq_true rfl) (n1 := n - 1) (by omega) (by omega) (by omega) ?_
  refine sp_X12_settle (o := o) (p := p) (b := b) cs (by omega) (by omega) h8 h2 h3 h5 (by omega) (by omega) (fun J3 s3 c3 f3 => ?_)
  rw [hq] at s3 c3
  have k3 : TpR J3 t l ∧ TkR J3 cu ∧ CuOK l cu := tk_fr h1 (f3.1 310 (by omega) (by omega)) (fun a ha => f3.2.1 a (by omega) (by omega) (by omega))
  have r3 : RfB (uI J3 306 18 1) t l o sl q cu b2 := ⟨tk_fr k3 (by rw [uI_row (by omega)]) (fun a ha => by rw [uI_o (by omega)]), ⟨PlA.w s3.1 (fun i _ => by rw [uI_row (by omega)]), by rw [uI_o (by omega)]; exact s3.2.1, by rw [uI_o (by omega)]; exact s3.2.2⟩, ⟨by rw [uI_row (by omega)]; exact c3.1, by rw [uI_o (by omega)]; exact c3.2.1, by rw [uI_o (by omega)]; exact c3.2.2⟩, by rw [uI_o (by omega), f3.2.1 14 (by omega) (by omega) (by omega)]; exact h4, hq1, by omega, by omega, h8⟩
  refine x_aload_n dX12_endOne_6 rfl ?_
  refine x_iconst dX12_endOne_7 ?_
  refine x_putZ dX12_endOne_8 gf_RX12_212 (k_ob_306 cs) rfl (by omega) ?_
  refine x_aload_n dX12_endOne_11 rfl ?_
  refine x_getIv (z := (q.length : Int)) dX12_endOne_12 gf_RX12_166 (k_ob_306 cs) (fun _ _ => rfl) (by first | (rw [uI_o (by omega)]; exact s3.2.1) | (rw [f53.2 16 (by omega), uI_o (by omega)]; exact s3.2.1)) ?_
  refine x_if_eq 34 dX12_endOne_15 (by decide) (by omega) (fun w15 => ?_) (fun w15 => ?_)
  · refine x_iconst dX12_endOne_34 ?_
    exact x_ireturn dX12_endOne_35 rfl (by omega) (by omega) (by first
 | (have hh : q.head? ≠ some 41 := by
      cases q with
      | nil => simp
      | cons x q' => exfalso; rw [List.length_cons] at w15; omega
    rw [hend, if_neg hh] at hp
    exact hp _ ⟨r3, Or.inl ⟨by rw [uI_s], rfl⟩⟩ (Frf.u6 (Fst.frf f3) (by omega)))
 | (have hh : (x :: q').head? ≠ some 41 := by
      intro h9
      have h8 : x = 41 := by simpa using h9
      omega
    rw [hend, if_neg hh] at hp
    exact hp _ ⟨r3, Or.inl ⟨by rw [uI_s], rfl⟩⟩ (Frf.u6 (Fst.frf f3) (by omega)))
 | (have hx : x = 41 := by omega
    subst hx
    have hk : cu.2.2.1 ≠ 139 := by omega
    rw [hend, if_pos (show (41 :: q').head? = some 41 from rfl), if_neg hk] at hp
    exact hp _ ⟨r3, Or.inl ⟨by rw [uI_s], rfl⟩⟩ (Frf.u6 (Fst.frf f3) (by omega)))
 | (have hx : x = 41 := by omega
    subst hx
    have hk : cu.2.2.1 = 139 := by omega
    rw [hend, if_pos (show (41 :: q').head? = some 41 from rfl), if_pos hk] at hp
    have hs53 := s53 (by omega)
    refine hp _ ⟨⟨tk_fr k53 (by rw [uI_row (by omega), uI_row (by omega)]) (fun a ha => by rw [uI_o (by omega), uI_row (by omega)]), ⟨⟨?_, PlA.w (pls_fc r3.2.1 f53).1.2 (fun i hi => ?_)⟩, ?_, ?_⟩, ⟨?_, ?_, ?_⟩, ?_, ⟨hq1.1, (by show vld 4; omega), Or.inl rfl⟩, ?_, ?_, h8⟩, Or.inr ⟨by rw [uI_s], rfl⟩⟩ (Frf.u6 (Frf.u1 (Frf.tr (Frf.u6 (Fst.frf f3) (by omega)) (FcR.frf f53))) (by omega))
    · show uI _ 306 18 0 311 q'.length = 4
      rw [uI_row (by omega), uI_x rfl (by rw [List.length_cons]; omega)]
    · have hi' : i < q'.length := hi
      rw [uI_row (by omega), uI_o (by right; rw [List.length_cons]; omega)]
    · show _ = ((4 :: q').length : Int)
      rw [uI_o (by omega), uI_row (by omega), (pls_fc r3.2.1 f53).2.1]; rfl
    · show _ = (nOp (4 :: q') : Int)
      rw [uI_o (by omega), uI_row (by omega), (pls_fc r3.2.1 f53).2.2, nOp_c (show opT 41 = true from rfl), nOp_c (show opT 4 = true from rfl)]
    · rw [uI_row (by omega), uI_row (by omega)]; exact (cds_fc r3.2.2.1 f53).1
    · rw [uI_o (by omega), uI_row (by omega)]; exact (cds_fc r3.2.2.1 f53).2.1
    · rw [uI_o (by omega), uI_row (by omega)]; exact (cds_fc r3.2.2.1 f53).2.2
    · rw [uI_o (by omega), uI_row (by omega), f53.2 14 (by omega)]; exact r3.2.2.2.1
    · show nOp (4 :: q') ≤ 8
      rw [nOp_c (show opT 4 = true from rfl)]
      rw [nOp_c (show opT 41 = true from rfl)] at hq2
      omega
    · show b2.length + (4 :: q').length ≤ (adv t l cu.1).2.1
      rw [List.length_cons] at hlen' ⊢
      omega))
  · obtain ⟨x, q', rfl⟩ : ∃ x q', q = x :: q' := by
      cases q with
      | nil => exfalso; have : (([] : List Int).length : Int) = 0 := rfl; omega
      | cons x q' => exact ⟨x, q', rfl⟩
    have e18 : uI J3 306 18 1 311 ((((x :: q').length : Int) - 1).toNat) = x := by
      rw [uI_row (by omega), List.length_cons, show (((q'.length + 1 : Nat) : Int) - 1).toNat = q'.length by omega]
      exact s3.1.1
    have hx18 : vld x := hq1.2.1
    rw [List.length_cons] at hlq
    refine x_aload_n dX12_endOne_18 rfl ?_
    refine x_getR (b := 311) dX12_endOne_19 gf_RX12_29 (k_ob_306 cs) (fun _ _ => rfl) (k_r_306_15 cs) ?_
    refine x_aload_n dX12_endOne_22 rfl ?_
    refine x_getIv (z := ((x :: q').length : Int)) dX12_endOne_23 gf_RX12_166 (k_ob_306 cs) (fun _ _ => rfl) (by first | (rw [uI_o (by omega)]; exact s3.2.1) | (rw [f53.2 16 (by omega), uI_o (by omega)]; exact s3.2.1)) ?_
    refine x_iconst dX12_endOne_26 ?_
    refine x_isub dX12_endOne_27 ?_
    refine x_iaload dX12_endOne_28 (k_ar_311 cs) (by rw [List.length_cons]; omega) (by omega) ?_
    rw [e18]
    refine x_bipush dX12_endOne_29 (by decide) ?_
    refine x_icmp_eq 36 dX12_endOne_31 (by decide) ⟨(by omega), (by omega)⟩ (fun w31 => ?_) (fun w31 => ?_)
    · refine x_aload_n dX12_endOne_36 rfl ?_
      refine x_bipush dX12_endOne_37 (by decide) ?_
      refine x_bipush dX12_endOne_39 (by decide) ?_
      refine x_callS2 (mc1 := 0) (ms1 := 0) dX12_endOne_41 cv_RX12_137 (Nat.le_of_ble_eq_true rfl) (n1 := n - 1) (by omega) (by omega) (by omega) ?_
      refine sp_X12_w2 (by omega) ?_ (by omega)
      refine x_callV1 (mc1 := 0) (ms1 := 0) dX12_endOne_44 cv_RX12_201 (ci := 12) (k_ob_306 cs) rfl (Nat.le_of_ble_eq_true rfl) (n1 := n - 1) (by omega) (by omega) (by omega) ?_
      refine sp_isW (cu := cu) (K := 139) cs (by decide) r3.1.2.1 (fun r44 hr44 => ?_)
      refine x_if_ne 52 dX12_endOne_47 (by decide) (by omega) (fun w47 => ?_) (fun w47 => ?_)
      · refine x_aload_n dX12_endOne_52 rfl ?_
        refine x_callV0 (mc1 := 0) (ms1 := 0) dX12_endOne_53 cv_RX12_186 (ci := 12) (k_ob_306 cs) rfl (Nat.le_of_ble_eq_true rfl) (n1 := n - 1) (by omega) (by omega) (by omega) ?_
        refine sp_nxt (t := t) (l := l) (cu := cu) cs (by omega) r3.1 (fun J53 k53 s53 m53 f53 => ?_)
        refine x_aload_n dX12_endOne_56 rfl ?_
        refine x_getR (b := 311) dX12_endOne_57 gf_RX12_29 (k_ob_306 cs) (fun _ _ => rfl) (k_r_306_15 cs) ?_
        refine x_aload_n dX12_endOne_60 rfl ?_
        refine x_getIv (z := ((x :: q').length : Int)) dX12_endOne_61 gf_RX12_166 (k_ob_306 cs) (fun _ _ => rfl) (by first | (rw [uI_o (by omega)]; exact s3.2.1) | (rw [f53.2 16 (by omega), uI_o (by omega)]; exact s3.2.1)) ?_
        refine x_iconst dX12_endOne_64 ?_
        refine x_isub dX12_endOne_65 ?_
        refine x_iconst dX12_endOne_66 ?_
        refine x_iastore dX12_endOne_67 (k_ar_311 cs) (by rw [List.length_cons]; omega) (by omega) ?_
        refine x_aload_n dX12_endOne_68 rfl ?_
        refine x_iconst dX12_endOne_69 ?_
        refine x_putZ dX12_endOne_70 gf_RX12_212 (k_ob_306 cs) rfl (by omega) ?_
        refine x_iconst dX12_endOne_73 ?_
        exact x_ireturn dX12_endOne_74 rfl (by omega) (by omega) (by first
 | (have hh : q.head? ≠ some 41 := by
      cases q with
      | nil => simp
      | cons x q' => exfalso; rw [List.length_cons] at w15; omega
    rw [hend, if_neg hh] at hp
    exact hp _ ⟨r3, Or.inl ⟨by rw [uI_s], rfl⟩⟩ (Frf.u6 (Fst.frf f3) (by omega)))
 | (have hh : (x :: q').head? ≠ some 41 := by
      intro h9
      have h8 : x = 41 := by simpa using h9
      omega
    rw [hend, if_neg hh] at hp
    exact hp _ ⟨r3, Or.inl ⟨by rw [uI_s], rfl⟩⟩ (Frf.u6 (Fst.frf f3) (by omega)))
 | (have hx : x = 41 := by omega
    subst hx
    have hk : cu.2.2.1 ≠ 139 := by omega
    rw [hend, if_pos (show (41 :: q').head? = some 41 from rfl), if_neg hk] at hp
    exact hp _ ⟨r3, Or.inl ⟨by rw [uI_s], rfl⟩⟩ (Frf.u6 (Fst.frf f3) (by omega)))
 | (have hx : x = 41 := by omega
    subst hx
    have hk : cu.2.2.1 = 139 := by omega
    rw [hend, if_pos (show (41 :: q').head? = some 41 from rfl), if_pos hk] at hp
    have hs53 := s53 (by omega)
    refine hp _ ⟨⟨tk_fr k53 (by rw [uI_row (by omega), uI_row (by omega)]) (fun a ha => by rw [uI_o (by omega), uI_row (by omega)]), ⟨⟨?_, PlA.w (pls_fc r3.2.1 f53).1.2 (fun i hi => ?_)⟩, ?_, ?_⟩, ⟨?_, ?_, ?_⟩, ?_, ⟨hq1.1, (by show vld 4; omega), Or.inl rfl⟩, ?_, ?_, h8⟩, Or.inr ⟨by rw [uI_s], rfl⟩⟩ (Frf.u6 (Frf.u1 (Frf.tr (Frf.u6 (Fst.frf f3) (by omega)) (FcR.frf f53))) (by omega))
    · show uI _ 306 18 0 311 q'.length = 4
      rw [uI_row (by omega), uI_x rfl (by rw [List.length_cons]; omega)]
    · have hi' : i < q'.length := hi
      rw [uI_row (by omega), uI_o (by right; rw [List.length_cons]; omega)]
    · show _ = ((4 :: q').length : Int)
      rw [uI_o (by omega), uI_row (by omega), (pls_fc r3.2.1 f53).2.1]; rfl
    · show _ = (nOp (4 :: q') : Int)
      rw [uI_o (by omega), uI_row (by omega), (pls_fc r3.2.1 f53).2.2, nOp_c (show opT 41 = true from rfl), nOp_c (show opT 4 = true from rfl)]
    · rw [uI_row (by omega), uI_row (by omega)]; exact (cds_fc r3.2.2.1 f53).1
    · rw [uI_o (by omega), uI_row (by omega)]; exact (cds_fc r3.2.2.1 f53).2.1
    · rw [uI_o (by omega), uI_row (by omega)]; exact (cds_fc r3.2.2.1 f53).2.2
    · rw [uI_o (by omega), uI_row (by omega), f53.2 14 (by omega)]; exact r3.2.2.2.1
    · show nOp (4 :: q') ≤ 8
      rw [nOp_c (show opT 4 = true from rfl)]
      rw [nOp_c (show opT 41 = true from rfl)] at hq2
      omega
    · show b2.length + (4 :: q').length ≤ (adv t l cu.1).2.1
      rw [List.length_cons] at hlen' ⊢
      omega))
      · refine x_iconst dX12_endOne_50 ?_
        exact x_ireturn dX12_endOne_51 rfl (by omega) (by omega) (by first
 | (have hh : q.head? ≠ some 41 := by
      cases q with
      | nil => simp
      | cons x q' => exfalso; rw [List.length_cons] at w15; omega
    rw [hend, if_neg hh] at hp
    exact hp _ ⟨r3, Or.inl ⟨by rw [uI_s], rfl⟩⟩ (Frf.u6 (Fst.frf f3) (by omega)))
 | (have hh : (x :: q').head? ≠ some 41 := by
      intro h9
      have h8 : x = 41 := by simpa using h9
      omega
    rw [hend, if_neg hh] at hp
    exact hp _ ⟨r3, Or.inl ⟨by rw [uI_s], rfl⟩⟩ (Frf.u6 (Fst.frf f3) (by omega)))
 | (have hx : x = 41 := by omega
    subst hx
    have hk : cu.2.2.1 ≠ 139 := by omega
    rw [hend, if_pos (show (41 :: q').head? = some 41 from rfl), if_neg hk] at hp
    exact hp _ ⟨r3, Or.inl ⟨by rw [uI_s], rfl⟩⟩ (Frf.u6 (Fst.frf f3) (by omega)))
 | (have hx : x = 41 := by omega
    subst hx
    have hk : cu.2.2.1 = 139 := by omega
    rw [hend, if_pos (show (41 :: q').head? = some 41 from rfl), if_pos hk] at hp
    have hs53 := s53 (by omega)
    refine hp _ ⟨⟨tk_fr k53 (by rw [uI_row (by omega), uI_row (by omega)]) (fun a ha => by rw [uI_o (by omega), uI_row (by omega)]), ⟨⟨?_, PlA.w (pls_fc r3.2.1 f53).1.2 (fun i hi => ?_)⟩, ?_, ?_⟩, ⟨?_, ?_, ?_⟩, ?_, ⟨hq1.1, (by show vld 4; omega), Or.inl rfl⟩, ?_, ?_, h8⟩, Or.inr ⟨by rw [uI_s], rfl⟩⟩ (Frf.u6 (Frf.u1 (Frf.tr (Frf.u6 (Fst.frf f3) (by omega)) (FcR.frf f53))) (by omega))
    · show uI _ 306 18 0 311 q'.length = 4
      rw [uI_row (by omega), uI_x rfl (by rw [List.length_cons]; omega)]
    · have hi' : i < q'.length := hi
      rw [uI_row (by omega), uI_o (by right; rw [List.length_cons]; omega)]
    · show _ = ((4 :: q').length : Int)
      rw [uI_o (by omega), uI_row (by omega), (pls_fc r3.2.1 f53).2.1]; rfl
    · show _ = (nOp (4 :: q') : Int)
      rw [uI_o (by omega), uI_row (by omega), (pls_fc r3.2.1 f53).2.2, nOp_c (show opT 41 = true from rfl), nOp_c (show opT 4 = true from rfl)]
    · rw [uI_row (by omega), uI_row (by omega)]; exact (cds_fc r3.2.2.1 f53).1
    · rw [uI_o (by omega), uI_row (by omega)]; exact (cds_fc r3.2.2.1 f53).2.1
    · rw [uI_o (by omega), uI_row (by omega)]; exact (cds_fc r3.2.2.1 f53).2.2
    · rw [uI_o (by omega), uI_row (by omega), f53.2 14 (by omega)]; exact r3.2.2.2.1
    · show nOp (4 :: q') ≤ 8
      rw [nOp_c (show opT 4 = true from rfl)]
      rw [nOp_c (show opT 41 = true from rfl)] at hq2
      omega
    · show b2.length + (4 :: q').length ≤ (adv t l cu.1).2.1
      rw [List.length_cons] at hlen' ⊢
      omega))
    · refine x_iconst dX12_endOne_34 ?_
      exact x_ireturn dX12_endOne_35 rfl (by omega) (by omega) (by first
 | (have hh : q.head? ≠ some 41 := by
      cases q with
      | nil => simp
      | cons x q' => exfalso; rw [List.length_cons] at w15; omega
    rw [hend, if_neg hh] at hp
    exact hp _ ⟨r3, Or.inl ⟨by rw [uI_s], rfl⟩⟩ (Frf.u6 (Fst.frf f3) (by omega)))
 | (have hh : (x :: q').head? ≠ some 41 := by
      intro h9
      have h8 : x = 41 := by simpa using h9
      omega
    rw [hend, if_neg hh] at hp
    exact hp _ ⟨r3, Or.inl ⟨by rw [uI_s], rfl⟩⟩ (Frf.u6 (Fst.frf f3) (by omega)))
 | (have hx : x = 41 := by omega
    subst hx
    have hk : cu.2.2.1 ≠ 139 := by omega
    rw [hend, if_pos (show (41 :: q').head? = some 41 from rfl), if_neg hk] at hp
    exact hp _ ⟨r3, Or.inl ⟨by rw [uI_s], rfl⟩⟩ (Frf.u6 (Fst.frf f3) (by omega)))
 | (have hx : x = 41 := by omega
    subst hx
    have hk : cu.2.2.1 = 139 := by omega
    rw [hend, if_pos (show (41 :: q').head? = some 41 from rfl), if_pos hk] at hp
    have hs53 := s53 (by omega)
    refine hp _ ⟨⟨tk_fr k53 (by rw [uI_row (by omega), uI_row (by omega)]) (fun a ha => by rw [uI_o (by omega), uI_row (by omega)]), ⟨⟨?_, PlA.w (pls_fc r3.2.1 f53).1.2 (fun i hi => ?_)⟩, ?_, ?_⟩, ⟨?_, ?_, ?_⟩, ?_, ⟨hq1.1, (by show vld 4; omega), Or.inl rfl⟩, ?_, ?_, h8⟩, Or.inr ⟨by rw [uI_s], rfl⟩⟩ (Frf.u6 (Frf.u1 (Frf.tr (Frf.u6 (Fst.frf f3) (by omega)) (FcR.frf f53))) (by omega))
    · show uI _ 306 18 0 311 q'.length = 4
      rw [uI_row (by omega), uI_x rfl (by rw [List.length_cons]; omega)]
    · have hi' : i < q'.length := hi
      rw [uI_row (by omega), uI_o (by right; rw [List.length_cons]; omega)]
    · show _ = ((4 :: q').length : Int)
      rw [uI_o (by omega), uI_row (by omega), (pls_fc r3.2.1 f53).2.1]; rfl
    · show _ = (nOp (4 :: q') : Int)
      rw [uI_o (by omega), uI_row (by omega), (pls_fc r3.2.1 f53).2.2, nOp_c (show opT 41 = true from rfl), nOp_c (show opT 4 = true from rfl)]
    · rw [uI_row (by omega), uI_row (by omega)]; exact (cds_fc r3.2.2.1 f53).1
    · rw [uI_o (by omega), uI_row (by omega)]; exact (cds_fc r3.2.2.1 f53).2.1
    · rw [uI_o (by omega), uI_row (by omega)]; exact (cds_fc r3.2.2.1 f53).2.2
    · rw [uI_o (by omega), uI_row (by omega), f53.2 14 (by omega)]; exact r3.2.2.2.1
    · show nOp (4 :: q') ≤ 8
      rw [nOp_c (show opT 4 = true from rfl)]
      rw [nOp_c (show opT 41 = true from rfl)] at hq2
      omega
    · show b2.length + (4 :: q').length ≤ (adv t l cu.1).2.1
      rw [List.length_cons] at hlen' ⊢
      omega))
end Rm3s
