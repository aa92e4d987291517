section Tx2s
variable {n mc ms : Nat} {M : Md} {pc : Nat} {lv : List (Nat × Value)} {st : List Value} {k j : Nat} {Post : PT} {S : Sh} {I : CI} {R : CR} {A : Nat → Int} {tx : Nat → Nat → Int}
variable {t : Nat → Int} {l : Nat}
theorem dX5_startAnew_0 : decode prog_7_method_4_code 0 = .ok (.aload_n 0, 1) := by decide +kernel
theorem dX5_startAnew_1 : decode prog_7_method_4_code 1 = .ok (.iconst 0, 1) := by decide +kernel
theorem dX5_startAnew_2 : decode prog_7_method_4_code 2 = .ok (.putfield 21, 3) := by decide +kernel
theorem dX5_startAnew_5 : decode prog_7_method_4_code 5 = .ok (.aload_n 0, 1) := by decide +kernel
theorem dX5_startAnew_6 : decode prog_7_method_4_code 6 = .ok (.iconst (-1), 1) := by decide +kernel
theorem dX5_startAnew_7 : decode prog_7_method_4_code 7 = .ok (.putfield 25, 3) := by decide +kernel
theorem dX5_startAnew_10 : decode prog_7_method_4_code 10 = .ok (.aload_n 0, 1) := by decide +kernel
theorem dX5_startAnew_11 : decode prog_7_method_4_code 11 = .ok (.iconst 0, 1) := by decide +kernel
theorem dX5_startAnew_12 : decode prog_7_method_4_code 12 = .ok (.putfield 53, 3) := by decide +kernel
theorem dX5_startAnew_15 : decode prog_7_method_4_code 15 = .ok (.aload_n 0, 1) := by decide +kernel
theorem dX5_startAnew_16 : decode prog_7_method_4_code 16 = .ok (.iconst 0, 1) := by decide +kernel
theorem dX5_startAnew_17 : decode prog_7_method_4_code 17 = .ok (.putfield 56, 3) := by decide +kernel
theorem dX5_startAnew_20 : decode prog_7_method_4_code 20 = .ok (.aload_n 0, 1) := by decide +kernel
theorem dX5_startAnew_21 : decode prog_7_method_4_code 21 = .ok (.iconst 0, 1) := by decide +kernel
theorem dX5_startAnew_22 : decode prog_7_method_4_code 22 = .ok (.putfield 59, 3) := by decide +kernel
theorem dX5_startAnew_25 : decode prog_7_method_4_code 25 = .ok (.aload_n 0, 1) := by decide +kernel
theorem dX5_startAnew_26 : decode prog_7_method_4_code 26 = .ok (.iconst 0, 1) := by decide +kernel
theorem dX5_startAnew_27 : decode prog_7_method_4_code 27 = .ok (.putfield 62, 3) := by decide +kernel
theorem dX5_startAnew_30 : decode prog_7_method_4_code 30 = .ok (.aload_n 0, 1) := by decide +kernel
theorem dX5_startAnew_31 : decode prog_7_method_4_code 31 = .ok (.iconst 0, 1) := by decide +kernel
theorem dX5_startAnew_32 : decode prog_7_method_4_code 32 = .ok (.putfield 65, 3) := by decide +kernel
theorem dX5_startAnew_35 : decode prog_7_method_4_code 35 = .ok (.aload_n 0, 1) := by decide +kernel
theorem dX5_startAnew_36 : decode prog_7_method_4_code 36 = .ok (.iconst 0, 1) := by decide +kernel
theorem dX5_startAnew_37 : decode prog_7_method_4_code 37 = .ok (.putfield 68, 3) := by decide +kernel
theorem dX5_startAnew_40 : decode prog_7_method_4_code 40 = .ok (.aload_n 0, 1) := by decide +kernel
theorem dX5_startAnew_41 : decode prog_7_method_4_code 41 = .ok (.iconst 0, 1) := by decide +kernel
theorem dX5_startAnew_42 : decode prog_7_method_4_code 42 = .ok (.putfield 71, 3) := by decide +kernel
theorem dX5_startAnew_45 : decode prog_7_method_4_code 45 = .ok (.return_, 1) := by decide +kernel
theorem sp_X5_startAnew (cs : CS S R) (hp : ∀ J, (∀ a, a ≠ 287 → J a = I a) → (∀ q, (q < 4 ∨ q = 12 ∨ 13 < q) → J 287 q = I 287 q) → (J 287 4 = 0 ∧ J 287 5 = -1 ∧ J 287 6 = 0 ∧ J 287 7 = 0) → (J 287 8 = 0 ∧ J 287 9 = 0 ∧ J 287 10 = 0 ∧ J 287 11 = 0 ∧ J 287 13 = 0) → Post none S J R) : Call n 0 0 mX5_startAnew [.ref (S.2.1 287)] S I R Post := by
  refine Call.of (by decide +kernel) (Nat.le_of_ble_eq_true rfl) ?_
  show WP _ _ _ _ _ 0 [(0, _)] [] 0 0 _ _ _
  refine x_aload_n dX5_startAnew_0 rfl ?_
  refine x_iconst dX5_startAnew_1 ?_
  refine x_putI dX5_startAnew_2 gf_RX5_21 (k_ob_287 cs) rfl ?_
  refine x_aload_n dX5_startAnew_5 rfl ?_
  refine x_iconst dX5_startAnew_6 ?_
  refine x_putI dX5_startAnew_7 gf_RX5_25 (k_ob_287 cs) rfl ?_
  refine x_aload_n dX5_startAnew_10 rfl ?_
  refine x_iconst dX5_startAnew_11 ?_
  refine x_putI dX5_startAnew_12 gf_RX5_53 (k_ob_287 cs) rfl ?_
  refine x_aload_n dX5_startAnew_15 rfl ?_
  refine x_iconst dX5_startAnew_16 ?_
  refine x_putI dX5_startAnew_17 gf_RX5_56 (k_ob_287 cs) rfl ?_
  refine x_aload_n dX5_startAnew_20 rfl ?_
  refine x_iconst dX5_startAnew_21 ?_
  refine x_putI dX5_startAnew_22 gf_RX5_59 (k_ob_287 cs) rfl ?_
  refine x_aload_n dX5_startAnew_25 rfl ?_
  refine x_iconst dX5_startAnew_26 ?_
  refine x_putI dX5_startAnew_27 gf_RX5_62 (k_ob_287 cs) rfl ?_
  refine x_aload_n dX5_startAnew_30 rfl ?_
  refine x_iconst dX5_startAnew_31 ?_
  refine x_putI dX5_startAnew_32 gf_RX5_65 (k_ob_287 cs) rfl ?_
  refine x_aload_n dX5_startAnew_35 rfl ?_
  refine x_iconst dX5_startAnew_36 ?_
  refine x_putI dX5_startAnew_37 gf_RX5_68 (k_ob_287 cs) rfl ?_
  refine x_aload_n dX5_startAnew_40 rfl ?_
  refine x_iconst dX5_startAnew_41 ?_
  refine x_putI dX5_startAnew_42 gf_RX5_71 (k_ob_287 cs) rfl ?_
  exact x_return dX5_startAnew_45 rfl (by omega) (by omega) (by
  refine hp _ (fun a ha => ?_) (fun q hq => ?_) ⟨?_, ?_, ?_, ?_⟩ ⟨?_, ?_, ?_, ?_, ?_⟩
  · (repeat rw [uI_row ha])
  · (repeat rw [uI_o (by omega)])
  all_goals (first | (rw [uI_s]; done) | ((repeat rw [uI_o (by omega)]); rw [uI_s])))
/-- clauses are read one more -/
theorem TxGo.step {s a b : TMS} (h : TxGo t l s a) (g : ClG t l a b) (hk : a.2.2.2.2.1 ≠ 0) : TxGo t l s b := fun Q h1 h2 => h Q h1 (h1 a b g hk h2)
theorem TxGo.fa {s a : TMS} {f : Int} {pl : Nat} (h : TxGo t l s a) (g : ClF t l a f pl) (hk : a.2.2.2.2.1 ≠ 0) : TxFa t l s f pl := fun Q h1 h2 => h Q h1 (h2 a g hk)
theorem TxGo.rf {s : TMS} : TxGo t l s s := fun _ _ h => h
/-- the reading, ahead of the i-th clause -/
def LpT (I J : CI) (t : Nat → Int) (l i : Nat) : Prop := (TpC J t l ∧ (0 ≤ J 287 12 ∧ J 287 12 ≤ 1) ∧ CB J) ∧ Frc I J ∧ (((1 ≤ J 287 4 ∧ J 287 4 ≤ 6) ∧ (∃ cu, CuC J cu ∧ CuOK l cu) ∧ ∃ pl : Nat, J 287 5 = (pl : Int) ∧ TxFa t l (tx0 t l) (J 287 4) pl) ∨ (J 287 4 = 0 ∧ ∃ s : TMS, RdC J l s.2.2 s.2.1 ∧ ClC J s.1 s.2.1 ∧ TxGo t l (tx0 t l) s ∧ s.1.length = i))
theorem txC_of {J : CI} {cl : List CE} {code : List Int} {cu : Cu} (hl : l ≤ 300) (hR : RdC J l cu code) (hC : ClC J cl code) : TxC (txO J) cl code := by
  obtain ⟨c1, c2, c3, c4, c5, c6⟩ := hC
  have r1 := hR.2.1.1
  have r2 := hR.2.1.2.1
  have r3 := hR.2.2.2.2.1
  refine ⟨⟨c1, hR.2.2.1, c6, by omega⟩, fun k e hk => ?_, c3, c4, c5, fun i hi => ?_⟩
  · obtain ⟨e1, e2, e3⟩ := c2 k e hk
    have hlt := (List.getElem?_eq_some_iff.mp hk).1
    refine ⟨by rw [txO_c (by omega)]; exact e1, fun h => ?_, fun h => ⟨?_, ?_⟩⟩
    · rw [show 7 + 4 * k = 6 + (4 * k + 1) by omega, txO_c (by omega)]; exact e2 h
    · rw [show 8 + 4 * k = 6 + (4 * k + 2) by omega, txO_c (by omega)]; exact (e3 h).1
    · rw [show 9 + 4 * k = 6 + (4 * k + 3) by omega, txO_c (by omega)]; exact (e3 h).2
  · rw [txO_d]; exact hR.2.2.2.1 i hi
theorem cuc_k {J : CI} {cu cu2 : Cu} (h : CuC J cu) (h2 : CuC J cu2) : cu.2.2.1 = cu2.2.2.1 := by rw [← h.2.2.1, ← h2.2.2.1]
/-- what comes back: no text and a fault, or a text -/
def RdF (I J : CI) (t : Nat → Int) (l : Nat) : Prop := TpC J t l ∧ (0 ≤ J 287 12 ∧ J 287 12 ≤ 1) ∧ CB J ∧ Frc I J ∧ ∃ pl : Nat, (1 ≤ J 287 4 ∧ J 287 4 ≤ 6) ∧ J 287 5 = (pl : Int) ∧ TxFa t l (tx0 t l) (J 287 4) pl
def RdG (I J : CI) (t : Nat → Int) (l : Nat) (s2 : TMS) : Prop := TpC J t l ∧ (0 ≤ J 287 12 ∧ J 287 12 ≤ 1) ∧ CB J ∧ Frc I J ∧ J 287 4 = 0 ∧ J 287 5 = -1 ∧ TxGo t l (tx0 t l) s2 ∧ s2.2.2.2.2.1 = 0 ∧ TxC (txO J) s2.1 s2.2.1
theorem dX5_read_0 : decode prog_7_method_3_code 0 = .ok (.aload_n 0, 1) := by decide +kernel
theorem dX5_read_1 : decode prog_7_method_3_code 1 = .ok (.invokevirtual 31, 3) := by decide +kernel
theorem dX5_read_4 : decode prog_7_method_3_code 4 = .ok (.aload_n 0, 1) := by decide +kernel
theorem dX5_read_5 : decode prog_7_method_3_code 5 = .ok (.invokevirtual 34, 3) := by decide +kernel
theorem dX5_read_8 : decode prog_7_method_3_code 8 = .ok (.iconst 0, 1) := by decide +kernel
theorem dX5_read_9 : decode prog_7_method_3_code 9 = .ok (.istore_n 1, 1) := by decide +kernel
theorem dX5_read_10 : decode prog_7_method_3_code 10 = .ok (.iload_n 1, 1) := by decide +kernel
theorem dX5_read_11 : decode prog_7_method_3_code 11 = .ok (.bipush 24, 2) := by decide +kernel
theorem dX5_read_13 : decode prog_7_method_3_code 13 = .ok (.if_icmp .gt 28, 3) := by decide +kernel
theorem dX5_read_16 : decode prog_7_method_3_code 16 = .ok (.aload_n 0, 1) := by decide +kernel
theorem dX5_read_17 : decode prog_7_method_3_code 17 = .ok (.invokevirtual 37, 3) := by decide +kernel
theorem dX5_read_20 : decode prog_7_method_3_code 20 = .ok (.ifCond .eq 21, 3) := by decide +kernel
theorem dX5_read_23 : decode prog_7_method_3_code 23 = .ok (.aload_n 0, 1) := by decide +kernel
theorem dX5_read_24 : decode prog_7_method_3_code 24 = .ok (.getfield 41, 3) := by decide +kernel
theorem dX5_read_27 : decode prog_7_method_3_code 27 = .ok (.ifCond .eq 14, 3) := by decide +kernel
theorem dX5_read_30 : decode prog_7_method_3_code 30 = .ok (.aload_n 0, 1) := by decide +kernel
theorem dX5_read_31 : decode prog_7_method_3_code 31 = .ok (.iload_n 1, 1) := by decide +kernel
theorem dX5_read_32 : decode prog_7_method_3_code 32 = .ok (.invokevirtual 44, 3) := by decide +kernel
theorem dX5_read_35 : decode prog_7_method_3_code 35 = .ok (.iinc 1 1, 3) := by decide +kernel
theorem dX5_read_38 : decode prog_7_method_3_code 38 = .ok (.goto (-28), 3) := by decide +kernel
theorem dX5_read_41 : decode prog_7_method_3_code 41 = .ok (.aload_n 0, 1) := by decide +kernel
theorem dX5_read_42 : decode prog_7_method_3_code 42 = .ok (.invokevirtual 37, 3) := by decide +kernel
theorem dX5_read_45 : decode prog_7_method_3_code 45 = .ok (.ifCond .eq 14, 3) := by decide +kernel
theorem dX5_read_48 : decode prog_7_method_3_code 48 = .ok (.new 48, 3) := by decide +kernel
theorem dX5_read_51 : decode prog_7_method_3_code 51 = .ok (.dup, 1) := by decide +kernel
theorem dX5_read_52 : decode prog_7_method_3_code 52 = .ok (.aload_n 0, 1) := by decide +kernel
theorem dX5_read_53 : decode prog_7_method_3_code 53 = .ok (.invokespecial 50, 3) := by decide +kernel
theorem dX5_read_56 : decode prog_7_method_3_code 56 = .ok (.goto 4, 3) := by decide +kernel
theorem dX5_read_59 : decode prog_7_method_3_code 59 = .ok (.aconst_null, 1) := by decide +kernel
theorem dX5_read_60 : decode prog_7_method_3_code 60 = .ok (.areturn, 1) := by decide +kernel
theorem rd_end (cs : CS S R) (hn : 78 ≤ n) (hrb : RB S R) {J : CI} {i : Nat} (hL : LpT I J t l i) (hstop : J 287 4 = 0 → J 287 15 = 0) (hpf : ∀ J, RdF I J t l → Post (some .null) S J R) (hpg : ∀ (J J2 : CI) (S2 : Sh) (R2 : CR) (s2 : TMS), RdG I J t l s2 → Gr S S2 → S2.1 = S.1 + 3 → RB S2 R2 → (∀ a, a < S.1 → J2 a = J a ∧ R2 a = R a) → TXr S2 R2 J2 S.1 (txO J) → Post (some (.ref (S2.2.1 S.1))) S2 J2 R2) : WP n 3 403 mX5_read Post 41 [(0, .ref (S.2.1 287)), (1, .int (iI (i : Int)))] [] 0 0 S J R := by
  obtain ⟨⟨p1, p2, p3⟩, p4, p5⟩ := id hL
  have l3 := p1.2.2.1
  have hr4 : 0 ≤ J 287 4 ∧ J 287 4 ≤ 6 := by rcases p5 with g | g <;> omega
  have hG : J 287 4 = 0 → ∃ s : TMS, RdC J l s.2.2 s.2.1 ∧ ClC J s.1 s.2.1 ∧ TxGo t l (tx0 t l) s ∧ s.1.length = i := by
    intro h0
    rcases p5 with g | g
    · omega
    · exact g.2
  have h287 : 287 < S.1 := (k_ob_287 cs).1
  have h325 := cs.2.2.2.2.2
  refine x_aload_n dX5_read_41 rfl ?_
  refine x_callV0 (mc1 := 0) (ms1 := 0) dX5_read_42 cv_RX5_37 (ci := 5) (k_ob_287 cs) rfl (Nat.le_of_ble_eq_true rfl) (n1 := n - 1) (by omega) (by omega) (by omega) ?_
  refine sp_X5_goesOn cs (by omega) (fun r42 hr42 => ?_)
  refine x_if_eq 59 dX5_read_45 (by decide) (by omega) (fun w45 => ?_) (fun w45 => ?_)
  · refine x_null dX5_read_59 ?_
    exact x_areturn dX5_read_60 rfl (by first | exact Or.inl ⟨_, rfl⟩ | exact Or.inr ⟨_, rfl⟩) (by first | exact Or.inr ⟨_, rfl⟩ | exact Or.inl rfl) (by omega) (by omega) (by first
 | (refine hpf J ⟨p1, p2, p3, p4, ?_⟩
    rcases p5 with ⟨q1, ⟨cu, q2, q3⟩, pl, q4, q5⟩ | g
    · exact ⟨pl, q1, q4, q5⟩
    · exfalso; omega)
 | (have k0 := hstop (by omega)
    refine hpg J J53 S3 R53 s9 ⟨p1, p2, p3, p4, by omega, g1.2.2.2.2.2, g3, by rw [← g1.1.2.2.1]; exact k0, txC_of l3 g1 g2⟩ (Gr.tr (Nw.gr nw2) g53) (by omega) b53 (fun a ha => ⟨by rw [(f53 a (by omega)).1, zI_o (by omega)], by rw [(f53 a (by omega)).2, zR_o (by omega)]⟩) ?_
    have e9 : txO (zI J S.1) = txO J := by
      funext q
      unfold txO
      rw [zI_o (show 287 ≠ S.1 by omega), zI_o (show 290 ≠ S.1 by omega), zI_o (show 289 ≠ S.1 by omega)]
    rw [e9] at x53
    exact x53))
  · obtain ⟨s9, g1, g2, g3, g4⟩ := hG (by omega)
    have n8 : nfd 8 = 7 := rfl
    refine x_new dX5_read_48 nw_RX5_48 hrb (by omega) (by show 0 + 7 ≤ 403; omega) (fun S2 nw2 => ?_)
    have nb2 := Nw.nob nw2
    have cs2 := Gr.cs (Nw.gr nw2) (R2 := zR R S.1) cs (fun a ha => by rw [zR_o (by omega)])
    rw [← Gr.ad (Nw.gr nw2) h287]
    refine x_dup dX5_read_51 rfl ?_
    refine x_aload_n dX5_read_52 rfl ?_
    refine x_callI1 (mc1 := 2) (ms1 := 396) dX5_read_53 cv_RX5_50 (Nat.le_of_ble_eq_true rfl) (n1 := n - 1) (by omega) (by omega) (by omega) ?_
    refine sp_X8_init (b := S.1) (c1 := s9.2.1.length) (c2 := s9.1.length) cs2 (by omega) nb2 (by omega) nw2.1 (RB.zr hrb (Nw.gr nw2).1 S.1) ⟨by rw [zI_o (by omega)]; exact g1.2.2.1, by have := g1.2.2.2.2.1; have := g1.2.1.1; have := g1.2.1.2.1; omega⟩ ⟨by rw [zI_o (by omega)]; exact g2.1, g2.2.2.2.2.2⟩ (fun S3 J53 R53 g53 l53 b53 f53 x53 => ?_)
    rw [← Gr.ad g53 nb2.1]
    refine x_goto 60 dX5_read_56 (by decide) ?_
    exact x_areturn dX5_read_60 rfl (by first | exact Or.inl ⟨_, rfl⟩ | exact Or.inr ⟨_, rfl⟩) (by first | exact Or.inr ⟨_, rfl⟩ | exact Or.inl rfl) (by omega) (by omega) (by first
 | (refine hpf J ⟨p1, p2, p3, p4, ?_⟩
    rcases p5 with ⟨q1, ⟨cu, q2, q3⟩, pl, q4, q5⟩ | g
    · exact ⟨pl, q1, q4, q5⟩
    · exfalso; omega)
 | (have k0 := hstop (by omega)
    refine hpg J J53 S3 R53 s9 ⟨p1, p2, p3, p4, by omega, g1.2.2.2.2.2, g3, by rw [← g1.1.2.2.1]; exact k0, txC_of l3 g1 g2⟩ (Gr.tr (Nw.gr nw2) g53) (by omega) b53 (fun a ha => ⟨by rw [(f53 a (by omega)).1, zI_o (by omega)], by rw [(f53 a (by omega)).2, zR_o (by omega)]⟩) ?_
    have e9 : txO (zI J S.1) = txO J := by
      funext q
      unfold txO
      rw [zI_o (show 287 ≠ S.1 by omega), zI_o (show 290 ≠ S.1 by omega), zI_o (show 289 ≠ S.1 by omega)]
    rw [e9] at x53
    exact x53))
theorem lp_rd (cs : CS S R) (hn : 78 ≤ n) (hrb : RB S R) (hpf : ∀ J, RdF I J t l → Post (some .null) S J R) (hpg : ∀ (J J2 : CI) (S2 : Sh) (R2 : CR) (s2 : TMS), RdG I J t l s2 → Gr S S2 → S2.1 = S.1 + 3 → RB S2 R2 → (∀ a, a < S.1 → J2 a = J a ∧ R2 a = R a) → TXr S2 R2 J2 S.1 (txO J) → Post (some (.ref (S2.2.1 S.1))) S2 J2 R2) : ∀ (d i : Nat) (J : CI), i ≤ 25 → 25 - i = d → LpT I J t l i → WP n 3 403 mX5_read Post 10 [(0, .ref (S.2.1 287)), (1, .int (iI (i : Int)))] [] 0 0 S J R := by
  intro d
  induction d using Nat.strongRecOn with
  | ind d ih =>
    intro i J hi hd hL
    obtain ⟨⟨p1, p2, p3⟩, p4, p5⟩ := id hL
    have l3 := p1.2.2.1
    have hr4 : 0 ≤ J 287 4 ∧ J 287 4 ≤ 6 := by rcases p5 with g | g <;> omega
    have hG : J 287 4 = 0 → ∃ s : TMS, RdC J l s.2.2 s.2.1 ∧ ClC J s.1 s.2.1 ∧ TxGo t l (tx0 t l) s ∧ s.1.length = i := by
      intro h0
      rcases p5 with g | g
      · omega
      · exact g.2
    have hr15 : 0 ≤ J 287 15 ∧ J 287 15 ≤ 151 := by
      rcases p5 with ⟨_, ⟨cu, q2, q3⟩, _⟩ | ⟨_, s, q1, _⟩
      · have := q2.2.2.1; have := q3.2.2.2.2.1; omega
      · have := q1.1.2.2.1; have := q1.2.1.2.2.2.2.1; omega
    have h25 : J 287 4 = 0 → i ≤ 24 := by
      intro h0
      obtain ⟨s, g1, g2, g3, g4⟩ := hG h0
      have := g2.2.2.2.2.2
      omega
    refine x_iload_n dX5_read_10 rfl ?_
    refine x_bipush dX5_read_11 (by decide) ?_
    refine x_icmp_gt 41 dX5_read_13 (by decide) ⟨(by omega), (by omega)⟩ (fun w13 => ?_) (fun w13 => ?_)
    · refine x_sub [0, 1] rfl ?_
      refine rd_end cs hn hrb hL (fun h0 => ?_) hpf hpg
      first
      | omega
      | (exfalso; have := h25 h0; omega)
    · refine x_aload_n dX5_read_16 rfl ?_
      refine x_callV0 (mc1 := 0) (ms1 := 0) dX5_read_17 cv_RX5_37 (ci := 5) (k_ob_287 cs) rfl (Nat.le_of_ble_eq_true rfl) (n1 := n - 1) (by omega) (by omega) (by omega) ?_
      refine sp_X5_goesOn cs (by omega) (fun r17 hr17 => ?_)
      refine x_if_eq 41 dX5_read_20 (by decide) (by omega) (fun w20 => ?_) (fun w20 => ?_)
      · refine x_sub [0, 1] rfl ?_
        refine rd_end cs hn hrb hL (fun h0 => ?_) hpf hpg
        first
        | omega
        | (exfalso; have := h25 h0; omega)
      · refine x_aload_n dX5_read_23 rfl ?_
        refine x_getI dX5_read_24 gf_RX5_41 (k_ob_287 cs) (fun _ _ => rfl) ?_
        refine x_if_eq 41 dX5_read_27 (by decide) (by omega) (fun w27 => ?_) (fun w27 => ?_)
        · refine x_sub [0, 1] rfl ?_
          refine rd_end cs hn hrb hL (fun h0 => ?_) hpf hpg
          first
          | omega
          | (exfalso; have := h25 h0; omega)
        · refine x_aload_n dX5_read_30 rfl ?_
          refine x_iload_n dX5_read_31 rfl ?_
          refine x_callV1 (mc1 := 0) (ms1 := 0) dX5_read_32 cv_RX5_44 (ci := 5) (k_ob_287 cs) rfl (Nat.le_of_ble_eq_true rfl) (n1 := n - 1) (by omega) (by omega) (by omega) ?_
          obtain ⟨⟨cl9, code9, cu9⟩, g1, g2, g3, g4⟩ := hG (by omega)
          have hk9 : cu9.2.2.1 ≠ 0 := by have h9 : J 287 15 = cu9.2.2.1 := g1.1.2.2.1; omega
          refine sp_X5_readClause (t := t) (l := l) (cl := cl9) (code := code9) (cu := cu9) (i := i) (F := TxFa t l (tx0 t l)) (G := fun s2 => TxGo t l (tx0 t l) s2 ∧ s2.1.length = i + 1) cs (by omega) g4 p1 p2 p3 (by omega) g1 g2 (fun f pl g => TxGo.fa g3 g hk9) (fun s2 g => ⟨TxGo.step g3 g hk9, ?_⟩) (fun J32 f32 o32 => ?_)
          · have g4' : cl9.length = i := g4
            rcases g.2.2 with ⟨_, _, cu1, c1, _, _, e⟩ | ⟨_, _, _, e⟩
            · rw [e, List.length_append, List.length_singleton, g4']
            · rw [e, List.length_append, List.length_singleton, g4']
          refine x_iinc (lv2 := [(1, _), (0, _)]) dX5_read_35 rfl (by decide) rfl ?_
          refine x_goto 10 dX5_read_38 (by decide) ?_
          refine x_sub [1, 0] rfl ?_
          rw [show (i : Int) + 1 = ((i + 1 : Nat) : Int) by omega]
          have hlt : 25 - (i + 1) < d := by clear hG p5 h25 hL o32 ih g1 g2 g3; omega
          refine ih (25 - (i + 1)) hlt (i + 1) J32 (by omega) rfl ⟨o32.1, Frc.tr p4 f32, ?_⟩
          rcases o32.2 with q1 | ⟨q1, s2, q2, q3, q4, q5⟩
          · exact Or.inl q1
          · exact Or.inr ⟨q1, s2, q2, q3, q4, q5⟩
theorem sp_X5_read (cs : CS S R) (hn : 78 ≤ n) (hrb : RB S R) (hT : TpC I t l) (h12 : 0 ≤ I 287 12 ∧ I 287 12 ≤ 1) (hcb : CB I) (hpf : ∀ J, RdF I J t l → Post (some .null) S J R) (hpg : ∀ (J J2 : CI) (S2 : Sh) (R2 : CR) (s2 : TMS), RdG I J t l s2 → Gr S S2 → S2.1 = S.1 + 3 → RB S2 R2 → (∀ a, a < S.1 → J2 a = J a ∧ R2 a = R a) → TXr S2 R2 J2 S.1 (txO J) → Post (some (.ref (S2.2.1 S.1))) S2 J2 R2) : Call n 3 403 mX5_read [.ref (S.2.1 287)] S I R Post := by
  have l3 := hT.2.2.1
  refine Call.of (by decide +kernel) (Nat.le_of_ble_eq_true rfl) ?_
  show WP _ _ _ _ _ 0 [(0, _)] [] 0 0 _ _ _
  refine x_aload_n dX5_read_0 rfl ?_
  refine x_callV0 (mc1 := 0) (ms1 := 0) dX5_read_1 cv_RX5_31 (ci := 5) (k_ob_287 cs) rfl (Nat.le_of_ble_eq_true rfl) (n1 := n - 1) (by omega) (by omega) (by omega) ?_
  refine sp_X5_startAnew cs (fun J1 e1 q1 z1 w1 => ?_)
  refine x_aload_n dX5_read_4 rfl ?_
  refine x_callV0 (mc1 := 0) (ms1 := 0) dX5_read_5 cv_RX5_34 (ci := 5) (k_ob_287 cs) rfl (Nat.le_of_ble_eq_true rfl) (n1 := n - 1) (by omega) (by omega) (by omega) ?_
  have t1 : TpC J1 t l := ⟨(e1 288 (by omega)).trans hT.1, (q1 3 (by omega)).trans hT.2.1, hT.2.2⟩
  refine sp_X5_advance (t := t) (l := l) (p := 0) cs (by omega) t1 (by omega) (by rw [w1.2.2.2.2]; rfl) (fun J5 c5 f5 => ?_)
  have ok5 := adv_ok (t := t) (l := l) (p := 0) (by omega) l3
  have a5 : ∀ q, q < 13 → J5 287 q = J1 287 q := fun q hq => f5.2 q (by omega)
  refine x_iconst dX5_read_8 ?_
  refine x_istore_n (lv2 := [(1, _), (0, _)]) dX5_read_9 (by decide) rfl ?_
  refine x_sub [1, 0] rfl ?_
  refine lp_rd cs hn hrb hpf hpg 25 0 J5 (by omega) rfl ⟨⟨TpC.f t1 f5, ?_, ?_⟩, ⟨?_, ?_⟩, Or.inr ⟨?_, tx0 t l, ⟨c5, ok5.1, ?_, fun i hi => ?_, ?_, ?_⟩, ⟨?_, fun k e hk => ?_, ?_, ?_, fun e he => ?_, ?_⟩, TxGo.rf, rfl⟩⟩
  · rw [a5 12 (by omega), q1 12 (by omega)]; exact h12
  · exact CB.w hcb (by rw [f5.1 290 (by omega), e1 290 (by omega)])
  · intro c h1 h2 h3
    rw [f5.1 c h1, e1 c h1]
  · intro k hk
    rw [f5.2 k (by omega), q1 k (by omega)]
  · rw [a5 4 (by omega)]; exact z1.1
  · rw [a5 6 (by omega)]; exact z1.2.2.1
  · exfalso
    have h9 : i < 0 := hi
    omega
  · show (0 : Nat) ≤ _
    omega
  · rw [a5 5 (by omega)]; exact z1.2.1
  · rw [a5 7 (by omega)]; exact z1.2.2.2
  · exfalso
    have h9 : ([] : List CE)[k]? = some e := hk
    rw [List.getElem?_nil] at h9
    cases h9
  · rw [a5 8 (by omega), a5 9 (by omega)]
    exact Or.inr ⟨w1.1, w1.2.1, fun e he => by cases he⟩
  · rw [a5 10 (by omega), a5 11 (by omega)]
    exact Or.inr ⟨w1.2.2.1, w1.2.2.2.1, fun e he => by cases he⟩
  · cases he
  · show (0 : Nat) ≤ 24
    omega
end Tx2s
