section Rt4s
variable {n mc ms : Nat} {M : Md} {pc : Nat} {lv : List (Nat × Value)} {st : List Value} {k j : Nat} {Post : PT} {S : Sh} {I : CI} {R : CR} {A : Nat → Int} {tx : Nat → Nat → Int}
variable {t : Nat → Int} {l o : Nat} {s s2 : TMS}
/-- from s on clauses are read till s2; till a fault -/
def TxGo (t : Nat → Int) (l : Nat) (s s2 : TMS) : Prop := ∀ Q : TMS → Prop, (∀ a b, ClG t l a b → a.2.2.2.2.1 ≠ 0 → Q b → Q a) → Q s2 → Q s
def TxFa (t : Nat → Int) (l : Nat) (s : TMS) (f : Int) (pl : Nat) : Prop := ∀ Q : TMS → Prop, (∀ a b, ClG t l a b → a.2.2.2.2.1 ≠ 0 → Q b → Q a) → (∀ a, ClF t l a f pl → a.2.2.2.2.1 ≠ 0 → Q a) → Q s
def tx0 (t : Nat → Int) (l : Nat) : TMS := ([], [], adv t l 0)
abbrev TxH (t : Nat → Int) (l : Nat) (f : Int) (s2 : TMS) (pl : Nat) : Prop := (f = 0 ∧ TxGo t l (tx0 t l) s2 ∧ s2.2.2.2.2.1 = 0) ∨ ((0 < f ∧ f ≤ 6) ∧ TxFa t l (tx0 t l) f pl)
theorem dX12_readText_0 : decode prog_14_method_59_code 0 = .ok (.aload_n 0, 1) := by decide +kernel
theorem dX12_readText_1 : decode prog_14_method_59_code 1 = .ok (.sipush 705, 3) := by decide +kernel
theorem dX12_readText_4 : decode prog_14_method_59_code 4 = .ok (.aload_n 0, 1) := by decide +kernel
theorem dX12_readText_5 : decode prog_14_method_59_code 5 = .ok (.getfield 7, 3) := by decide +kernel
theorem dX12_readText_8 : decode prog_14_method_59_code 8 = .ok (.iconst 1, 1) := by decide +kernel
theorem dX12_readText_9 : decode prog_14_method_59_code 9 = .ok (.iaload, 1) := by decide +kernel
theorem dX12_readText_10 : decode prog_14_method_59_code 10 = .ok (.imul, 1) := by decide +kernel
theorem dX12_readText_11 : decode prog_14_method_59_code 11 = .ok (.putfield 153, 3) := by decide +kernel
theorem dX12_readText_14 : decode prog_14_method_59_code 14 = .ok (.aload_n 0, 1) := by decide +kernel
theorem dX12_readText_15 : decode prog_14_method_59_code 15 = .ok (.getfield 16, 3) := by decide +kernel
theorem dX12_readText_18 : decode prog_14_method_59_code 18 = .ok (.aload_n 0, 1) := by decide +kernel
theorem dX12_readText_19 : decode prog_14_method_59_code 19 = .ok (.getfield 153, 3) := by decide +kernel
theorem dX12_readText_22 : decode prog_14_method_59_code 22 = .ok (.iconst 0, 1) := by decide +kernel
theorem dX12_readText_23 : decode prog_14_method_59_code 23 = .ok (.iastore, 1) := by decide +kernel
theorem dX12_readText_24 : decode prog_14_method_59_code 24 = .ok (.aload_n 0, 1) := by decide +kernel
theorem dX12_readText_25 : decode prog_14_method_59_code 25 = .ok (.iconst 0, 1) := by decide +kernel
theorem dX12_readText_26 : decode prog_14_method_59_code 26 = .ok (.putfield 156, 3) := by decide +kernel
theorem dX12_readText_29 : decode prog_14_method_59_code 29 = .ok (.aload_n 0, 1) := by decide +kernel
theorem dX12_readText_30 : decode prog_14_method_59_code 30 = .ok (.iconst 0, 1) := by decide +kernel
theorem dX12_readText_31 : decode prog_14_method_59_code 31 = .ok (.putfield 256, 3) := by decide +kernel
theorem dX12_readText_34 : decode prog_14_method_59_code 34 = .ok (.aload_n 0, 1) := by decide +kernel
theorem dX12_readText_35 : decode prog_14_method_59_code 35 = .ok (.iconst 0, 1) := by decide +kernel
theorem dX12_readText_36 : decode prog_14_method_59_code 36 = .ok (.putfield 106, 3) := by decide +kernel
theorem dX12_readText_39 : decode prog_14_method_59_code 39 = .ok (.aload_n 0, 1) := by decide +kernel
theorem dX12_readText_40 : decode prog_14_method_59_code 40 = .ok (.invokevirtual 186, 3) := by decide +kernel
theorem dX12_readText_43 : decode prog_14_method_59_code 43 = .ok (.aload_n 0, 1) := by decide +kernel
theorem dX12_readText_44 : decode prog_14_method_59_code 44 = .ok (.getfield 115, 3) := by decide +kernel
theorem dX12_readText_47 : decode prog_14_method_59_code 47 = .ok (.ifCond .eq 17, 3) := by decide +kernel
theorem dX12_readText_50 : decode prog_14_method_59_code 50 = .ok (.aload_n 0, 1) := by decide +kernel
theorem dX12_readText_51 : decode prog_14_method_59_code 51 = .ok (.invokevirtual 267, 3) := by decide +kernel
theorem dX12_readText_54 : decode prog_14_method_59_code 54 = .ok (.istore_n 1, 1) := by decide +kernel
theorem dX12_readText_55 : decode prog_14_method_59_code 55 = .ok (.iload_n 1, 1) := by decide +kernel
theorem dX12_readText_56 : decode prog_14_method_59_code 56 = .ok (.ifCond .eq 5, 3) := by decide +kernel
theorem dX12_readText_59 : decode prog_14_method_59_code 59 = .ok (.iload_n 1, 1) := by decide +kernel
theorem dX12_readText_60 : decode prog_14_method_59_code 60 = .ok (.ireturn, 1) := by decide +kernel
theorem dX12_readText_61 : decode prog_14_method_59_code 61 = .ok (.goto (-18), 3) := by decide +kernel
theorem dX12_readText_64 : decode prog_14_method_59_code 64 = .ok (.iconst 0, 1) := by decide +kernel
theorem dX12_readText_65 : decode prog_14_method_59_code 65 = .ok (.ireturn, 1) := by decide +kernel
theorem rt_step {f : Int} {pl : Nat} {cl : List CE} {code : List Int} {cu : Cu} (cs : CS S R) (hn : 13 ≤ n) (h : RfT I t l o (cl, code, cu)) (hO : cu.2.2.1 ≠ 0 → ClH t l (cl, code, cu) f s2 pl) (hr : 0 ≤ f ∧ f ≤ 6) (h0 : cu.2.2.1 ≠ 0 → f = 0 → ∀ K, RfT K t l o s2 → Fcl o I K → WP n 0 0 mX12_readText Post 43 [(0, .ref (S.2.1 306))] [] 0 0 S K R) (hf : cu.2.2.1 ≠ 0 → f ≠ 0 → ∀ K, Fcl o I K → TpR K t l → K 306 8 = (pl : Int) → Post (some (.int (iI f))) S K R) (he : cu.2.2.1 = 0 → Post (some (.int (iI 0))) S I R) : WP n 0 0 mX12_readText Post 43 [(0, .ref (S.2.1 306))] [] 0 0 S I R := by
  have k1 : Tok I t l cu := h.1
  have a6 : I 306 9 = 0 ↔ cu.2.2.1 = 0 := k1.2.1.2.2.1
  have a3 := k1.2.1.1.2.2.1
  refine x_aload_n dX12_readText_43 rfl ?_
  refine x_getI dX12_readText_44 gf_RX12_115 (k_ob_306 cs) (fun _ _ => rfl) ?_
  refine x_if_eq 64 dX12_readText_47 (by decide) (by omega) (fun w47 => ?_) (fun w47 => ?_)
  · refine x_iconst dX12_readText_64 ?_
    exact x_ireturn dX12_readText_65 rfl (by omega) (by omega) (by first
 | exact he (by omega)
 | exact hf (by omega) (by omega) J51 f51 (p51 (by omega)).1 (p51 (by omega)).2)
  · refine x_aload_n dX12_readText_50 rfl ?_
    refine x_callV0 (mc1 := 0) (ms1 := 0) dX12_readText_51 cv_RX12_267 (ci := 12) (k_ob_306 cs) rfl (Nat.le_of_ble_eq_true rfl) (n1 := n - 1) (by omega) (by omega) (by omega) ?_
    refine sp_X12_clause (t := t) (l := l) (o := o) (cl := cl) (code := code) (cu := cu) (s2 := s2) (f := f) (pl := pl) cs (by omega) h (hO (by omega)) (fun J51 f51 g51 p51 => ?_)
    refine x_istore_n (lv2 := [(1, _), (0, _)]) dX12_readText_54 (by decide) rfl ?_
    refine x_iload_n dX12_readText_55 rfl ?_
    refine x_if_eq 61 dX12_readText_56 (by decide) (by omega) (fun w56 => ?_) (fun w56 => ?_)
    · refine x_goto 43 dX12_readText_61 (by decide) ?_
      refine x_sub [1] rfl ?_
      exact h0 (by omega) (by omega) J51 (g51 (by omega)) f51
    · refine x_iload_n dX12_readText_59 rfl ?_
      exact x_ireturn dX12_readText_60 rfl (by omega) (by omega) (by first
 | exact he (by omega)
 | exact hf (by omega) (by omega) J51 f51 (p51 (by omega)).1 (p51 (by omega)).2)
def QT (n : Nat) (Post : PT) (S : Sh) (I : CI) (R : CR) (t : Nat → Int) (l o : Nat) (x : TMS) : Prop := ∀ J : CI, RfT J t l o x → Fcl o I J → WP n 0 0 mX12_readText Post 43 [(0, .ref (S.2.1 306))] [] 0 0 S J R
theorem QT.go (cs : CS S R) (hn : 13 ≤ n) : ∀ a b : TMS, ClG t l a b → a.2.2.2.2.1 ≠ 0 → QT n Post S I R t l o b → QT n Post S I R t l o a := by
  intro a b hG hk hb J hr hF
  obtain ⟨cl, code, cu⟩ := a
  exact rt_step (f := 0) (pl := 0) (s2 := b) cs hn hr (fun _ => Or.inl ⟨rfl, hG⟩) (by omega) (fun _ _ K h1 h2 => hb K h1 (Fcl.tr hF h2)) (fun _ h9 => absurd rfl h9) (fun h9 => absurd h9 hk)
theorem rt_loop {f : Int} {pl : Nat} (cs : CS S R) (hn : 13 ≤ n) (h : RfT I t l o (tx0 t l)) (hO : TxH t l f s2 pl) (hp : ∀ J, Fcl o I J → TpR J t l → (f = 0 → RfT J t l o s2) → (f ≠ 0 → J 306 8 = (pl : Int)) → Post (some (.int (iI f))) S J R) : WP n 0 0 mX12_readText Post 43 [(0, .ref (S.2.1 306))] [] 0 0 S I R := by
  rcases hO with ⟨rfl, g1, g2⟩ | ⟨hr, g1⟩
  · refine g1 (QT n Post S I R t l o) (QT.go cs hn) (fun J hr hF => ?_) I h Fcl.rf
    obtain ⟨cl, code, cu⟩ := s2
    exact rt_step (f := 0) (pl := 0) (s2 := (cl, code, cu)) cs hn hr (fun h9 => absurd g2 h9) (by omega) (fun h9 => absurd g2 h9) (fun h9 => absurd g2 h9) (fun _ => hp J hF hr.1.1 (fun _ => hr) (fun h9 => absurd rfl h9))
  · refine g1 (QT n Post S I R t l o) (QT.go cs hn) (fun a hF hk J hrr hFF => ?_) I h Fcl.rf
    obtain ⟨cl, code, cu⟩ := a
    exact rt_step (f := f) (pl := pl) (s2 := (cl, code, cu)) cs hn hrr (fun _ => Or.inr ⟨hr, hF⟩) (by omega) (fun _ h9 => by omega) (fun _ _ K h1 h2 h3 => hp K (Fcl.tr hFF h1) h2 (fun h9 => by omega) (fun _ => h3)) (fun h9 => absurd h9 hk)
theorem sp_X12_readText {f : Int} {pl : Nat} (cs : CS S R) (hn : 13 ≤ n) (hA : I 307 = A) (h1 : 0 ≤ A 1 ∧ A 1 < 4) (ho : (o : Int) = 705 * A 1) (hT : TpR I t l) (hO : TxH t l f s2 pl) (hp : ∀ J, Fcl o I J → TpR J t l → (f = 0 → RfT J t l o s2) → (f ≠ 0 → J 306 8 = (pl : Int)) → Post (some (.int (iI f))) S J R) : Call n 0 0 mX12_readText [.ref (S.2.1 306)] S I R Post := by
  have l3 := hT.2.2.1
  refine Call.of (by decide +kernel) (Nat.le_of_ble_eq_true rfl) ?_
  show WP _ _ _ _ _ 0 [(0, _)] [] 0 0 _ _ _
  refine x_aload_n dX12_readText_0 rfl ?_
  refine x_sipush dX12_readText_1 (by decide) ?_
  refine x_aload_n dX12_readText_4 rfl ?_
  refine x_getR (b := 307) dX12_readText_5 gf_RX12_7 (k_ob_306 cs) (fun _ _ => rfl) (k_r_306_0 cs) ?_
  refine x_iconst dX12_readText_8 ?_
  refine x_ald7 (kk := 1) (v := A 1) dX12_readText_9 cs (by omega) (by omega) (by rw [hA]) ?_
  refine x_imul dX12_readText_10 ?_
  refine x_putI dX12_readText_11 gf_RX12_153 (k_ob_306 cs) rfl ?_
  refine x_aload_n dX12_readText_14 rfl ?_
  refine x_getR (b := 309) dX12_readText_15 gf_RX12_16 (k_ob_306 cs) (fun _ _ => rfl) (k_r_306_2 cs) ?_
  refine x_aload_n dX12_readText_18 rfl ?_
  refine x_getIv (z := (o : Int)) dX12_readText_19 gf_RX12_153 (k_ob_306 cs) (fun _ _ => rfl) (by rw [uI_s]; omega) ?_
  refine x_iconst dX12_readText_22 ?_
  refine x_iastore dX12_readText_23 (k_ar_309 cs) (by omega) (by omega) ?_
  refine x_aload_n dX12_readText_24 rfl ?_
  refine x_iconst dX12_readText_25 ?_
  refine x_putI dX12_readText_26 gf_RX12_156 (k_ob_306 cs) rfl ?_
  refine x_aload_n dX12_readText_29 rfl ?_
  refine x_iconst dX12_readText_30 ?_
  refine x_putI dX12_readText_31 gf_RX12_256 (k_ob_306 cs) rfl ?_
  refine x_aload_n dX12_readText_34 rfl ?_
  refine x_iconst dX12_readText_35 ?_
  refine x_putI dX12_readText_36 gf_RX12_106 (k_ob_306 cs) rfl ?_
  refine x_aload_n dX12_readText_39 rfl ?_
  refine x_callV0 (mc1 := 0) (ms1 := 0) dX12_readText_40 cv_RX12_186 (ci := 12) (k_ob_306 cs) rfl (Nat.le_of_ble_eq_true rfl) (n1 := n - 1) (by omega) (by omega) (by omega) ?_
  refine sp_X12_nextToken (t := t) (l := l) (p := 0) cs (by omega) ⟨by rw [uI_row (by omega), uI_row (by omega), uI_row (by omega), uI_row (by omega), uI_row (by omega)]; exact hT.1, by rw [uI_o (by omega), uI_o (by omega), uI_o (by omega), uI_row (by omega), uI_o (by omega)]; exact hT.2.1, hT.2.2⟩ (by omega) (by rw [uI_s]; rfl) (fun J40 c40 f40 => ?_)
  have t40 : TpR J40 t l := TpR.f ⟨by rw [uI_row (by omega), uI_row (by omega), uI_row (by omega), uI_row (by omega), uI_row (by omega)]; exact hT.1, by rw [uI_o (by omega), uI_o (by omega), uI_o (by omega), uI_row (by omega), uI_o (by omega)]; exact hT.2.1, hT.2.2⟩ f40
  have ok40 := adv_ok (t := t) (l := l) (p := 0) (by omega) l3
  refine x_sub [0] rfl ?_
  have fr40 : Fcl o I J40 := Fcl.tr (Fcl.u6 (Fcl.u6 (Fcl.u6 (Fcl.u9 (Fcl.u6 Fcl.rf (by omega)) (by omega)) (by omega)) (by omega)) (by omega)) (FcR.fcl f40)
  refine rt_loop (f := f) (pl := pl) (s2 := s2) cs hn (o := o) (t := t) (l := l) ?_ hO (fun J g1 g2 g3 g4 => hp J (Fcl.tr fr40 g1) g2 g3 g4)
  refine ⟨⟨t40, tk_of t40 (eR_le (by omega)) c40, ok40.1⟩, tq_of l3 (eR_le (by omega)) c40, ⟨fun i hi => ?_, ?_, ?_⟩, ⟨?_, fun k e hk => ?_⟩, ?_, ?_, ?_, by omega⟩
  · exfalso
    have h9 : i < 0 := hi
    omega
  · rw [f40.2 13 (by omega), uI_o (by omega), uI_o (by omega), uI_s]; rfl
  · rw [f40.2 12 (by omega), uI_o (by omega), uI_o (by omega), uI_o (by omega), uI_row (by omega), uI_s]; omega
  · rw [f40.1 309 (by omega), uI_row (by omega), uI_row (by omega), uI_row (by omega), uI_x rfl (by omega)]; rfl
  · exfalso
    have h9 : ([] : List CE)[k]? = some e := hk
    rw [List.getElem?_nil] at h9
    cases h9
  · rw [f40.2 19 (by omega), uI_o (by omega), uI_s]
    refine ⟨by omega, ?_, ?_⟩
    · constructor
      · intro h9; omega
      · rintro ⟨e, h9, -⟩
        have h8 : e ∈ ([] : List CE) := h9
        cases h8
    · constructor
      · intro h9; omega
      · rintro ⟨e, h9, -⟩
        have h8 : e ∈ ([] : List CE) := h9
        cases h8
  · show (0 : Nat) ≤ 24
    omega
  · show (0 : Nat) ≤ _
    omega
/-- what a reading changes -/
def Ftt (o : Nat) (I J : CI) : Prop := (∀ a, a ≠ 306 → a ≠ 307 → a ≠ 309 → a ≠ 311 → J a = I a) ∧ (∀ a, (a < 4 ∨ 19 < a) → J 306 a = I 306 a) ∧ ∀ a, (a < o ∨ o + 705 ≤ a) → J 309 a = I 309 a
theorem dX12_text_0 : decode prog_14_method_60_code 0 = .ok (.aload_n 0, 1) := by decide +kernel
theorem dX12_text_1 : decode prog_14_method_60_code 1 = .ok (.getfield 7, 3) := by decide +kernel
theorem dX12_text_4 : decode prog_14_method_60_code 4 = .ok (.iconst 1, 1) := by decide +kernel
theorem dX12_text_5 : decode prog_14_method_60_code 5 = .ok (.iaload, 1) := by decide +kernel
theorem dX12_text_6 : decode prog_14_method_60_code 6 = .ok (.iconst 4, 1) := by decide +kernel
theorem dX12_text_7 : decode prog_14_method_60_code 7 = .ok (.if_icmp .ne 5, 3) := by decide +kernel
theorem dX12_text_10 : decode prog_14_method_60_code 10 = .ok (.iconst (-1), 1) := by decide +kernel
theorem dX12_text_11 : decode prog_14_method_60_code 11 = .ok (.ireturn, 1) := by decide +kernel
theorem dX12_text_12 : decode prog_14_method_60_code 12 = .ok (.aload_n 0, 1) := by decide +kernel
theorem dX12_text_13 : decode prog_14_method_60_code 13 = .ok (.aload_n 0, 1) := by decide +kernel
theorem dX12_text_14 : decode prog_14_method_60_code 14 = .ok (.invokevirtual 270, 3) := by decide +kernel
theorem dX12_text_17 : decode prog_14_method_60_code 17 = .ok (.putfield 22, 3) := by decide +kernel
theorem dX12_text_20 : decode prog_14_method_60_code 20 = .ok (.aload_n 0, 1) := by decide +kernel
theorem dX12_text_21 : decode prog_14_method_60_code 21 = .ok (.aload_n 0, 1) := by decide +kernel
theorem dX12_text_22 : decode prog_14_method_60_code 22 = .ok (.getfield 22, 3) := by decide +kernel
theorem dX12_text_25 : decode prog_14_method_60_code 25 = .ok (.ifCond .ne 7, 3) := by decide +kernel
theorem dX12_text_28 : decode prog_14_method_60_code 28 = .ok (.iconst (-1), 1) := by decide +kernel
theorem dX12_text_29 : decode prog_14_method_60_code 29 = .ok (.goto 7, 3) := by decide +kernel
theorem dX12_text_32 : decode prog_14_method_60_code 32 = .ok (.aload_n 0, 1) := by decide +kernel
theorem dX12_text_33 : decode prog_14_method_60_code 33 = .ok (.getfield 112, 3) := by decide +kernel
theorem dX12_text_36 : decode prog_14_method_60_code 36 = .ok (.putfield 26, 3) := by decide +kernel
theorem dX12_text_39 : decode prog_14_method_60_code 39 = .ok (.aload_n 0, 1) := by decide +kernel
theorem dX12_text_40 : decode prog_14_method_60_code 40 = .ok (.iconst 0, 1) := by decide +kernel
theorem dX12_text_41 : decode prog_14_method_60_code 41 = .ok (.putfield 100, 3) := by decide +kernel
theorem dX12_text_44 : decode prog_14_method_60_code 44 = .ok (.aload_n 0, 1) := by decide +kernel
theorem dX12_text_45 : decode prog_14_method_60_code 45 = .ok (.getfield 22, 3) := by decide +kernel
theorem dX12_text_48 : decode prog_14_method_60_code 48 = .ok (.ifCond .eq 5, 3) := by decide +kernel
theorem dX12_text_51 : decode prog_14_method_60_code 51 = .ok (.iconst (-1), 1) := by decide +kernel
theorem dX12_text_52 : decode prog_14_method_60_code 52 = .ok (.ireturn, 1) := by decide +kernel
theorem dX12_text_53 : decode prog_14_method_60_code 53 = .ok (.aload_n 0, 1) := by decide +kernel
theorem dX12_text_54 : decode prog_14_method_60_code 54 = .ok (.getfield 7, 3) := by decide +kernel
theorem dX12_text_57 : decode prog_14_method_60_code 57 = .ok (.iconst 1, 1) := by decide +kernel
theorem dX12_text_58 : decode prog_14_method_60_code 58 = .ok (.dup2, 1) := by decide +kernel
theorem dX12_text_59 : decode prog_14_method_60_code 59 = .ok (.iaload, 1) := by decide +kernel
theorem dX12_text_60 : decode prog_14_method_60_code 60 = .ok (.iconst 1, 1) := by decide +kernel
theorem dX12_text_61 : decode prog_14_method_60_code 61 = .ok (.iadd, 1) := by decide +kernel
theorem dX12_text_62 : decode prog_14_method_60_code 62 = .ok (.iastore, 1) := by decide +kernel
theorem dX12_text_63 : decode prog_14_method_60_code 63 = .ok (.aload_n 0, 1) := by decide +kernel
theorem dX12_text_64 : decode prog_14_method_60_code 64 = .ok (.getfield 7, 3) := by decide +kernel
theorem dX12_text_67 : decode prog_14_method_60_code 67 = .ok (.iconst 1, 1) := by decide +kernel
theorem dX12_text_68 : decode prog_14_method_60_code 68 = .ok (.iaload, 1) := by decide +kernel
theorem dX12_text_69 : decode prog_14_method_60_code 69 = .ok (.iconst 1, 1) := by decide +kernel
theorem dX12_text_70 : decode prog_14_method_60_code 70 = .ok (.isub, 1) := by decide +kernel
theorem dX12_text_71 : decode prog_14_method_60_code 71 = .ok (.ireturn, 1) := by decide +kernel
theorem sp_X12_text {f : Int} {pl : Nat} (cs : CS S R) (hn : 14 ≤ n) (hA : I 307 = A) (h1 : 0 ≤ A 1 ∧ A 1 ≤ 4) (ho : (o : Int) = 705 * A 1) (hT : TpR I t l) (hO : A 1 ≠ 4 → TxH t l f s2 pl) (hp4 : A 1 = 4 → Post (some (.int (iI (-1)))) S I R) (hpf : A 1 ≠ 4 → f ≠ 0 → ∀ J, Ftt o I J → J 307 = A → J 306 4 = 0 → J 306 5 = f → J 306 6 = (pl : Int) → Post (some (.int (iI (-1)))) S J R) (hpg : A 1 ≠ 4 → f = 0 → ∀ J, Ftt o I J → J 307 = upA A 1 (A 1 + 1) → J 306 4 = 0 → J 306 5 = 0 → J 306 6 = -1 → ClR J o s2.1 → CdA (J 309) o s2.2.1 → s2.1.length ≤ 24 → s2.2.1.length ≤ 300 → Post (some (.int (iI (A 1)))) S J R) : Call n 0 0 mX12_text [.ref (S.2.1 306)] S I R Post := by
  refine Call.of (by decide +kernel) (Nat.le_of_ble_eq_true rfl) ?_
  show WP _ _ _ _ _ 0 [(0, _)] [] 0 0 _ _ _
  refine x_aload_n dX12_text_0 rfl ?_
  refine x_getR (b := 307) dX12_text_1 gf_RX12_7 (k_ob_306 cs) (fun _ _ => rfl) (k_r_306_0 cs) ?_
  refine x_iconst dX12_text_4 ?_
  refine x_ald7 (kk := 1) (v := A 1) dX12_text_5 cs (by omega) (by omega) (by rw [hA]) ?_
  refine x_iconst dX12_text_6 ?_
  refine x_icmp_ne 12 dX12_text_7 (by decide) ⟨(by omega), (by omega)⟩ (fun w7 => ?_) (fun w7 => ?_)
  · refine x_aload_n dX12_text_12 rfl ?_
    refine x_aload_n dX12_text_13 rfl ?_
    refine x_callV0 (mc1 := 0) (ms1 := 0) dX12_text_14 cv_RX12_270 (ci := 12) (k_ob_306 cs) rfl (Nat.le_of_ble_eq_true rfl) (n1 := n - 1) (by omega) (by omega) (by omega) ?_
    have hO14 := hO (by omega)
    have g14 : 0 ≤ f ∧ f ≤ 6 := by rcases hO14 with g9 | g9 <;> omega
    refine sp_X12_readText (f := f) (pl := pl) (t := t) (l := l) (o := o) (s2 := s2) cs (by omega) hA (by omega) ho hT hO14 (fun J14 f14 t14 q14 p14 => ?_)
    have a14 : J14 307 = A := (f14.1 307 (by omega) (by omega) (by omega)).trans hA
    refine x_putI dX12_text_17 gf_RX12_22 (k_ob_306 cs) rfl ?_
    refine x_aload_n dX12_text_20 rfl ?_
    refine x_aload_n dX12_text_21 rfl ?_
    refine x_getIv (z := f) dX12_text_22 gf_RX12_22 (k_ob_306 cs) (fun _ _ => rfl) (by first | (rw [uI_s]) | (rw [uI_o (by omega)]; exact p14 (by omega)) | (rw [uI_o (by omega), uI_o (by omega), uI_s])) ?_
    refine x_if_ne 32 dX12_text_25 (by decide) (by omega) (fun w25 => ?_) (fun w25 => ?_)
    · refine x_aload_n dX12_text_32 rfl ?_
      refine x_getIv (z := (pl : Int)) dX12_text_33 gf_RX12_112 (k_ob_306 cs) (fun _ _ => rfl) (by first | (rw [uI_s]) | (rw [uI_o (by omega)]; exact p14 (by omega)) | (rw [uI_o (by omega), uI_o (by omega), uI_s])) ?_
      refine x_putI dX12_text_36 gf_RX12_26 (k_ob_306 cs) rfl ?_
      refine x_aload_n dX12_text_39 rfl ?_
      refine x_iconst dX12_text_40 ?_
      refine x_putI dX12_text_41 gf_RX12_100 (k_ob_306 cs) rfl ?_
      refine x_aload_n dX12_text_44 rfl ?_
      refine x_getIv (z := f) dX12_text_45 gf_RX12_22 (k_ob_306 cs) (fun _ _ => rfl) (by first | (rw [uI_s]) | (rw [uI_o (by omega)]; exact p14 (by omega)) | (rw [uI_o (by omega), uI_o (by omega), uI_s])) ?_
      refine x_if_eq 53 dX12_text_48 (by decide) (by omega) (fun w48 => ?_) (fun w48 => ?_)
      · exfalso; omega
      · refine x_iconst dX12_text_51 ?_
        exact x_ireturn dX12_text_52 rfl (by omega) (by omega) (by first
 | exact hp4 (by omega)
 | (refine hpf (by omega) (by omega) _ ⟨fun a h6 h7 h8 h9 => by rw [uI_row h6, uI_row h6, uI_row h6]; exact f14.1 a h6 h8 h9, fun a h9 => by rw [uI_o (by omega), uI_o (by omega), uI_o (by omega)]; exact f14.2.1 a (by omega), fun a h9 => by rw [uI_row (by omega), uI_row (by omega), uI_row (by omega)]; exact f14.2.2 a h9⟩ ?_ ?_ ?_ ?_
    · rw [uI_row (by omega), uI_row (by omega), uI_row (by omega)]; exact a14
    · rw [uI_s]
    · rw [uI_o (by omega), uI_o (by omega), uI_s]
    · rw [uI_o (by omega), uI_s])
 | (have z : f = 0 := by omega
    have q := q14 z
    have hl9 := q.1.2.2.2.1
    have hl8 := q.1.2.2.1
    have hl7 := q.2.2.2.2.2.2.1
    have hl6 := hT.2.2.1
    have h9 := hpg (by omega) z J62 ⟨fun a h6 h7 h8 h9 => by rw [f62 a h7, uI_row h6, uI_row h6, uI_row h6]; exact f14.1 a h6 h8 h9, fun a h9 => by rw [f62 306 (by omega), uI_o (by omega), uI_o (by omega), uI_o (by omega)]; exact f14.2.1 a (by omega), fun a h9 => by rw [f62 309 (by omega), uI_row (by omega), uI_row (by omega), uI_row (by omega)]; exact f14.2.2 a h9⟩ a62 (by rw [f62 306 (by omega), uI_s]) (by rw [f62 306 (by omega), uI_o (by omega), uI_o (by omega), uI_s]; exact z) (by rw [f62 306 (by omega), uI_o (by omega), uI_s]) ?_ ?_ q.2.2.2.2.2.1 (by omega)
    · rw [show A 1 + 1 - 1 = A 1 by omega]; exact h9
    · have e309 : J62 309 = J14 309 := by rw [f62 309 (by omega), uI_row (by omega), uI_row (by omega), uI_row (by omega)]
      have qc := q.2.2.2.1
      unfold ClR at qc ⊢
      rw [e309]; exact qc
    · have e309 : J62 309 = J14 309 := by rw [f62 309 (by omega), uI_row (by omega), uI_row (by omega), uI_row (by omega)]
      rw [e309]; exact q.2.2.1.1))
    · refine x_iconst dX12_text_28 ?_
      refine x_goto 36 dX12_text_29 (by decide) ?_
      refine x_putI dX12_text_36 gf_RX12_26 (k_ob_306 cs) rfl ?_
      refine x_aload_n dX12_text_39 rfl ?_
      refine x_iconst dX12_text_40 ?_
      refine x_putI dX12_text_41 gf_RX12_100 (k_ob_306 cs) rfl ?_
      refine x_aload_n dX12_text_44 rfl ?_
      refine x_getIv (z := f) dX12_text_45 gf_RX12_22 (k_ob_306 cs) (fun _ _ => rfl) (by first | (rw [uI_s]) | (rw [uI_o (by omega)]; exact p14 (by omega)) | (rw [uI_o (by omega), uI_o (by omega), uI_s])) ?_
      refine x_if_eq 53 dX12_text_48 (by decide) (by omega) (fun w48 => ?_) (fun w48 => ?_)
      · have a53 : uI (uI (uI J14 306 5 f) 306 6 (-1)) 306 4 0 307 = A := by rw [uI_row (by omega), uI_row (by omega), uI_row (by omega)]; exact a14
        refine x_aload_n dX12_text_53 rfl ?_
        refine x_getR (b := 307) dX12_text_54 gf_RX12_7 (k_ob_306 cs) (fun _ _ => rfl) (k_r_306_0 cs) ?_
        refine x_iconst dX12_text_57 ?_
        refine x_dup2 dX12_text_58 rfl rfl ?_
        refine x_ald7 (kk := 1) (v := A 1) dX12_text_59 cs (by omega) (by omega) (by rw [a53]) ?_
        refine x_iconst dX12_text_60 ?_
        refine x_iadd dX12_text_61 ?_
        refine x_ast7 (kk := 1) dX12_text_62 cs (by omega) (by omega) a53 (fun J62 a62 f62 => ?_)
        refine x_aload_n dX12_text_63 rfl ?_
        refine x_getR (b := 307) dX12_text_64 gf_RX12_7 (k_ob_306 cs) (fun _ _ => rfl) (k_r_306_0 cs) ?_
        refine x_iconst dX12_text_67 ?_
        refine x_ald7 (kk := 1) (v := A 1 + 1) dX12_text_68 cs (by omega) (by omega) (by rw [a62, upA_s]) ?_
        refine x_iconst dX12_text_69 ?_
        refine x_isub dX12_text_70 ?_
        exact x_ireturn dX12_text_71 rfl (by omega) (by omega) (by first
 | exact hp4 (by omega)
 | (refine hpf (by omega) (by omega) _ ⟨fun a h6 h7 h8 h9 => by rw [uI_row h6, uI_row h6, uI_row h6]; exact f14.1 a h6 h8 h9, fun a h9 => by rw [uI_o (by omega), uI_o (by omega), uI_o (by omega)]; exact f14.2.1 a (by omega), fun a h9 => by rw [uI_row (by omega), uI_row (by omega), uI_row (by omega)]; exact f14.2.2 a h9⟩ ?_ ?_ ?_ ?_
    · rw [uI_row (by omega), uI_row (by omega), uI_row (by omega)]; exact a14
    · rw [uI_s]
    · rw [uI_o (by omega), uI_o (by omega), uI_s]
    · rw [uI_o (by omega), uI_s])
 | (have z : f = 0 := by omega
    have q := q14 z
    have hl9 := q.1.2.2.2.1
    have hl8 := q.1.2.2.1
    have hl7 := q.2.2.2.2.2.2.1
    have hl6 := hT.2.2.1
    have h9 := hpg (by omega) z J62 ⟨fun a h6 h7 h8 h9 => by rw [f62 a h7, uI_row h6, uI_row h6, uI_row h6]; exact f14.1 a h6 h8 h9, fun a h9 => by rw [f62 306 (by omega), uI_o (by omega), uI_o (by omega), uI_o (by omega)]; exact f14.2.1 a (by omega), fun a h9 => by rw [f62 309 (by omega), uI_row (by omega), uI_row (by omega), uI_row (by omega)]; exact f14.2.2 a h9⟩ a62 (by rw [f62 306 (by omega), uI_s]) (by rw [f62 306 (by omega), uI_o (by omega), uI_o (by omega), uI_s]; exact z) (by rw [f62 306 (by omega), uI_o (by omega), uI_s]) ?_ ?_ q.2.2.2.2.2.1 (by omega)
    · rw [show A 1 + 1 - 1 = A 1 by omega]; exact h9
    · have e309 : J62 309 = J14 309 := by rw [f62 309 (by omega), uI_row (by omega), uI_row (by omega), uI_row (by omega)]
      have qc := q.2.2.2.1
      unfold ClR at qc ⊢
      rw [e309]; exact qc
    · have e309 : J62 309 = J14 309 := by rw [f62 309 (by omega), uI_row (by omega), uI_row (by omega), uI_row (by omega)]
      rw [e309]; exact q.2.2.1.1))
      · exfalso; omega
  · refine x_iconst dX12_text_10 ?_
    exact x_ireturn dX12_text_11 rfl (by omega) (by omega) (by first
 | exact hp4 (by omega)
 | (refine hpf (by omega) (by omega) _ ⟨fun a h6 h7 h8 h9 => by rw [uI_row h6, uI_row h6, uI_row h6]; exact f14.1 a h6 h8 h9, fun a h9 => by rw [uI_o (by omega), uI_o (by omega), uI_o (by omega)]; exact f14.2.1 a (by omega), fun a h9 => by rw [uI_row (by omega), uI_row (by omega), uI_row (by omega)]; exact f14.2.2 a h9⟩ ?_ ?_ ?_ ?_
    · rw [uI_row (by omega), uI_row (by omega), uI_row (by omega)]; exact a14
    · rw [uI_s]
    · rw [uI_o (by omega), uI_o (by omega), uI_s]
    · rw [uI_o (by omega), uI_s])
 | (have z : f = 0 := by omega
    have q := q14 z
    have hl9 := q.1.2.2.2.1
    have hl8 := q.1.2.2.1
    have hl7 := q.2.2.2.2.2.2.1
    have hl6 := hT.2.2.1
    have h9 := hpg (by omega) z J62 ⟨fun a h6 h7 h8 h9 => by rw [f62 a h7, uI_row h6, uI_row h6, uI_row h6]; exact f14.1 a h6 h8 h9, fun a h9 => by rw [f62 306 (by omega), uI_o (by omega), uI_o (by omega), uI_o (by omega)]; exact f14.2.1 a (by omega), fun a h9 => by rw [f62 309 (by omega), uI_row (by omega), uI_row (by omega), uI_row (by omega)]; exact f14.2.2 a h9⟩ a62 (by rw [f62 306 (by omega), uI_s]) (by rw [f62 306 (by omega), uI_o (by omega), uI_o (by omega), uI_s]; exact z) (by rw [f62 306 (by omega), uI_o (by omega), uI_s]) ?_ ?_ q.2.2.2.2.2.1 (by omega)
    · rw [show A 1 + 1 - 1 = A 1 by omega]; exact h9
    · have e309 : J62 309 = J14 309 := by rw [f62 309 (by omega), uI_row (by omega), uI_row (by omega), uI_row (by omega)]
      have qc := q.2.2.2.1
      unfold ClR at qc ⊢
      rw [e309]; exact qc
    · have e309 : J62 309 = J14 309 := by rw [f62 309 (by omega), uI_row (by omega), uI_row (by omega), uI_row (by omega)]
      rw [e309]; exact q.2.2.1.1))
end Rt4s
