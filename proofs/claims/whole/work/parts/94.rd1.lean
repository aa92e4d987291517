section Rd1
variable {n mc ms : Nat} {M : Md} {pc : Nat} {lv : List (Nat × Value)} {st : List Value} {k j : Nat} {Post : PT} {S : Sh} {I : CI} {R : CR} {A : Nat → Int} {tx : Nat → Nat → Int}
variable {t : Nat → Int} {l : Nat} {sl : Bool} {F : Int → Nat → Prop} {G G2 : Cu → List Int → Prop}
def RdC (J : CI) (l : Nat) (cu : Cu) (c : List Int) : Prop := CuC J cu ∧ CuOK l cu ∧ J 287 6 = (c.length : Int) ∧ (∀ i, i < c.length → J 289 i = c.getD i 0) ∧ c.length ≤ cu.2.1 ∧ J 287 5 = -1
def OutC (J : CI) (t : Nat → Int) (l : Nat) (sl : Bool) (F : Int → Nat → Prop) (G : Cu → List Int → Prop) : Prop := (TpC J t l ∧ ((J 287 12 = 1 ∧ sl = true) ∨ (J 287 12 = 0 ∧ sl = false))) ∧ (((1 ≤ J 287 4 ∧ J 287 4 ≤ 6) ∧ (∃ cu, CuC J cu ∧ CuOK l cu) ∧ ∃ pl : Nat, J 287 5 = (pl : Int) ∧ F (J 287 4) pl) ∨ (J 287 4 = 0 ∧ ∃ cu c, RdC J l cu c ∧ G cu c))
def Frd (I J : CI) : Prop := (∀ c, c ≠ 287 → c ≠ 289 → J c = I c) ∧ ∀ k, (k < 4 ∨ (6 < k ∧ k < 13) ∨ 16 < k) → J 287 k = I 287 k
theorem Frd.rf {I : CI} : Frd I I := ⟨fun _ _ _ => rfl, fun _ _ => rfl⟩
theorem Frd.tr {I J K : CI} (h : Frd I J) (h2 : Frd J K) : Frd I K := ⟨fun c a b => (h2.1 c a b).trans (h.1 c a b), fun k a => (h2.2 k a).trans (h.2 k a)⟩
theorem Fcu.rd {I J : CI} (h : Fcu I J) : Frd I J := ⟨fun c a _ => h.1 c a, fun k a => h.2 k (by omega)⟩
theorem Frd.u7 {I J : CI} {q : Nat} {v : Int} (h : Frd I J) (hq : (4 ≤ q ∧ q ≤ 6) ∨ (13 ≤ q ∧ q ≤ 16)) : Frd I (uI J 287 q v) := ⟨fun c hc h9 => by funext i; rw [uI_o (Or.inl hc), h.1 c hc h9], fun i hi => by rw [uI_o (by omega)]; exact h.2 i hi⟩
theorem Frd.u9 {I J : CI} {q : Nat} {v : Int} (h : Frd I J) : Frd I (uI J 289 q v) := ⟨fun c hc h9 => by funext i; rw [uI_o (Or.inl h9), h.1 c hc h9], fun i hi => by rw [uI_o (by omega)]; exact h.2 i hi⟩
theorem out_l {J : CI} (h : OutC J t l sl F G) : l ≤ 300 := h.1.1.2.2.1
theorem out_cu {J : CI} (h : OutC J t l sl F G) : ∃ cu, CuC J cu ∧ CuOK l cu := by
  rcases h.2 with h1 | ⟨_, cu, c, h1, _⟩
  · exact h1.2.1
  · exact ⟨cu, h1.1, h1.2.1⟩
theorem out_b {J : CI} (h : OutC J t l sl F G) : (0 ≤ J 287 4 ∧ J 287 4 ≤ 6) ∧ (0 ≤ J 287 15 ∧ J 287 15 ≤ 151) ∧ (0 ≤ J 287 12 ∧ J 287 12 ≤ 1) ∧ (0 ≤ J 287 14 ∧ J 287 14 ≤ 300) := by
  obtain ⟨cu, a1, a2⟩ := out_cu h
  have l3 := out_l h
  have k1 := a1.2.2.1
  have k2 := a2.2.2.2.2.1
  have k3 := a1.2.1
  have k4 := a2.1
  have k5 := a2.2.1
  refine ⟨?_, by omega, ?_, by omega⟩
  · rcases h.2 with h1 | h1
    · omega
    · omega
  · rcases h.1.2 with h1 | h1
    · omega
    · omega
theorem out_imp {J : CI} (h : OutC J t l sl F G) (hi : ∀ cu c, CuOK l cu → c.length ≤ cu.2.1 → J 287 4 = 0 → J 287 15 = cu.2.2.1 → J 287 14 = (cu.2.1 : Int) → (cu.2.2.1 = 2 → J 287 16 = cu.2.2.2) → G cu c → G2 cu c) : OutC J t l sl F G2 := by
  refine ⟨h.1, ?_⟩
  rcases h.2 with h1 | ⟨h0, cu, c, h1, h2⟩
  · exact Or.inl h1
  · exact Or.inr ⟨h0, cu, c, h1, hi cu c h1.2.1 h1.2.2.2.2.1 h0 h1.1.2.2.1 h1.1.2.1 h1.1.2.2.2 h2⟩
theorem out_flt {J : CI} (h : OutC J t l sl F G) (hn : J 287 4 ≠ 0) : OutC J t l sl F G2 := ⟨h.1, by
  rcases h.2 with h1 | h1
  · exact Or.inl h1
  · exact absurd h1.1 hn⟩
theorem out_no {J : CI} (h : OutC J t l sl F (fun _ _ => False)) : OutC J t l sl F G2 := out_imp h (fun _ _ _ _ _ _ _ _ h => h.elim)
theorem sp_adv (cs : CS S R) (hn : 5 ≤ n) (h : OutC I t l sl F (fun cu c => G (adv t l cu.1) c)) (hp : ∀ J, Frd I J → OutC J t l sl F G → Post none S J R) : Call n 0 0 mX5_advance [.ref (S.2.1 287)] S I R Post := by
  obtain ⟨cu, a1, a2⟩ := out_cu h
  have l3 := out_l h
  refine sp_X5_advance (t := t) (l := l) (p := cu.1) cs hn h.1.1 a2.2.1 a1.1 (fun J hC hF => hp J (Fcu.rd hF) ?_)
  obtain ⟨b1, b2, b3⟩ := cu_adv (t := t) a2 l3
  refine ⟨⟨TpC.f h.1.1 hF, by rw [hF.2 12 (by omega)]; exact h.1.2⟩, ?_⟩
  rcases h.2 with ⟨h1, h2, pl, h3, h4⟩ | ⟨h0, cu', c, h1, h2⟩
  · left
    rw [hF.2 4 (by omega), hF.2 5 (by omega)]
    exact ⟨h1, ⟨_, hC, b1⟩, pl, h3, h4⟩
  · right
    have e1 : cu'.1 = cu.1 := by have := a1.1; have := h1.1.1; omega
    have e2 : cu'.2.1 = cu.2.1 := by have := a1.2.1; have := h1.1.2.1; omega
    rw [e1] at h2
    refine ⟨by rw [hF.2 4 (by omega)]; exact h0, _, c, ⟨hC, b1, by rw [hF.2 6 (by omega)]; exact h1.2.2.1, fun i hi => by rw [hF.1 289 (by omega)]; exact h1.2.2.2.1 i hi, ?_, by rw [hF.2 5 (by omega)]; exact h1.2.2.2.2.2⟩, h2⟩
    have := h1.2.2.2.2.1
    omega
theorem gd_app {c : List Int} {w : Int} : ∀ i, i < (c ++ [w]).length → (c ++ [w]).getD i 0 = if i = c.length then w else c.getD i 0 := by
  intro i hi
  rw [List.length_append, List.length_singleton] at hi
  by_cases h : i = c.length
  · rw [if_pos h, h]; simp [List.getD]
  · rw [if_neg h]; simp [List.getD, List.getElem?_append_left (show i < c.length by omega)]
theorem dX5_goesOn_0 : decode prog_7_method_5_code 0 = .ok (.aload_n 0, 1) := by decide +kernel
theorem dX5_goesOn_1 : decode prog_7_method_5_code 1 = .ok (.getfield 21, 3) := by decide +kernel
theorem dX5_goesOn_4 : decode prog_7_method_5_code 4 = .ok (.ifCond .ne 7, 3) := by decide +kernel
theorem dX5_goesOn_7 : decode prog_7_method_5_code 7 = .ok (.iconst 1, 1) := by decide +kernel
theorem dX5_goesOn_8 : decode prog_7_method_5_code 8 = .ok (.goto 4, 3) := by decide +kernel
theorem dX5_goesOn_11 : decode prog_7_method_5_code 11 = .ok (.iconst 0, 1) := by decide +kernel
theorem dX5_goesOn_12 : decode prog_7_method_5_code 12 = .ok (.ireturn, 1) := by decide +kernel
theorem sp_X5_goesOn  (cs : CS S R) (hb : Rg (I 287 4)) (hp : ∀ r : Int, (r = 1 ∧ I 287 4 = 0 ∨ r = 0 ∧ I 287 4 ≠ 0) → Post (some (.int (iI r))) S I R) : Call n 0 0 mX5_goesOn [.ref (S.2.1 287)] S I R Post := by
  refine Call.of (by decide +kernel) (Nat.le_of_ble_eq_true rfl) ?_
  show WP _ _ _ _ _ 0 [(0, _)] [] 0 0 _ _ _
  refine x_aload_n dX5_goesOn_0 rfl ?_
  refine x_getI dX5_goesOn_1 gf_RX5_21 (k_ob_287 cs) (fun _ _ => rfl) ?_
  refine x_if_ne 11 dX5_goesOn_4 (by decide) (by omega) (fun w4 => ?_) (fun w4 => ?_)
  · refine x_iconst dX5_goesOn_11 ?_
    exact x_zreturn (by omega) dX5_goesOn_12 rfl (by omega) (by omega) (hp _ (by omega))
  · refine x_iconst dX5_goesOn_7 ?_
    refine x_goto 12 dX5_goesOn_8 (by decide) ?_
    exact x_zreturn (by omega) dX5_goesOn_12 rfl (by omega) (by omega) (hp _ (by omega))
theorem dX5_refuse_0 : decode prog_7_method_6_code 0 = .ok (.aload_n 0, 1) := by decide +kernel
theorem dX5_refuse_1 : decode prog_7_method_6_code 1 = .ok (.invokevirtual 37, 3) := by decide +kernel
theorem dX5_refuse_4 : decode prog_7_method_6_code 4 = .ok (.ifCond .eq 16, 3) := by decide +kernel
theorem dX5_refuse_7 : decode prog_7_method_6_code 7 = .ok (.aload_n 0, 1) := by decide +kernel
theorem dX5_refuse_8 : decode prog_7_method_6_code 8 = .ok (.iload_n 1, 1) := by decide +kernel
theorem dX5_refuse_9 : decode prog_7_method_6_code 9 = .ok (.putfield 21, 3) := by decide +kernel
theorem dX5_refuse_12 : decode prog_7_method_6_code 12 = .ok (.aload_n 0, 1) := by decide +kernel
theorem dX5_refuse_13 : decode prog_7_method_6_code 13 = .ok (.aload_n 0, 1) := by decide +kernel
theorem dX5_refuse_14 : decode prog_7_method_6_code 14 = .ok (.getfield 74, 3) := by decide +kernel
theorem dX5_refuse_17 : decode prog_7_method_6_code 17 = .ok (.putfield 25, 3) := by decide +kernel
theorem dX5_refuse_20 : decode prog_7_method_6_code 20 = .ok (.return_, 1) := by decide +kernel
theorem sp_X5_refuse {w : Int} (cs : CS S R) (hn : 1 ≤ n) (hw : 1 ≤ w ∧ w ≤ 6) (hO : OutC I t l sl F (fun cu c => F w cu.2.1)) (hp : ∀ J, Frd I J → OutC J t l sl F G → Post none S J R) : Call n 0 0 mX5_refuse [.ref (S.2.1 287), .int (iI w)] S I R Post := by
  have hb := out_b hO
  have l3 := out_l hO
  refine Call.of (by decide +kernel) (Nat.le_of_ble_eq_true rfl) ?_
  show WP _ _ _ _ _ 0 [(0, _), (1, _)] [] 0 0 _ _ _
  refine x_aload_n dX5_refuse_0 rfl ?_
  refine x_callV0 (mc1 := 0) (ms1 := 0) dX5_refuse_1 cv_RX5_37 (ci := 5) (k_ob_287 cs) rfl (Nat.le_of_ble_eq_true rfl) (n1 := n - 1) (by omega) (by omega) (by omega) ?_
  refine sp_X5_goesOn cs (by omega) (fun r1 hr1 => ?_)
  refine x_if_eq 20 dX5_refuse_4 (by decide) (by omega) (fun w4 => ?_) (fun w4 => ?_)
  · exact x_return dX5_refuse_20 rfl (by omega) (by omega) (by first
 | exact hp _ Frd.rf (out_flt hO (by omega))
 | (have h0 : I 287 4 = 0 := by omega
    refine hp _ ((Frd.rf.u7 (by omega)).u7 (by omega)) ⟨⟨?_, ?_⟩, Or.inl ?_⟩
    · obtain ⟨a1, a2, a3⟩ := hO.1.1
      exact ⟨by funext i; rw [uI_o (by omega), uI_o (by omega), a1], by rw [uI_o (by omega), uI_o (by omega)]; exact a2, a3⟩
    · rw [uI_o (by omega), uI_o (by omega)]; exact hO.1.2
    · rcases hO.2 with h1 | ⟨_, cu, c, h1, h2⟩
      · exfalso; omega
      · rw [uI_o (by omega), uI_s, uI_s]
        refine ⟨by omega, ⟨cu, ⟨?_, ?_, ?_, fun h9 => ?_⟩, h1.2.1⟩, cu.2.1, ?_, h2⟩
        · rw [uI_o (by omega), uI_o (by omega)]; exact h1.1.1
        · rw [uI_o (by omega), uI_o (by omega)]; exact h1.1.2.1
        · rw [uI_o (by omega), uI_o (by omega)]; exact h1.1.2.2.1
        · rw [uI_o (by omega), uI_o (by omega)]; exact h1.1.2.2.2 h9
        · rw [uI_o (by omega)]; exact h1.1.2.1))
  · refine x_aload_n dX5_refuse_7 rfl ?_
    refine x_iload_n dX5_refuse_8 rfl ?_
    refine x_putI dX5_refuse_9 gf_RX5_21 (k_ob_287 cs) rfl ?_
    refine x_aload_n dX5_refuse_12 rfl ?_
    refine x_aload_n dX5_refuse_13 rfl ?_
    refine x_getI dX5_refuse_14 gf_RX5_74 (k_ob_287 cs) (fun _ _ => rfl) ?_
    refine x_putI dX5_refuse_17 gf_RX5_25 (k_ob_287 cs) rfl ?_
    exact x_return dX5_refuse_20 rfl (by omega) (by omega) (by first
 | exact hp _ Frd.rf (out_flt hO (by omega))
 | (have h0 : I 287 4 = 0 := by omega
    refine hp _ ((Frd.rf.u7 (by omega)).u7 (by omega)) ⟨⟨?_, ?_⟩, Or.inl ?_⟩
    · obtain ⟨a1, a2, a3⟩ := hO.1.1
      exact ⟨by funext i; rw [uI_o (by omega), uI_o (by omega), a1], by rw [uI_o (by omega), uI_o (by omega)]; exact a2, a3⟩
    · rw [uI_o (by omega), uI_o (by omega)]; exact hO.1.2
    · rcases hO.2 with h1 | ⟨_, cu, c, h1, h2⟩
      · exfalso; omega
      · rw [uI_o (by omega), uI_s, uI_s]
        refine ⟨by omega, ⟨cu, ⟨?_, ?_, ?_, fun h9 => ?_⟩, h1.2.1⟩, cu.2.1, ?_, h2⟩
        · rw [uI_o (by omega), uI_o (by omega)]; exact h1.1.1
        · rw [uI_o (by omega), uI_o (by omega)]; exact h1.1.2.1
        · rw [uI_o (by omega), uI_o (by omega)]; exact h1.1.2.2.1
        · rw [uI_o (by omega), uI_o (by omega)]; exact h1.1.2.2.2 h9
        · rw [uI_o (by omega)]; exact h1.1.2.1))
theorem dX5_emit_0 : decode prog_7_method_18_code 0 = .ok (.aload_n 0, 1) := by decide +kernel
theorem dX5_emit_1 : decode prog_7_method_18_code 1 = .ok (.invokevirtual 37, 3) := by decide +kernel
theorem dX5_emit_4 : decode prog_7_method_18_code 4 = .ok (.ifCond .eq 39, 3) := by decide +kernel
theorem dX5_emit_7 : decode prog_7_method_18_code 7 = .ok (.aload_n 0, 1) := by decide +kernel
theorem dX5_emit_8 : decode prog_7_method_18_code 8 = .ok (.getfield 53, 3) := by decide +kernel
theorem dX5_emit_11 : decode prog_7_method_18_code 11 = .ok (.sipush 300, 3) := by decide +kernel
theorem dX5_emit_14 : decode prog_7_method_18_code 14 = .ok (.if_icmp .ge 29, 3) := by decide +kernel
theorem dX5_emit_17 : decode prog_7_method_18_code 17 = .ok (.aload_n 0, 1) := by decide +kernel
theorem dX5_emit_18 : decode prog_7_method_18_code 18 = .ok (.getfield 15, 3) := by decide +kernel
theorem dX5_emit_21 : decode prog_7_method_18_code 21 = .ok (.aload_n 0, 1) := by decide +kernel
theorem dX5_emit_22 : decode prog_7_method_18_code 22 = .ok (.getfield 53, 3) := by decide +kernel
theorem dX5_emit_25 : decode prog_7_method_18_code 25 = .ok (.iload_n 1, 1) := by decide +kernel
theorem dX5_emit_26 : decode prog_7_method_18_code 26 = .ok (.sipush 16384, 3) := by decide +kernel
theorem dX5_emit_29 : decode prog_7_method_18_code 29 = .ok (.imul, 1) := by decide +kernel
theorem dX5_emit_30 : decode prog_7_method_18_code 30 = .ok (.iload_n 2, 1) := by decide +kernel
theorem dX5_emit_31 : decode prog_7_method_18_code 31 = .ok (.iadd, 1) := by decide +kernel
theorem dX5_emit_32 : decode prog_7_method_18_code 32 = .ok (.iastore, 1) := by decide +kernel
theorem dX5_emit_33 : decode prog_7_method_18_code 33 = .ok (.aload_n 0, 1) := by decide +kernel
theorem dX5_emit_34 : decode prog_7_method_18_code 34 = .ok (.dup, 1) := by decide +kernel
theorem dX5_emit_35 : decode prog_7_method_18_code 35 = .ok (.getfield 53, 3) := by decide +kernel
theorem dX5_emit_38 : decode prog_7_method_18_code 38 = .ok (.iconst 1, 1) := by decide +kernel
theorem dX5_emit_39 : decode prog_7_method_18_code 39 = .ok (.iadd, 1) := by decide +kernel
theorem dX5_emit_40 : decode prog_7_method_18_code 40 = .ok (.putfield 53, 3) := by decide +kernel
theorem dX5_emit_43 : decode prog_7_method_18_code 43 = .ok (.return_, 1) := by decide +kernel
theorem sp_X5_emit {op v : Int} (cs : CS S R) (hn : 1 ≤ n) (hw : (0 ≤ op ∧ op ≤ 18) ∧ 0 ≤ v ∧ v ≤ 9999) (hO : OutC I t l sl F (fun cu c => c.length + 1 ≤ cu.2.1 ∧ G cu (c ++ [op * 16384 + v]))) (hp : ∀ J, Frd I J → OutC J t l sl F G → Post none S J R) : Call n 0 0 mX5_emit [.ref (S.2.1 287), .int (iI op), .int (iI v)] S I R Post := by
  have hb := out_b hO
  have l3 := out_l hO
  have hz : I 287 4 = 0 → 0 ≤ I 287 6 ∧ I 287 6 < 300 := by
    intro h0
    rcases hO.2 with h1 | ⟨_, cu, c, h1, h2, _⟩
    · omega
    · have a1 := h1.2.2.1
      have a2 := h1.2.1.1
      have a3 := h1.2.1.2.1
      omega
  refine Call.of (by decide +kernel) (Nat.le_of_ble_eq_true rfl) ?_
  show WP _ _ _ _ _ 0 [(0, _), (1, _), (2, _)] [] 0 0 _ _ _
  refine x_aload_n dX5_emit_0 rfl ?_
  refine x_callV0 (mc1 := 0) (ms1 := 0) dX5_emit_1 cv_RX5_37 (ci := 5) (k_ob_287 cs) rfl (Nat.le_of_ble_eq_true rfl) (n1 := n - 1) (by omega) (by omega) (by omega) ?_
  refine sp_X5_goesOn cs (by omega) (fun r1 hr1 => ?_)
  refine x_if_eq 43 dX5_emit_4 (by decide) (by omega) (fun w4 => ?_) (fun w4 => ?_)
  · exact x_return dX5_emit_43 rfl (by omega) (by omega) (by first
 | exact hp _ Frd.rf (out_flt hO (by omega))
 | (refine hp _ ((Frd.rf.u9).u7 (by omega)) ⟨⟨?_, ?_⟩, Or.inr ⟨?_, ?_⟩⟩
    · obtain ⟨a1, a2, a3⟩ := hO.1.1
      exact ⟨by funext i; rw [uI_o (by omega), uI_o (by omega), a1], by rw [uI_o (by omega), uI_o (by omega)]; exact a2, a3⟩
    · rw [uI_o (by omega), uI_o (by omega)]; exact hO.1.2
    · rw [uI_o (by omega), uI_o (by omega)]; omega
    · rcases hO.2 with h1 | ⟨_, cu, c, h1, h2, h3⟩
      · exfalso; omega
      · have e6 := h1.2.2.1
        refine ⟨cu, c ++ [op * 16384 + v], ⟨⟨?_, ?_, ?_, fun h9 => ?_⟩, h1.2.1, ?_, fun i hi => ?_, ?_, by rw [uI_o (by omega), uI_o (by omega)]; exact h1.2.2.2.2.2⟩, h3⟩
        · rw [uI_o (by omega), uI_o (by omega)]; exact h1.1.1
        · rw [uI_o (by omega), uI_o (by omega)]; exact h1.1.2.1
        · rw [uI_o (by omega), uI_o (by omega)]; exact h1.1.2.2.1
        · rw [uI_o (by omega), uI_o (by omega)]; exact h1.1.2.2.2 h9
        · rw [uI_s, List.length_append, List.length_singleton, e6]; omega
        · rw [gd_app i hi, uI_o (by omega)]
          by_cases hq : i = c.length
          · rw [if_pos hq, show i = (I 287 6).toNat by omega, uI_s]
          · rw [if_neg hq, uI_o (by omega)]
            rw [List.length_append, List.length_singleton] at hi
            exact h1.2.2.2.1 i (by omega)
        · rw [List.length_append, List.length_singleton]; exact h2))
  · have hz2 := hz (by omega)
    refine x_aload_n dX5_emit_7 rfl ?_
    refine x_getI dX5_emit_8 gf_RX5_53 (k_ob_287 cs) (fun _ _ => rfl) ?_
    refine x_sipush dX5_emit_11 (by decide) ?_
    refine x_icmp_ge 43 dX5_emit_14 (by decide) ⟨(by omega), (by omega)⟩ (fun w14 => ?_) (fun w14 => ?_)
    · exact x_return dX5_emit_43 rfl (by omega) (by omega) (by first
 | exact hp _ Frd.rf (out_flt hO (by omega))
 | (refine hp _ ((Frd.rf.u9).u7 (by omega)) ⟨⟨?_, ?_⟩, Or.inr ⟨?_, ?_⟩⟩
    · obtain ⟨a1, a2, a3⟩ := hO.1.1
      exact ⟨by funext i; rw [uI_o (by omega), uI_o (by omega), a1], by rw [uI_o (by omega), uI_o (by omega)]; exact a2, a3⟩
    · rw [uI_o (by omega), uI_o (by omega)]; exact hO.1.2
    · rw [uI_o (by omega), uI_o (by omega)]; omega
    · rcases hO.2 with h1 | ⟨_, cu, c, h1, h2, h3⟩
      · exfalso; omega
      · have e6 := h1.2.2.1
        refine ⟨cu, c ++ [op * 16384 + v], ⟨⟨?_, ?_, ?_, fun h9 => ?_⟩, h1.2.1, ?_, fun i hi => ?_, ?_, by rw [uI_o (by omega), uI_o (by omega)]; exact h1.2.2.2.2.2⟩, h3⟩
        · rw [uI_o (by omega), uI_o (by omega)]; exact h1.1.1
        · rw [uI_o (by omega), uI_o (by omega)]; exact h1.1.2.1
        · rw [uI_o (by omega), uI_o (by omega)]; exact h1.1.2.2.1
        · rw [uI_o (by omega), uI_o (by omega)]; exact h1.1.2.2.2 h9
        · rw [uI_s, List.length_append, List.length_singleton, e6]; omega
        · rw [gd_app i hi, uI_o (by omega)]
          by_cases hq : i = c.length
          · rw [if_pos hq, show i = (I 287 6).toNat by omega, uI_s]
          · rw [if_neg hq, uI_o (by omega)]
            rw [List.length_append, List.length_singleton] at hi
            exact h1.2.2.2.1 i (by omega)
        · rw [List.length_append, List.length_singleton]; exact h2))
    · refine x_aload_n dX5_emit_17 rfl ?_
      refine x_getR (b := 289) dX5_emit_18 gf_RX5_15 (k_ob_287 cs) (fun _ _ => rfl) (k_r_287_1 cs) ?_
      refine x_aload_n dX5_emit_21 rfl ?_
      refine x_getI dX5_emit_22 gf_RX5_53 (k_ob_287 cs) (fun _ _ => rfl) ?_
      refine x_iload_n dX5_emit_25 rfl ?_
      refine x_sipush dX5_emit_26 (by decide) ?_
      refine x_imul dX5_emit_29 ?_
      refine x_iload_n dX5_emit_30 rfl ?_
      refine x_iadd dX5_emit_31 ?_
      refine x_iastore dX5_emit_32 (k_ar_289 cs) (by omega) (by omega) ?_
      refine x_aload_n dX5_emit_33 rfl ?_
      refine x_dup dX5_emit_34 rfl ?_
      refine x_getIv (z := I 287 6) dX5_emit_35 gf_RX5_53 (k_ob_287 cs) (fun _ _ => rfl) (by (repeat first | rw [uI_s] | rw [uI_o (by omega)] | rw [cpI_o (by omega)])) ?_
      refine x_iconst dX5_emit_38 ?_
      refine x_iadd dX5_emit_39 ?_
      refine x_putI dX5_emit_40 gf_RX5_53 (k_ob_287 cs) rfl ?_
      exact x_return dX5_emit_43 rfl (by omega) (by omega) (by first
 | exact hp _ Frd.rf (out_flt hO (by omega))
 | (refine hp _ ((Frd.rf.u9).u7 (by omega)) ⟨⟨?_, ?_⟩, Or.inr ⟨?_, ?_⟩⟩
    · obtain ⟨a1, a2, a3⟩ := hO.1.1
      exact ⟨by funext i; rw [uI_o (by omega), uI_o (by omega), a1], by rw [uI_o (by omega), uI_o (by omega)]; exact a2, a3⟩
    · rw [uI_o (by omega), uI_o (by omega)]; exact hO.1.2
    · rw [uI_o (by omega), uI_o (by omega)]; omega
    · rcases hO.2 with h1 | ⟨_, cu, c, h1, h2, h3⟩
      · exfalso; omega
      · have e6 := h1.2.2.1
        refine ⟨cu, c ++ [op * 16384 + v], ⟨⟨?_, ?_, ?_, fun h9 => ?_⟩, h1.2.1, ?_, fun i hi => ?_, ?_, by rw [uI_o (by omega), uI_o (by omega)]; exact h1.2.2.2.2.2⟩, h3⟩
        · rw [uI_o (by omega), uI_o (by omega)]; exact h1.1.1
        · rw [uI_o (by omega), uI_o (by omega)]; exact h1.1.2.1
        · rw [uI_o (by omega), uI_o (by omega)]; exact h1.1.2.2.1
        · rw [uI_o (by omega), uI_o (by omega)]; exact h1.1.2.2.2 h9
        · rw [uI_s, List.length_append, List.length_singleton, e6]; omega
        · rw [gd_app i hi, uI_o (by omega)]
          by_cases hq : i = c.length
          · rw [if_pos hq, show i = (I 287 6).toNat by omega, uI_s]
          · rw [if_neg hq, uI_o (by omega)]
            rw [List.length_append, List.length_singleton] at hi
            exact h1.2.2.2.1 i (by omega)
        · rw [List.length_append, List.length_singleton]; exact h2))
theorem dX5_expect_0 : decode prog_7_method_16_code 0 = .ok (.aload_n 0, 1) := by decide +kernel
theorem dX5_expect_1 : decode prog_7_method_16_code 1 = .ok (.invokevirtual 37, 3) := by decide +kernel
theorem dX5_expect_4 : decode prog_7_method_16_code 4 = .ok (.ifCond .ne 4, 3) := by decide +kernel
theorem dX5_expect_7 : decode prog_7_method_16_code 7 = .ok (.return_, 1) := by decide +kernel
theorem dX5_expect_8 : decode prog_7_method_16_code 8 = .ok (.aload_n 0, 1) := by decide +kernel
theorem dX5_expect_9 : decode prog_7_method_16_code 9 = .ok (.getfield 41, 3) := by decide +kernel
theorem dX5_expect_12 : decode prog_7_method_16_code 12 = .ok (.iload_n 1, 1) := by decide +kernel
theorem dX5_expect_13 : decode prog_7_method_16_code 13 = .ok (.if_icmp .ne 10, 3) := by decide +kernel
theorem dX5_expect_16 : decode prog_7_method_16_code 16 = .ok (.aload_n 0, 1) := by decide +kernel
theorem dX5_expect_17 : decode prog_7_method_16_code 17 = .ok (.invokevirtual 34, 3) := by decide +kernel
theorem dX5_expect_20 : decode prog_7_method_16_code 20 = .ok (.goto 8, 3) := by decide +kernel
theorem dX5_expect_23 : decode prog_7_method_16_code 23 = .ok (.aload_n 0, 1) := by decide +kernel
theorem dX5_expect_24 : decode prog_7_method_16_code 24 = .ok (.iconst 1, 1) := by decide +kernel
theorem dX5_expect_25 : decode prog_7_method_16_code 25 = .ok (.invokevirtual 122, 3) := by decide +kernel
theorem dX5_expect_28 : decode prog_7_method_16_code 28 = .ok (.return_, 1) := by decide +kernel
theorem sp_X5_expect {w : Int} (cs : CS S R) (hn : 6 ≤ n) (hw : 1 ≤ w ∧ w ≤ 151) (hO : OutC I t l sl F (fun cu c => (cu.2.2.1 ≠ w → F 1 cu.2.1) ∧ (cu.2.2.1 = w → G (adv t l cu.1) c))) (hp : ∀ J, Frd I J → OutC J t l sl F G → Post none S J R) : Call n 0 0 mX5_expect [.ref (S.2.1 287), .int (iI w)] S I R Post := by
  have hb := out_b hO
  have l3 := out_l hO
  refine Call.of (by decide +kernel) (Nat.le_of_ble_eq_true rfl) ?_
  show WP _ _ _ _ _ 0 [(0, _), (1, _)] [] 0 0 _ _ _
  refine x_aload_n dX5_expect_0 rfl ?_
  refine x_callV0 (mc1 := 0) (ms1 := 0) dX5_expect_1 cv_RX5_37 (ci := 5) (k_ob_287 cs) rfl (Nat.le_of_ble_eq_true rfl) (n1 := n - 1) (by omega) (by omega) (by omega) ?_
  refine sp_X5_goesOn cs (by omega) (fun r1 hr1 => ?_)
  refine x_if_ne 8 dX5_expect_4 (by decide) (by omega) (fun w4 => ?_) (fun w4 => ?_)
  · refine x_aload_n dX5_expect_8 rfl ?_
    refine x_getI dX5_expect_9 gf_RX5_41 (k_ob_287 cs) (fun _ _ => rfl) ?_
    refine x_iload_n dX5_expect_12 rfl ?_
    refine x_icmp_ne 23 dX5_expect_13 (by decide) ⟨(by omega), (by omega)⟩ (fun w13 => ?_) (fun w13 => ?_)
    · refine x_aload_n dX5_expect_23 rfl ?_
      refine x_iconst dX5_expect_24 ?_
      refine x_callV1 (mc1 := 0) (ms1 := 0) dX5_expect_25 cv_RX5_122 (ci := 5) (k_ob_287 cs) rfl (Nat.le_of_ble_eq_true rfl) (n1 := n - 1) (by omega) (by omega) (by omega) ?_
      refine sp_X5_refuse (G := G) cs (by omega) (by omega) (out_imp hO (fun cu c _ _ _ k1 _ _ g => g.1 (by omega))) (fun J25 f25 o25 => ?_)
      exact x_return dX5_expect_28 rfl (by omega) (by omega) (by first | exact hp _ f17 o17 | exact hp _ f25 o25 | exact hp _ Frd.rf (out_flt hO (by omega)))
    · refine x_aload_n dX5_expect_16 rfl ?_
      refine x_callV0 (mc1 := 0) (ms1 := 0) dX5_expect_17 cv_RX5_34 (ci := 5) (k_ob_287 cs) rfl (Nat.le_of_ble_eq_true rfl) (n1 := n - 1) (by omega) (by omega) (by omega) ?_
      refine sp_adv (G := G) cs (by omega) (out_imp hO (fun cu c _ _ _ k1 _ _ g => g.2 (by omega))) (fun J17 f17 o17 => ?_)
      refine x_goto 28 dX5_expect_20 (by decide) ?_
      exact x_return dX5_expect_28 rfl (by omega) (by omega) (by first | exact hp _ f17 o17 | exact hp _ f25 o25 | exact hp _ Frd.rf (out_flt hO (by omega)))
  · exact x_return dX5_expect_7 rfl (by omega) (by omega) (by first | exact hp _ f17 o17 | exact hp _ f25 o25 | exact hp _ Frd.rf (out_flt hO (by omega)))
theorem dX5_takeNumber_0 : decode prog_7_method_17_code 0 = .ok (.aload_n 0, 1) := by decide +kernel
theorem dX5_takeNumber_1 : decode prog_7_method_17_code 1 = .ok (.invokevirtual 37, 3) := by decide +kernel
theorem dX5_takeNumber_4 : decode prog_7_method_17_code 4 = .ok (.ifCond .ne 5, 3) := by decide +kernel
theorem dX5_takeNumber_7 : decode prog_7_method_17_code 7 = .ok (.iload_n 1, 1) := by decide +kernel
theorem dX5_takeNumber_8 : decode prog_7_method_17_code 8 = .ok (.ireturn, 1) := by decide +kernel
theorem dX5_takeNumber_9 : decode prog_7_method_17_code 9 = .ok (.aload_n 0, 1) := by decide +kernel
theorem dX5_takeNumber_10 : decode prog_7_method_17_code 10 = .ok (.getfield 41, 3) := by decide +kernel
theorem dX5_takeNumber_13 : decode prog_7_method_17_code 13 = .ok (.iconst 2, 1) := by decide +kernel
theorem dX5_takeNumber_14 : decode prog_7_method_17_code 14 = .ok (.if_icmp .eq 10, 3) := by decide +kernel
theorem dX5_takeNumber_17 : decode prog_7_method_17_code 17 = .ok (.aload_n 0, 1) := by decide +kernel
theorem dX5_takeNumber_18 : decode prog_7_method_17_code 18 = .ok (.iconst 1, 1) := by decide +kernel
theorem dX5_takeNumber_19 : decode prog_7_method_17_code 19 = .ok (.invokevirtual 122, 3) := by decide +kernel
theorem dX5_takeNumber_22 : decode prog_7_method_17_code 22 = .ok (.iload_n 1, 1) := by decide +kernel
theorem dX5_takeNumber_23 : decode prog_7_method_17_code 23 = .ok (.ireturn, 1) := by decide +kernel
theorem dX5_takeNumber_24 : decode prog_7_method_17_code 24 = .ok (.aload_n 0, 1) := by decide +kernel
theorem dX5_takeNumber_25 : decode prog_7_method_17_code 25 = .ok (.getfield 105, 3) := by decide +kernel
theorem dX5_takeNumber_28 : decode prog_7_method_17_code 28 = .ok (.iload_n 1, 1) := by decide +kernel
theorem dX5_takeNumber_29 : decode prog_7_method_17_code 29 = .ok (.if_icmp .lt 11, 3) := by decide +kernel
theorem dX5_takeNumber_32 : decode prog_7_method_17_code 32 = .ok (.aload_n 0, 1) := by decide +kernel
theorem dX5_takeNumber_33 : decode prog_7_method_17_code 33 = .ok (.getfield 105, 3) := by decide +kernel
theorem dX5_takeNumber_36 : decode prog_7_method_17_code 36 = .ok (.iload_n 2, 1) := by decide +kernel
theorem dX5_takeNumber_37 : decode prog_7_method_17_code 37 = .ok (.if_icmp .le 10, 3) := by decide +kernel
theorem dX5_takeNumber_40 : decode prog_7_method_17_code 40 = .ok (.aload_n 0, 1) := by decide +kernel
theorem dX5_takeNumber_41 : decode prog_7_method_17_code 41 = .ok (.iconst 2, 1) := by decide +kernel
theorem dX5_takeNumber_42 : decode prog_7_method_17_code 42 = .ok (.invokevirtual 122, 3) := by decide +kernel
theorem dX5_takeNumber_45 : decode prog_7_method_17_code 45 = .ok (.iload_n 1, 1) := by decide +kernel
theorem dX5_takeNumber_46 : decode prog_7_method_17_code 46 = .ok (.ireturn, 1) := by decide +kernel
theorem dX5_takeNumber_47 : decode prog_7_method_17_code 47 = .ok (.aload_n 0, 1) := by decide +kernel
theorem dX5_takeNumber_48 : decode prog_7_method_17_code 48 = .ok (.getfield 105, 3) := by decide +kernel
theorem dX5_takeNumber_51 : decode prog_7_method_17_code 51 = .ok (.istore_n 3, 1) := by decide +kernel
theorem dX5_takeNumber_52 : decode prog_7_method_17_code 52 = .ok (.aload_n 0, 1) := by decide +kernel
theorem dX5_takeNumber_53 : decode prog_7_method_17_code 53 = .ok (.invokevirtual 34, 3) := by decide +kernel
theorem dX5_takeNumber_56 : decode prog_7_method_17_code 56 = .ok (.iload_n 3, 1) := by decide +kernel
theorem dX5_takeNumber_57 : decode prog_7_method_17_code 57 = .ok (.ireturn, 1) := by decide +kernel
theorem sp_X5_takeNumber {lo hi : Int} {Gv : Int → Cu → List Int → Prop} (cs : CS S R) (hn : 6 ≤ n) (hw : 0 ≤ lo ∧ lo ≤ hi ∧ hi ≤ 9999) (hO : OutC I t l sl F (fun cu c => (cu.2.2.1 ≠ 2 → F 1 cu.2.1) ∧ (cu.2.2.1 = 2 → ¬ (lo ≤ cu.2.2.2 ∧ cu.2.2.2 ≤ hi) → F 2 cu.2.1) ∧ (cu.2.2.1 = 2 → lo ≤ cu.2.2.2 → cu.2.2.2 ≤ hi → Gv cu.2.2.2 (adv t l cu.1) c))) (hp : ∀ v J, (lo ≤ v ∧ v ≤ hi) → Frd I J → OutC J t l sl F (Gv v) → Post (some (.int (iI v))) S J R) : Call n 0 0 mX5_takeNumber [.ref (S.2.1 287), .int (iI lo), .int (iI hi)] S I R Post := by
  have hb := out_b hO
  have l3 := out_l hO
  have hz : I 287 15 = 2 → I 287 4 = 0 → 0 ≤ I 287 16 ∧ I 287 16 ≤ 10000 := by
    intro h2 h0
    rcases hO.2 with h1 | ⟨_, cu, c, h1, _⟩
    · omega
    · have a1 := h1.1.2.2.1
      have a2 := h1.1.2.2.2 (by omega)
      have a3 := h1.2.1.2.2.2.2.2
      omega
  refine Call.of (by decide +kernel) (Nat.le_of_ble_eq_true rfl) ?_
  show WP _ _ _ _ _ 0 [(0, _), (1, _), (2, _)] [] 0 0 _ _ _
  refine x_aload_n dX5_takeNumber_0 rfl ?_
  refine x_callV0 (mc1 := 0) (ms1 := 0) dX5_takeNumber_1 cv_RX5_37 (ci := 5) (k_ob_287 cs) rfl (Nat.le_of_ble_eq_true rfl) (n1 := n - 1) (by omega) (by omega) (by omega) ?_
  refine sp_X5_goesOn cs (by omega) (fun r1 hr1 => ?_)
  refine x_if_ne 9 dX5_takeNumber_4 (by decide) (by omega) (fun w4 => ?_) (fun w4 => ?_)
  · refine x_aload_n dX5_takeNumber_9 rfl ?_
    refine x_getI dX5_takeNumber_10 gf_RX5_41 (k_ob_287 cs) (fun _ _ => rfl) ?_
    refine x_iconst dX5_takeNumber_13 ?_
    refine x_icmp_eq 24 dX5_takeNumber_14 (by decide) ⟨(by omega), (by omega)⟩ (fun w14 => ?_) (fun w14 => ?_)
    · have hz2 := hz (by omega) (by omega)
      refine x_aload_n dX5_takeNumber_24 rfl ?_
      refine x_getI dX5_takeNumber_25 gf_RX5_105 (k_ob_287 cs) (fun _ _ => rfl) ?_
      refine x_iload_n dX5_takeNumber_28 rfl ?_
      refine x_icmp_lt 40 dX5_takeNumber_29 (by decide) ⟨(by omega), (by omega)⟩ (fun w29 => ?_) (fun w29 => ?_)
      · refine x_aload_n dX5_takeNumber_40 rfl ?_
        refine x_iconst dX5_takeNumber_41 ?_
        refine x_callV1 (mc1 := 0) (ms1 := 0) dX5_takeNumber_42 cv_RX5_122 (ci := 5) (k_ob_287 cs) rfl (Nat.le_of_ble_eq_true rfl) (n1 := n - 1) (by omega) (by omega) (by omega) ?_
        refine sp_X5_refuse (G := Gv lo) cs (by omega) (by omega) (out_imp hO (fun cu c _ _ _ k1 _ k3 g => by have k4 := k3 (by omega); exact g.2.1 (by omega) (by omega))) (fun J42 f42 o42 => ?_)
        refine x_iload_n dX5_takeNumber_45 rfl ?_
        exact x_ireturn dX5_takeNumber_46 rfl (by omega) (by omega) (by first | exact hp _ _ (by omega) f53 o53 | exact hp _ _ (by omega) f19 o19 | exact hp _ _ (by omega) f42 o42 | exact hp _ _ (by omega) Frd.rf (out_flt hO (by omega)))
      · refine x_aload_n dX5_takeNumber_32 rfl ?_
        refine x_getI dX5_takeNumber_33 gf_RX5_105 (k_ob_287 cs) (fun _ _ => rfl) ?_
        refine x_iload_n dX5_takeNumber_36 rfl ?_
        refine x_icmp_le 47 dX5_takeNumber_37 (by decide) ⟨(by omega), (by omega)⟩ (fun w37 => ?_) (fun w37 => ?_)
        · refine x_aload_n dX5_takeNumber_47 rfl ?_
          refine x_getI dX5_takeNumber_48 gf_RX5_105 (k_ob_287 cs) (fun _ _ => rfl) ?_
          refine x_istore_n (lv2 := [(3, _), (0, _), (1, _), (2, _)]) dX5_takeNumber_51 (by decide) rfl ?_
          refine x_aload_n dX5_takeNumber_52 rfl ?_
          refine x_callV0 (mc1 := 0) (ms1 := 0) dX5_takeNumber_53 cv_RX5_34 (ci := 5) (k_ob_287 cs) rfl (Nat.le_of_ble_eq_true rfl) (n1 := n - 1) (by omega) (by omega) (by omega) ?_
          refine sp_adv (G := Gv (I 287 16)) cs (by omega) (out_imp hO (fun cu c _ _ _ k1 _ k3 g => by have k4 := k3 (by omega); rw [k4] at *; exact g.2.2 (by omega) (by omega) (by omega))) (fun J53 f53 o53 => ?_)
          refine x_iload_n dX5_takeNumber_56 rfl ?_
          exact x_ireturn dX5_takeNumber_57 rfl (by omega) (by omega) (by first | exact hp _ _ (by omega) f53 o53 | exact hp _ _ (by omega) f19 o19 | exact hp _ _ (by omega) f42 o42 | exact hp _ _ (by omega) Frd.rf (out_flt hO (by omega)))
        · refine x_aload_n dX5_takeNumber_40 rfl ?_
          refine x_iconst dX5_takeNumber_41 ?_
          refine x_callV1 (mc1 := 0) (ms1 := 0) dX5_takeNumber_42 cv_RX5_122 (ci := 5) (k_ob_287 cs) rfl (Nat.le_of_ble_eq_true rfl) (n1 := n - 1) (by omega) (by omega) (by omega) ?_
          refine sp_X5_refuse (G := Gv lo) cs (by omega) (by omega) (out_imp hO (fun cu c _ _ _ k1 _ k3 g => by have k4 := k3 (by omega); exact g.2.1 (by omega) (by omega))) (fun J42 f42 o42 => ?_)
          refine x_iload_n dX5_takeNumber_45 rfl ?_
          exact x_ireturn dX5_takeNumber_46 rfl (by omega) (by omega) (by first | exact hp _ _ (by omega) f53 o53 | exact hp _ _ (by omega) f19 o19 | exact hp _ _ (by omega) f42 o42 | exact hp _ _ (by omega) Frd.rf (out_flt hO (by omega)))
    · refine x_aload_n dX5_takeNumber_17 rfl ?_
      refine x_iconst dX5_takeNumber_18 ?_
      refine x_callV1 (mc1 := 0) (ms1 := 0) dX5_takeNumber_19 cv_RX5_122 (ci := 5) (k_ob_287 cs) rfl (Nat.le_of_ble_eq_true rfl) (n1 := n - 1) (by omega) (by omega) (by omega) ?_
      refine sp_X5_refuse (G := Gv lo) cs (by omega) (by omega) (out_imp hO (fun cu c _ _ _ k1 _ k3 g => g.1 (by omega))) (fun J19 f19 o19 => ?_)
      refine x_iload_n dX5_takeNumber_22 rfl ?_
      exact x_ireturn dX5_takeNumber_23 rfl (by omega) (by omega) (by first | exact hp _ _ (by omega) f53 o53 | exact hp _ _ (by omega) f19 o19 | exact hp _ _ (by omega) f42 o42 | exact hp _ _ (by omega) Frd.rf (out_flt hO (by omega)))
  · refine x_iload_n dX5_takeNumber_7 rfl ?_
    exact x_ireturn dX5_takeNumber_8 rfl (by omega) (by omega) (by first | exact hp _ _ (by omega) f53 o53 | exact hp _ _ (by omega) f19 o19 | exact hp _ _ (by omega) f42 o42 | exact hp _ _ (by omega) Frd.rf (out_flt hO (by omega)))
theorem dX5_opens_0 : decode prog_7_method_19_code 0 = .ok (.iload_n 1, 1) := by decide +kernel
theorem dX5_opens_1 : decode prog_7_method_19_code 1 = .ok (.bipush 8, 2) := by decide +kernel
theorem dX5_opens_3 : decode prog_7_method_19_code 3 = .ok (.if_icmp .lt 10, 3) := by decide +kernel
theorem dX5_opens_6 : decode prog_7_method_19_code 6 = .ok (.aload_n 0, 1) := by decide +kernel
theorem dX5_opens_7 : decode prog_7_method_19_code 7 = .ok (.iconst 3, 1) := by decide +kernel
theorem dX5_opens_8 : decode prog_7_method_19_code 8 = .ok (.invokevirtual 122, 3) := by decide +kernel
theorem dX5_opens_11 : decode prog_7_method_19_code 11 = .ok (.iconst 0, 1) := by decide +kernel
theorem dX5_opens_12 : decode prog_7_method_19_code 12 = .ok (.ireturn, 1) := by decide +kernel
theorem dX5_opens_13 : decode prog_7_method_19_code 13 = .ok (.aload_n 0, 1) := by decide +kernel
theorem dX5_opens_14 : decode prog_7_method_19_code 14 = .ok (.invokevirtual 34, 3) := by decide +kernel
theorem dX5_opens_17 : decode prog_7_method_19_code 17 = .ok (.iconst 1, 1) := by decide +kernel
theorem dX5_opens_18 : decode prog_7_method_19_code 18 = .ok (.ireturn, 1) := by decide +kernel
theorem sp_X5_opens {d : Nat} (cs : CS S R) (hn : 6 ≤ n) (hd : d ≤ 8) (hO : OutC I t l sl F (fun cu c => (d = 8 → F 3 cu.2.1) ∧ (d ≠ 8 → G (adv t l cu.1) c))) (hp : ∀ r J, Frd I J → (r = 1 ∧ d ≠ 8 ∧ OutC J t l sl F G ∨ r = 0 ∧ d = 8 ∧ OutC J t l sl F (fun _ _ => False)) → Post (some (.int (iI r))) S J R) : Call n 0 0 mX5_opens [.ref (S.2.1 287), .int (iI (d : Int))] S I R Post := by
  have hb := out_b hO
  have l3 := out_l hO
  refine Call.of (by decide +kernel) (Nat.le_of_ble_eq_true rfl) ?_
  show WP _ _ _ _ _ 0 [(0, _), (1, _)] [] 0 0 _ _ _
  refine x_iload_n dX5_opens_0 rfl ?_
  refine x_bipush dX5_opens_1 (by decide) ?_
  refine x_icmp_lt 13 dX5_opens_3 (by decide) ⟨(by omega), (by omega)⟩ (fun w3 => ?_) (fun w3 => ?_)
  · refine x_aload_n dX5_opens_13 rfl ?_
    refine x_callV0 (mc1 := 0) (ms1 := 0) dX5_opens_14 cv_RX5_34 (ci := 5) (k_ob_287 cs) rfl (Nat.le_of_ble_eq_true rfl) (n1 := n - 1) (by omega) (by omega) (by omega) ?_
    refine sp_adv (G := G) cs (by omega) (out_imp hO (fun cu c _ _ _ k1 _ k3 g => g.2 (by omega))) (fun J14 f14 o14 => ?_)
    refine x_iconst dX5_opens_17 ?_
    exact x_zreturn (by omega) dX5_opens_18 rfl (by omega) (by omega) (by first | exact hp _ _ f14 (Or.inl ⟨rfl, by omega, o14⟩) | exact hp _ _ f8 (Or.inr ⟨rfl, by omega, o8⟩))
  · refine x_aload_n dX5_opens_6 rfl ?_
    refine x_iconst dX5_opens_7 ?_
    refine x_callV1 (mc1 := 0) (ms1 := 0) dX5_opens_8 cv_RX5_122 (ci := 5) (k_ob_287 cs) rfl (Nat.le_of_ble_eq_true rfl) (n1 := n - 1) (by omega) (by omega) (by omega) ?_
    refine sp_X5_refuse (G := fun _ _ => False) cs (by omega) (by omega) (out_imp hO (fun cu c _ _ _ k1 _ k3 g => g.1 (by omega))) (fun J8 f8 o8 => ?_)
    refine x_iconst dX5_opens_11 ?_
    exact x_zreturn (by omega) dX5_opens_12 rfl (by omega) (by omega) (by first | exact hp _ _ f14 (Or.inl ⟨rfl, by omega, o14⟩) | exact hp _ _ f8 (Or.inr ⟨rfl, by omega, o8⟩))
theorem dX5_comparison_0 : decode prog_7_method_30_code 0 = .ok (.aload_n 0, 1) := by decide +kernel
theorem dX5_comparison_1 : decode prog_7_method_30_code 1 = .ok (.getfield 41, 3) := by decide +kernel
theorem dX5_comparison_4 : decode prog_7_method_30_code 4 = .ok (.lookupswitch 78 #[(3, 72), (4, 75), (35, 69), (60, 60), (61, 66), (62, 63)], 60) := by decide +kernel
theorem dX5_comparison_64 : decode prog_7_method_30_code 64 = .ok (.bipush 10, 2) := by decide +kernel
theorem dX5_comparison_66 : decode prog_7_method_30_code 66 = .ok (.ireturn, 1) := by decide +kernel
theorem dX5_comparison_67 : decode prog_7_method_30_code 67 = .ok (.bipush 12, 2) := by decide +kernel
theorem dX5_comparison_69 : decode prog_7_method_30_code 69 = .ok (.ireturn, 1) := by decide +kernel
theorem dX5_comparison_70 : decode prog_7_method_30_code 70 = .ok (.bipush 14, 2) := by decide +kernel
theorem dX5_comparison_72 : decode prog_7_method_30_code 72 = .ok (.ireturn, 1) := by decide +kernel
theorem dX5_comparison_73 : decode prog_7_method_30_code 73 = .ok (.bipush 15, 2) := by decide +kernel
theorem dX5_comparison_75 : decode prog_7_method_30_code 75 = .ok (.ireturn, 1) := by decide +kernel
theorem dX5_comparison_76 : decode prog_7_method_30_code 76 = .ok (.bipush 11, 2) := by decide +kernel
theorem dX5_comparison_78 : decode prog_7_method_30_code 78 = .ok (.ireturn, 1) := by decide +kernel
theorem dX5_comparison_79 : decode prog_7_method_30_code 79 = .ok (.bipush 13, 2) := by decide +kernel
theorem dX5_comparison_81 : decode prog_7_method_30_code 81 = .ok (.ireturn, 1) := by decide +kernel
theorem dX5_comparison_82 : decode prog_7_method_30_code 82 = .ok (.iconst (-1), 1) := by decide +kernel
theorem dX5_comparison_83 : decode prog_7_method_30_code 83 = .ok (.ireturn, 1) := by decide +kernel
theorem sp_X5_comparison  (cs : CS S R) (hb : 0 ≤ I 287 15 ∧ I 287 15 ≤ 151) (hp : Post (some (.int (iI (cmpO (I 287 15))))) S I R) : Call n 0 0 mX5_comparison [.ref (S.2.1 287)] S I R Post := by
  refine Call.of (by decide +kernel) (Nat.le_of_ble_eq_true rfl) ?_
  show WP _ _ _ _ _ 0 [(0, _)] [] 0 0 _ _ _
  refine x_aload_n dX5_comparison_0 rfl ?_
  refine x_getI dX5_comparison_1 gf_RX5_41 (k_ob_287 cs) (fun _ _ => rfl) ?_
  by_cases t4_0 : I 287 15 = 3
  · refine x_lookup (off := 72) 76 dX5_comparison_4 (by decide) (by omega) (by rw [t4_0]; first | done | rfl) (by decide) ?_
    refine x_bipush dX5_comparison_76 (by decide) ?_
    exact x_ireturn dX5_comparison_78 rfl (by omega) (by omega) (by first | (rw [t4_0] at hp; exact hp) | (rw [t4_1] at hp; exact hp) | (rw [t4_2] at hp; exact hp) | (rw [t4_3] at hp; exact hp) | (rw [t4_4] at hp; exact hp) | (rw [t4_5] at hp; exact hp) | (rw [show cmpO (I 287 15) = -1 by unfold cmpO; rw [if_neg (by omega), if_neg (by omega), if_neg (by omega), if_neg (by omega), if_neg (by omega), if_neg (by omega)]] at hp; exact hp))
  by_cases t4_1 : I 287 15 = 4
  · refine x_lookup (off := 75) 79 dX5_comparison_4 (by decide) (by omega) (by rw [t4_1]; first | done | rfl) (by decide) ?_
    refine x_bipush dX5_comparison_79 (by decide) ?_
    exact x_ireturn dX5_comparison_81 rfl (by omega) (by omega) (by first | (rw [t4_0] at hp; exact hp) | (rw [t4_1] at hp; exact hp) | (rw [t4_2] at hp; exact hp) | (rw [t4_3] at hp; exact hp) | (rw [t4_4] at hp; exact hp) | (rw [t4_5] at hp; exact hp) | (rw [show cmpO (I 287 15) = -1 by unfold cmpO; rw [if_neg (by omega), if_neg (by omega), if_neg (by omega), if_neg (by omega), if_neg (by omega), if_neg (by omega)]] at hp; exact hp))
  by_cases t4_2 : I 287 15 = 35
  · refine x_lookup (off := 69) 73 dX5_comparison_4 (by decide) (by omega) (by rw [t4_2]; first | done | rfl) (by decide) ?_
    refine x_bipush dX5_comparison_73 (by decide) ?_
    exact x_ireturn dX5_comparison_75 rfl (by omega) (by omega) (by first | (rw [t4_0] at hp; exact hp) | (rw [t4_1] at hp; exact hp) | (rw [t4_2] at hp; exact hp) | (rw [t4_3] at hp; exact hp) | (rw [t4_4] at hp; exact hp) | (rw [t4_5] at hp; exact hp) | (rw [show cmpO (I 287 15) = -1 by unfold cmpO; rw [if_neg (by omega), if_neg (by omega), if_neg (by omega), if_neg (by omega), if_neg (by omega), if_neg (by omega)]] at hp; exact hp))
  by_cases t4_3 : I 287 15 = 60
  · refine x_lookup (off := 60) 64 dX5_comparison_4 (by decide) (by omega) (by rw [t4_3]; first | done | rfl) (by decide) ?_
    refine x_bipush dX5_comparison_64 (by decide) ?_
    exact x_ireturn dX5_comparison_66 rfl (by omega) (by omega) (by first | (rw [t4_0] at hp; exact hp) | (rw [t4_1] at hp; exact hp) | (rw [t4_2] at hp; exact hp) | (rw [t4_3] at hp; exact hp) | (rw [t4_4] at hp; exact hp) | (rw [t4_5] at hp; exact hp) | (rw [show cmpO (I 287 15) = -1 by unfold cmpO; rw [if_neg (by omega), if_neg (by omega), if_neg (by omega), if_neg (by omega), if_neg (by omega), if_neg (by omega)]] at hp; exact hp))
  by_cases t4_4 : I 287 15 = 61
  · refine x_lookup (off := 66) 70 dX5_comparison_4 (by decide) (by omega) (by rw [t4_4]; first | done | rfl) (by decide) ?_
    refine x_bipush dX5_comparison_70 (by decide) ?_
    exact x_ireturn dX5_comparison_72 rfl (by omega) (by omega) (by first | (rw [t4_0] at hp; exact hp) | (rw [t4_1] at hp; exact hp) | (rw [t4_2] at hp; exact hp) | (rw [t4_3] at hp; exact hp) | (rw [t4_4] at hp; exact hp) | (rw [t4_5] at hp; exact hp) | (rw [show cmpO (I 287 15) = -1 by unfold cmpO; rw [if_neg (by omega), if_neg (by omega), if_neg (by omega), if_neg (by omega), if_neg (by omega), if_neg (by omega)]] at hp; exact hp))
  by_cases t4_5 : I 287 15 = 62
  · refine x_lookup (off := 63) 67 dX5_comparison_4 (by decide) (by omega) (by rw [t4_5]; first | done | rfl) (by decide) ?_
    refine x_bipush dX5_comparison_67 (by decide) ?_
    exact x_ireturn dX5_comparison_69 rfl (by omega) (by omega) (by first | (rw [t4_0] at hp; exact hp) | (rw [t4_1] at hp; exact hp) | (rw [t4_2] at hp; exact hp) | (rw [t4_3] at hp; exact hp) | (rw [t4_4] at hp; exact hp) | (rw [t4_5] at hp; exact hp) | (rw [show cmpO (I 287 15) = -1 by unfold cmpO; rw [if_neg (by omega), if_neg (by omega), if_neg (by omega), if_neg (by omega), if_neg (by omega), if_neg (by omega)]] at hp; exact hp))
  refine x_lookup (off := 78) 82 dX5_comparison_4 (by decide) (by omega) (by show Op.lookupswitch.offset [(3, 72), (4, 75), (35, 69), (60, 60), (61, 66), (62, 63)] _ _ = _; rw [Op.lookupswitch.offset_cons, if_neg (by omega), Op.lookupswitch.offset_cons, if_neg (by omega), Op.lookupswitch.offset_cons, if_neg (by omega), Op.lookupswitch.offset_cons, if_neg (by omega), Op.lookupswitch.offset_cons, if_neg (by omega), Op.lookupswitch.offset_cons, if_neg (by omega)]; rfl) (by decide) ?_
  refine x_iconst dX5_comparison_82 ?_
  exact x_ireturn dX5_comparison_83 rfl (by omega) (by omega) (by first | (rw [t4_0] at hp; exact hp) | (rw [t4_1] at hp; exact hp) | (rw [t4_2] at hp; exact hp) | (rw [t4_3] at hp; exact hp) | (rw [t4_4] at hp; exact hp) | (rw [t4_5] at hp; exact hp) | (rw [show cmpO (I 287 15) = -1 by unfold cmpO; rw [if_neg (by omega), if_neg (by omega), if_neg (by omega), if_neg (by omega), if_neg (by omega), if_neg (by omega)]] at hp; exact hp))
end Rd1
