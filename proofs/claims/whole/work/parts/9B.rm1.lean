section Rm1s
variable {n mc ms : Nat} {M : Md} {pc : Nat} {lv : List (Nat × Value)} {st : List Value} {k j : Nat} {Post : PT} {S : Sh} {I : CI} {R : CR} {A : Nat → Int} {tx : Nat → Nat → Int}
theorem uI_x {I : CI} {a q b jj : Nat} {v : Int} (h : b = a) (h2 : jj = q) : uI I a q v b jj = v := by rw [h, h2, uI_s]
def PlA (g : Nat → Int) : List Int → Prop
  | [] => True
  | o :: p => g p.length = o ∧ PlA g p
theorem PlA.w {g h : Nat → Int} : ∀ {p : List Int}, PlA g p → (∀ i, i < p.length → h i = g i) → PlA h p := by
  intro p
  induction p with
  | nil => intro _ _; trivial
  | cons o p ih =>
    intro h1 h2
    exact ⟨by rw [h2 p.length (by rw [List.length_cons]; omega)]; exact h1.1, ih h1.2 (fun i hi => h2 i (by rw [List.length_cons]; omega))⟩
abbrev vld (x : Int) : Prop := x = 2 ∨ (4 ≤ x ∧ x ≤ 15) ∨ (20 ≤ x ∧ x ≤ 22) ∨ (40 ≤ x ∧ x ≤ 44)
def rkh : List Int → Int
  | [] => 0
  | o :: _ => rk o
def okP : List Int → Prop
  | [] => True
  | x :: p => okP p ∧ vld x ∧ (opT x = true ∨ rkh p < rk x)
theorem okP_len : ∀ p : List Int, okP p → (p.length : Int) ≤ 8 * (nOp p : Int) + rkh p := by
  intro p
  induction p with
  | nil => intro _; show (0 : Int) ≤ 8 * 0 + 0; omega
  | cons x p ih =>
    intro h
    have h1 := ih h.1
    have hb := rk_b x
    have hb2 : 0 ≤ rkh p ∧ rkh p ≤ 7 := by
      cases p with
      | nil => show (0 : Int) ≤ 0 ∧ (0 : Int) ≤ 7; omega
      | cons y p => exact rk_b y
    rw [List.length_cons]
    show ((p.length + 1 : Nat) : Int) ≤ 8 * (nOp (x :: p) : Int) + rk x
    by_cases ho : opT x = true
    · rw [nOp_c ho]; omega
    · have ho2 : opT x = false := by simpa using ho
      rw [nOp_n ho2]
      rcases h.2.2 with h3 | h3
      · exact absurd h3 ho
      · omega
theorem omp_ivm {x : Int} (h : vld x) (h2 : x < 40) : omp (ivm x) = x ∧ 0 ≤ ivm x ∧ ivm x ≤ 18 := by
  have hx : x = 2 ∨ x = 4 ∨ x = 5 ∨ x = 6 ∨ x = 7 ∨ x = 8 ∨ x = 9 ∨ x = 10 ∨ x = 11 ∨ x = 12 ∨ x = 13 ∨ x = 14 ∨ x = 15 ∨ x = 20 ∨ x = 21 ∨ x = 22 := by omega
  rcases hx with h | h | h | h | h | h | h | h | h | h | h | h | h | h | h | h <;> rw [h] <;> decide
def CdA (X : Nat → Int) (o : Nat) (b : List Int) : Prop := ∀ i, i < b.length → X (o + 97 + 2 * i) = omp (b.getD i 0 / 16384) ∧ X (o + 98 + 2 * i) = b.getD i 0 % 16384
def CdS (J : CI) (o : Nat) (b : List Int) : Prop := CdA (J 309) o b ∧ J 306 13 = (b.length : Int) ∧ J 306 12 = (o : Int)
def PlS (J : CI) (p : List Int) : Prop := PlA (J 311) p ∧ J 306 16 = (p.length : Int) ∧ J 306 17 = (nOp p : Int)
/-- what a settling changes -/
def Fst (o : Nat) (I J : CI) : Prop := (∀ a, a ≠ 306 → a ≠ 309 → J a = I a) ∧ (∀ a, a ≠ 13 → a ≠ 16 → a ≠ 17 → J 306 a = I 306 a) ∧ ∀ a, (a < o + 97 ∨ o + 705 ≤ a) → J 309 a = I 309 a
theorem Fst.rf {o : Nat} {I : CI} : Fst o I I := ⟨fun _ _ _ => rfl, fun _ _ _ _ => rfl, fun _ _ => rfl⟩
theorem Fst.tr {o : Nat} {I J K : CI} (h : Fst o I J) (h2 : Fst o J K) : Fst o I K := ⟨fun a b e => (h2.1 a b e).trans (h.1 a b e), fun a b e g => (h2.2.1 a b e g).trans (h.2.1 a b e g), fun a b => (h2.2.2 a b).trans (h.2.2 a b)⟩
theorem Fst.u6 {o q : Nat} {v : Int} {I J : CI} (h : Fst o I J) (hq : q = 13 ∨ q = 16 ∨ q = 17) : Fst o I (uI J 306 q v) := ⟨fun a b e => by rw [uI_row b]; exact h.1 a b e, fun a b e g => by rw [uI_o (by omega)]; exact h.2.1 a b e g, fun a b => by rw [uI_row (by omega)]; exact h.2.2 a b⟩
theorem Fst.u9 {o q : Nat} {v : Int} {I J : CI} (h : Fst o I J) (hq : o + 97 ≤ q ∧ q < o + 705) : Fst o I (uI J 309 q v) := ⟨fun a b e => by rw [uI_row e]; exact h.1 a b e, fun a b e g => by rw [uI_row (by omega)]; exact h.2.1 a b e g, fun a b => by rw [uI_o (by omega)]; exact h.2.2 a b⟩
theorem dX12_emit_0 : decode prog_14_method_34_code 0 = .ok (.aload_n 0, 1) := by decide +kernel
theorem dX12_emit_1 : decode prog_14_method_34_code 1 = .ok (.getfield 16, 3) := by decide +kernel
theorem dX12_emit_4 : decode prog_14_method_34_code 4 = .ok (.aload_n 0, 1) := by decide +kernel
theorem dX12_emit_5 : decode prog_14_method_34_code 5 = .ok (.getfield 153, 3) := by decide +kernel
theorem dX12_emit_8 : decode prog_14_method_34_code 8 = .ok (.bipush 97, 2) := by decide +kernel
theorem dX12_emit_10 : decode prog_14_method_34_code 10 = .ok (.iadd, 1) := by decide +kernel
theorem dX12_emit_11 : decode prog_14_method_34_code 11 = .ok (.iconst 2, 1) := by decide +kernel
theorem dX12_emit_12 : decode prog_14_method_34_code 12 = .ok (.aload_n 0, 1) := by decide +kernel
theorem dX12_emit_13 : decode prog_14_method_34_code 13 = .ok (.getfield 156, 3) := by decide +kernel
theorem dX12_emit_16 : decode prog_14_method_34_code 16 = .ok (.imul, 1) := by decide +kernel
theorem dX12_emit_17 : decode prog_14_method_34_code 17 = .ok (.iadd, 1) := by decide +kernel
theorem dX12_emit_18 : decode prog_14_method_34_code 18 = .ok (.iload_n 1, 1) := by decide +kernel
theorem dX12_emit_19 : decode prog_14_method_34_code 19 = .ok (.iastore, 1) := by decide +kernel
theorem dX12_emit_20 : decode prog_14_method_34_code 20 = .ok (.aload_n 0, 1) := by decide +kernel
theorem dX12_emit_21 : decode prog_14_method_34_code 21 = .ok (.getfield 16, 3) := by decide +kernel
theorem dX12_emit_24 : decode prog_14_method_34_code 24 = .ok (.aload_n 0, 1) := by decide +kernel
theorem dX12_emit_25 : decode prog_14_method_34_code 25 = .ok (.getfield 153, 3) := by decide +kernel
theorem dX12_emit_28 : decode prog_14_method_34_code 28 = .ok (.bipush 97, 2) := by decide +kernel
theorem dX12_emit_30 : decode prog_14_method_34_code 30 = .ok (.iadd, 1) := by decide +kernel
theorem dX12_emit_31 : decode prog_14_method_34_code 31 = .ok (.iconst 2, 1) := by decide +kernel
theorem dX12_emit_32 : decode prog_14_method_34_code 32 = .ok (.aload_n 0, 1) := by decide +kernel
theorem dX12_emit_33 : decode prog_14_method_34_code 33 = .ok (.getfield 156, 3) := by decide +kernel
theorem dX12_emit_36 : decode prog_14_method_34_code 36 = .ok (.imul, 1) := by decide +kernel
theorem dX12_emit_37 : decode prog_14_method_34_code 37 = .ok (.iadd, 1) := by decide +kernel
theorem dX12_emit_38 : decode prog_14_method_34_code 38 = .ok (.iconst 1, 1) := by decide +kernel
theorem dX12_emit_39 : decode prog_14_method_34_code 39 = .ok (.iadd, 1) := by decide +kernel
theorem dX12_emit_40 : decode prog_14_method_34_code 40 = .ok (.iload_n 2, 1) := by decide +kernel
theorem dX12_emit_41 : decode prog_14_method_34_code 41 = .ok (.iastore, 1) := by decide +kernel
theorem dX12_emit_42 : decode prog_14_method_34_code 42 = .ok (.aload_n 0, 1) := by decide +kernel
theorem dX12_emit_43 : decode prog_14_method_34_code 43 = .ok (.dup, 1) := by decide +kernel
theorem dX12_emit_44 : decode prog_14_method_34_code 44 = .ok (.getfield 156, 3) := by decide +kernel
theorem dX12_emit_47 : decode prog_14_method_34_code 47 = .ok (.iconst 1, 1) := by decide +kernel
theorem dX12_emit_48 : decode prog_14_method_34_code 48 = .ok (.iadd, 1) := by decide +kernel
theorem dX12_emit_49 : decode prog_14_method_34_code 49 = .ok (.putfield 156, 3) := by decide +kernel
theorem dX12_emit_52 : decode prog_14_method_34_code 52 = .ok (.return_, 1) := by decide +kernel
theorem sp_X12_emit {o : Nat} {b : List Int} {x op v : Int} (cs : CS S R) (ho : o + 705 ≤ 2820) (hb : b.length < 300) (hx : omp (x / 16384) = op ∧ x % 16384 = v) (hc : CdS I o b) (hp : ∀ J, CdS J o (b ++ [x]) → (∀ a, a ≠ 13 → J 306 a = I 306 a) → Fst o I J → Post none S J R) : Call n 0 0 mX12_emit [.ref (S.2.1 306), .int (iI op), .int (iI v)] S I R Post := by
  obtain ⟨c1, c2, c3⟩ := id hc
  refine Call.of (by decide +kernel) (Nat.le_of_ble_eq_true rfl) ?_
  show WP _ _ _ _ _ 0 [(0, _), (1, _), (2, _)] [] 0 0 _ _ _
  refine x_aload_n dX12_emit_0 rfl ?_
  refine x_getR (b := 309) dX12_emit_1 gf_RX12_16 (k_ob_306 cs) (fun _ _ => rfl) (k_r_306_2 cs) ?_
  refine x_aload_n dX12_emit_4 rfl ?_
  refine x_getIv (z := (o : Int)) dX12_emit_5 gf_RX12_153 (k_ob_306 cs) (fun _ _ => rfl) (by first | exact c3 | exact c2 | (rw [uI_o (by omega)]; exact c3) | (rw [uI_o (by omega)]; exact c2) | (rw [uI_o (by omega), uI_o (by omega)]; exact c2)) ?_
  refine x_bipush dX12_emit_8 (by decide) ?_
  refine x_iadd dX12_emit_10 ?_
  refine x_iconst dX12_emit_11 ?_
  refine x_aload_n dX12_emit_12 rfl ?_
  refine x_getIv (z := (b.length : Int)) dX12_emit_13 gf_RX12_156 (k_ob_306 cs) (fun _ _ => rfl) (by first | exact c3 | exact c2 | (rw [uI_o (by omega)]; exact c3) | (rw [uI_o (by omega)]; exact c2) | (rw [uI_o (by omega), uI_o (by omega)]; exact c2)) ?_
  refine x_imul dX12_emit_16 ?_
  refine x_iadd dX12_emit_17 ?_
  refine x_iload_n dX12_emit_18 rfl ?_
  refine x_iastore dX12_emit_19 (k_ar_309 cs) (by omega) (by omega) ?_
  refine x_aload_n dX12_emit_20 rfl ?_
  refine x_getR (b := 309) dX12_emit_21 gf_RX12_16 (k_ob_306 cs) (fun _ _ => rfl) (k_r_306_2 cs) ?_
  refine x_aload_n dX12_emit_24 rfl ?_
  refine x_getIv (z := (o : Int)) dX12_emit_25 gf_RX12_153 (k_ob_306 cs) (fun _ _ => rfl) (by first | exact c3 | exact c2 | (rw [uI_o (by omega)]; exact c3) | (rw [uI_o (by omega)]; exact c2) | (rw [uI_o (by omega), uI_o (by omega)]; exact c2)) ?_
  refine x_bipush dX12_emit_28 (by decide) ?_
  refine x_iadd dX12_emit_30 ?_
  refine x_iconst dX12_emit_31 ?_
  refine x_aload_n dX12_emit_32 rfl ?_
  refine x_getIv (z := (b.length : Int)) dX12_emit_33 gf_RX12_156 (k_ob_306 cs) (fun _ _ => rfl) (by first | exact c3 | exact c2 | (rw [uI_o (by omega)]; exact c3) | (rw [uI_o (by omega)]; exact c2) | (rw [uI_o (by omega), uI_o (by omega)]; exact c2)) ?_
  refine x_imul dX12_emit_36 ?_
  refine x_iadd dX12_emit_37 ?_
  refine x_iconst dX12_emit_38 ?_
  refine x_iadd dX12_emit_39 ?_
  refine x_iload_n dX12_emit_40 rfl ?_
  refine x_iastore dX12_emit_41 (k_ar_309 cs) (by omega) (by omega) ?_
  refine x_aload_n dX12_emit_42 rfl ?_
  refine x_dup dX12_emit_43 rfl ?_
  refine x_getIv (z := (b.length : Int)) dX12_emit_44 gf_RX12_156 (k_ob_306 cs) (fun _ _ => rfl) (by first | exact c3 | exact c2 | (rw [uI_o (by omega)]; exact c3) | (rw [uI_o (by omega)]; exact c2) | (rw [uI_o (by omega), uI_o (by omega)]; exact c2)) ?_
  refine x_iconst dX12_emit_47 ?_
  refine x_iadd dX12_emit_48 ?_
  refine x_putI dX12_emit_49 gf_RX12_156 (k_ob_306 cs) rfl ?_
  exact x_return dX12_emit_52 rfl (by omega) (by omega) (by
  refine hp _ ⟨fun i hi => ?_, by rw [uI_s, List.length_append, List.length_singleton]; omega, by rw [uI_o (by omega), uI_row (by omega), uI_row (by omega)]; exact c3⟩ (fun a ha => by rw [uI_o (by omega), uI_row (by omega), uI_row (by omega)]) (Fst.u6 (Fst.u9 (Fst.u9 Fst.rf (by omega)) (by omega)) (by omega))
  rw [gd_app i hi, uI_row (by omega)]
  rw [List.length_append, List.length_singleton] at hi
  by_cases hq : i = b.length
  · rw [if_pos hq, uI_o (by omega), uI_x rfl (by omega), uI_x rfl (by omega)]
    exact ⟨hx.1.symm, hx.2.symm⟩
  · rw [if_neg hq, uI_o (by omega), uI_o (by omega), uI_o (by omega), uI_o (by omega)]
    exact c1 i (by omega))
theorem dX12_rank_0 : decode prog_14_method_38_code 0 = .ok (.iload_n 0, 1) := by decide +kernel
theorem dX12_rank_1 : decode prog_14_method_38_code 1 = .ok (.bipush 40, 2) := by decide +kernel
theorem dX12_rank_3 : decode prog_14_method_38_code 3 = .ok (.if_icmp .lt 7, 3) := by decide +kernel
theorem dX12_rank_6 : decode prog_14_method_38_code 6 = .ok (.iconst 0, 1) := by decide +kernel
theorem dX12_rank_7 : decode prog_14_method_38_code 7 = .ok (.goto 75, 3) := by decide +kernel
theorem dX12_rank_10 : decode prog_14_method_38_code 10 = .ok (.iload_n 0, 1) := by decide +kernel
theorem dX12_rank_11 : decode prog_14_method_38_code 11 = .ok (.bipush 22, 2) := by decide +kernel
theorem dX12_rank_13 : decode prog_14_method_38_code 13 = .ok (.if_icmp .ne 7, 3) := by decide +kernel
theorem dX12_rank_16 : decode prog_14_method_38_code 16 = .ok (.iconst 1, 1) := by decide +kernel
theorem dX12_rank_17 : decode prog_14_method_38_code 17 = .ok (.goto 65, 3) := by decide +kernel
theorem dX12_rank_20 : decode prog_14_method_38_code 20 = .ok (.iload_n 0, 1) := by decide +kernel
theorem dX12_rank_21 : decode prog_14_method_38_code 21 = .ok (.bipush 21, 2) := by decide +kernel
theorem dX12_rank_23 : decode prog_14_method_38_code 23 = .ok (.if_icmp .ne 7, 3) := by decide +kernel
theorem dX12_rank_26 : decode prog_14_method_38_code 26 = .ok (.iconst 2, 1) := by decide +kernel
theorem dX12_rank_27 : decode prog_14_method_38_code 27 = .ok (.goto 55, 3) := by decide +kernel
theorem dX12_rank_30 : decode prog_14_method_38_code 30 = .ok (.iload_n 0, 1) := by decide +kernel
theorem dX12_rank_31 : decode prog_14_method_38_code 31 = .ok (.bipush 20, 2) := by decide +kernel
theorem dX12_rank_33 : decode prog_14_method_38_code 33 = .ok (.if_icmp .ne 7, 3) := by decide +kernel
theorem dX12_rank_36 : decode prog_14_method_38_code 36 = .ok (.iconst 3, 1) := by decide +kernel
theorem dX12_rank_37 : decode prog_14_method_38_code 37 = .ok (.goto 45, 3) := by decide +kernel
theorem dX12_rank_40 : decode prog_14_method_38_code 40 = .ok (.iload_n 0, 1) := by decide +kernel
theorem dX12_rank_41 : decode prog_14_method_38_code 41 = .ok (.bipush 10, 2) := by decide +kernel
theorem dX12_rank_43 : decode prog_14_method_38_code 43 = .ok (.if_icmp .lt 7, 3) := by decide +kernel
theorem dX12_rank_46 : decode prog_14_method_38_code 46 = .ok (.iconst 4, 1) := by decide +kernel
theorem dX12_rank_47 : decode prog_14_method_38_code 47 = .ok (.goto 35, 3) := by decide +kernel
theorem dX12_rank_50 : decode prog_14_method_38_code 50 = .ok (.iload_n 0, 1) := by decide +kernel
theorem dX12_rank_51 : decode prog_14_method_38_code 51 = .ok (.iconst 5, 1) := by decide +kernel
theorem dX12_rank_52 : decode prog_14_method_38_code 52 = .ok (.if_icmp .eq 13, 3) := by decide +kernel
theorem dX12_rank_55 : decode prog_14_method_38_code 55 = .ok (.iload_n 0, 1) := by decide +kernel
theorem dX12_rank_56 : decode prog_14_method_38_code 56 = .ok (.iconst 2, 1) := by decide +kernel
theorem dX12_rank_57 : decode prog_14_method_38_code 57 = .ok (.if_icmp .eq 8, 3) := by decide +kernel
theorem dX12_rank_60 : decode prog_14_method_38_code 60 = .ok (.iload_n 0, 1) := by decide +kernel
theorem dX12_rank_61 : decode prog_14_method_38_code 61 = .ok (.iconst 4, 1) := by decide +kernel
theorem dX12_rank_62 : decode prog_14_method_38_code 62 = .ok (.if_icmp .ne 8, 3) := by decide +kernel
theorem dX12_rank_65 : decode prog_14_method_38_code 65 = .ok (.bipush 7, 2) := by decide +kernel
theorem dX12_rank_67 : decode prog_14_method_38_code 67 = .ok (.goto 15, 3) := by decide +kernel
theorem dX12_rank_70 : decode prog_14_method_38_code 70 = .ok (.iload_n 0, 1) := by decide +kernel
theorem dX12_rank_71 : decode prog_14_method_38_code 71 = .ok (.bipush 8, 2) := by decide +kernel
theorem dX12_rank_73 : decode prog_14_method_38_code 73 = .ok (.if_icmp .lt 8, 3) := by decide +kernel
theorem dX12_rank_76 : decode prog_14_method_38_code 76 = .ok (.bipush 6, 2) := by decide +kernel
theorem dX12_rank_78 : decode prog_14_method_38_code 78 = .ok (.goto 4, 3) := by decide +kernel
theorem dX12_rank_81 : decode prog_14_method_38_code 81 = .ok (.iconst 5, 1) := by decide +kernel
theorem dX12_rank_82 : decode prog_14_method_38_code 82 = .ok (.ireturn, 1) := by decide +kernel
theorem sp_X12_rank {x : Int} (hx : Rg x) (hp : Post (some (.int (iI (rk x)))) S I R) : Call n 0 0 mX12_rank [.int (iI x)] S I R Post := by
  refine Call.of (by decide +kernel) (Nat.le_of_ble_eq_true rfl) ?_
  show WP _ _ _ _ _ 0 [(0, _)] [] 0 0 _ _ _
  refine x_iload_n dX12_rank_0 rfl ?_
  refine x_bipush dX12_rank_1 (by decide) ?_
  refine x_icmp_lt 10 dX12_rank_3 (by decide) ⟨(by omega), (by omega)⟩ (fun w3 => ?_) (fun w3 => ?_)
  · refine x_iload_n dX12_rank_10 rfl ?_
    refine x_bipush dX12_rank_11 (by decide) ?_
    refine x_icmp_ne 20 dX12_rank_13 (by decide) ⟨(by omega), (by omega)⟩ (fun w13 => ?_) (fun w13 => ?_)
    · refine x_iload_n dX12_rank_20 rfl ?_
      refine x_bipush dX12_rank_21 (by decide) ?_
      refine x_icmp_ne 30 dX12_rank_23 (by decide) ⟨(by omega), (by omega)⟩ (fun w23 => ?_) (fun w23 => ?_)
      · refine x_iload_n dX12_rank_30 rfl ?_
        refine x_bipush dX12_rank_31 (by decide) ?_
        refine x_icmp_ne 40 dX12_rank_33 (by decide) ⟨(by omega), (by omega)⟩ (fun w33 => ?_) (fun w33 => ?_)
        · refine x_iload_n dX12_rank_40 rfl ?_
          refine x_bipush dX12_rank_41 (by decide) ?_
          refine x_icmp_lt 50 dX12_rank_43 (by decide) ⟨(by omega), (by omega)⟩ (fun w43 => ?_) (fun w43 => ?_)
          · refine x_iload_n dX12_rank_50 rfl ?_
            refine x_iconst dX12_rank_51 ?_
            refine x_icmp_eq 65 dX12_rank_52 (by decide) ⟨(by omega), (by omega)⟩ (fun w52 => ?_) (fun w52 => ?_)
            · refine x_bipush dX12_rank_65 (by decide) ?_
              refine x_goto 82 dX12_rank_67 (by decide) ?_
              exact x_ireturn dX12_rank_82 rfl (by omega) (by omega) (by
  have e : ∀ y : Int, rk x = y → Post (some (.int (iI y))) S I R := fun y hy => by rw [← hy]; exact hp
  refine e _ ?_
  unfold rk
  first
  | rw [if_pos (by omega)]
  | rw [if_neg (by omega), if_pos (by omega)]
  | rw [if_neg (by omega), if_neg (by omega), if_pos (by omega)]
  | rw [if_neg (by omega), if_neg (by omega), if_neg (by omega), if_pos (by omega)]
  | rw [if_neg (by omega), if_neg (by omega), if_neg (by omega), if_neg (by omega), if_pos (by omega)]
  | rw [if_neg (by omega), if_neg (by omega), if_neg (by omega), if_neg (by omega), if_neg (by omega), if_pos (by omega)]
  | rw [if_neg (by omega), if_neg (by omega), if_neg (by omega), if_neg (by omega), if_neg (by omega), if_neg (by omega), if_pos (by omega)]
  | rw [if_neg (by omega), if_neg (by omega), if_neg (by omega), if_neg (by omega), if_neg (by omega), if_neg (by omega), if_neg (by omega)])
            · refine x_iload_n dX12_rank_55 rfl ?_
              refine x_iconst dX12_rank_56 ?_
              refine x_icmp_eq 65 dX12_rank_57 (by decide) ⟨(by omega), (by omega)⟩ (fun w57 => ?_) (fun w57 => ?_)
              · refine x_bipush dX12_rank_65 (by decide) ?_
                refine x_goto 82 dX12_rank_67 (by decide) ?_
                exact x_ireturn dX12_rank_82 rfl (by omega) (by omega) (by
  have e : ∀ y : Int, rk x = y → Post (some (.int (iI y))) S I R := fun y hy => by rw [← hy]; exact hp
  refine e _ ?_
  unfold rk
  first
  | rw [if_pos (by omega)]
  | rw [if_neg (by omega), if_pos (by omega)]
  | rw [if_neg (by omega), if_neg (by omega), if_pos (by omega)]
  | rw [if_neg (by omega), if_neg (by omega), if_neg (by omega), if_pos (by omega)]
  | rw [if_neg (by omega), if_neg (by omega), if_neg (by omega), if_neg (by omega), if_pos (by omega)]
  | rw [if_neg (by omega), if_neg (by omega), if_neg (by omega), if_neg (by omega), if_neg (by omega), if_pos (by omega)]
  | rw [if_neg (by omega), if_neg (by omega), if_neg (by omega), if_neg (by omega), if_neg (by omega), if_neg (by omega), if_pos (by omega)]
  | rw [if_neg (by omega), if_neg (by omega), if_neg (by omega), if_neg (by omega), if_neg (by omega), if_neg (by omega), if_neg (by omega)])
              · refine x_iload_n dX12_rank_60 rfl ?_
                refine x_iconst dX12_rank_61 ?_
                refine x_icmp_ne 70 dX12_rank_62 (by decide) ⟨(by omega), (by omega)⟩ (fun w62 => ?_) (fun w62 => ?_)
                · refine x_iload_n dX12_rank_70 rfl ?_
                  refine x_bipush dX12_rank_71 (by decide) ?_
                  refine x_icmp_lt 81 dX12_rank_73 (by decide) ⟨(by omega), (by omega)⟩ (fun w73 => ?_) (fun w73 => ?_)
                  · refine x_iconst dX12_rank_81 ?_
                    exact x_ireturn dX12_rank_82 rfl (by omega) (by omega) (by
  have e : ∀ y : Int, rk x = y → Post (some (.int (iI y))) S I R := fun y hy => by rw [← hy]; exact hp
  refine e _ ?_
  unfold rk
  first
  | rw [if_pos (by omega)]
  | rw [if_neg (by omega), if_pos (by omega)]
  | rw [if_neg (by omega), if_neg (by omega), if_pos (by omega)]
  | rw [if_neg (by omega), if_neg (by omega), if_neg (by omega), if_pos (by omega)]
  | rw [if_neg (by omega), if_neg (by omega), if_neg (by omega), if_neg (by omega), if_pos (by omega)]
  | rw [if_neg (by omega), if_neg (by omega), if_neg (by omega), if_neg (by omega), if_neg (by omega), if_pos (by omega)]
  | rw [if_neg (by omega), if_neg (by omega), if_neg (by omega), if_neg (by omega), if_neg (by omega), if_neg (by omega), if_pos (by omega)]
  | rw [if_neg (by omega), if_neg (by omega), if_neg (by omega), if_neg (by omega), if_neg (by omega), if_neg (by omega), if_neg (by omega)])
                  · refine x_bipush dX12_rank_76 (by decide) ?_
                    refine x_goto 82 dX12_rank_78 (by decide) ?_
                    exact x_ireturn dX12_rank_82 rfl (by omega) (by omega) (by
  have e : ∀ y : Int, rk x = y → Post (some (.int (iI y))) S I R := fun y hy => by rw [← hy]; exact hp
  refine e _ ?_
  unfold rk
  first
  | rw [if_pos (by omega)]
  | rw [if_neg (by omega), if_pos (by omega)]
  | rw [if_neg (by omega), if_neg (by omega), if_pos (by omega)]
  | rw [if_neg (by omega), if_neg (by omega), if_neg (by omega), if_pos (by omega)]
  | rw [if_neg (by omega), if_neg (by omega), if_neg (by omega), if_neg (by omega), if_pos (by omega)]
  | rw [if_neg (by omega), if_neg (by omega), if_neg (by omega), if_neg (by omega), if_neg (by omega), if_pos (by omega)]
  | rw [if_neg (by omega), if_neg (by omega), if_neg (by omega), if_neg (by omega), if_neg (by omega), if_neg (by omega), if_pos (by omega)]
  | rw [if_neg (by omega), if_neg (by omega), if_neg (by omega), if_neg (by omega), if_neg (by omega), if_neg (by omega), if_neg (by omega)])
                · refine x_bipush dX12_rank_65 (by decide) ?_
                  refine x_goto 82 dX12_rank_67 (by decide) ?_
                  exact x_ireturn dX12_rank_82 rfl (by omega) (by omega) (by
  have e : ∀ y : Int, rk x = y → Post (some (.int (iI y))) S I R := fun y hy => by rw [← hy]; exact hp
  refine e _ ?_
  unfold rk
  first
  | rw [if_pos (by omega)]
  | rw [if_neg (by omega), if_pos (by omega)]
  | rw [if_neg (by omega), if_neg (by omega), if_pos (by omega)]
  | rw [if_neg (by omega), if_neg (by omega), if_neg (by omega), if_pos (by omega)]
  | rw [if_neg (by omega), if_neg (by omega), if_neg (by omega), if_neg (by omega), if_pos (by omega)]
  | rw [if_neg (by omega), if_neg (by omega), if_neg (by omega), if_neg (by omega), if_neg (by omega), if_pos (by omega)]
  | rw [if_neg (by omega), if_neg (by omega), if_neg (by omega), if_neg (by omega), if_neg (by omega), if_neg (by omega), if_pos (by omega)]
  | rw [if_neg (by omega), if_neg (by omega), if_neg (by omega), if_neg (by omega), if_neg (by omega), if_neg (by omega), if_neg (by omega)])
          · refine x_iconst dX12_rank_46 ?_
            refine x_goto 82 dX12_rank_47 (by decide) ?_
            exact x_ireturn dX12_rank_82 rfl (by omega) (by omega) (by
  have e : ∀ y : Int, rk x = y → Post (some (.int (iI y))) S I R := fun y hy => by rw [← hy]; exact hp
  refine e _ ?_
  unfold rk
  first
  | rw [if_pos (by omega)]
  | rw [if_neg (by omega), if_pos (by omega)]
  | rw [if_neg (by omega), if_neg (by omega), if_pos (by omega)]
  | rw [if_neg (by omega), if_neg (by omega), if_neg (by omega), if_pos (by omega)]
  | rw [if_neg (by omega), if_neg (by omega), if_neg (by omega), if_neg (by omega), if_pos (by omega)]
  | rw [if_neg (by omega), if_neg (by omega), if_neg (by omega), if_neg (by omega), if_neg (by omega), if_pos (by omega)]
  | rw [if_neg (by omega), if_neg (by omega), if_neg (by omega), if_neg (by omega), if_neg (by omega), if_neg (by omega), if_pos (by omega)]
  | rw [if_neg (by omega), if_neg (by omega), if_neg (by omega), if_neg (by omega), if_neg (by omega), if_neg (by omega), if_neg (by omega)])
        · refine x_iconst dX12_rank_36 ?_
          refine x_goto 82 dX12_rank_37 (by decide) ?_
          exact x_ireturn dX12_rank_82 rfl (by omega) (by omega) (by
  have e : ∀ y : Int, rk x = y → Post (some (.int (iI y))) S I R := fun y hy => by rw [← hy]; exact hp
  refine e _ ?_
  unfold rk
  first
  | rw [if_pos (by omega)]
  | rw [if_neg (by omega), if_pos (by omega)]
  | rw [if_neg (by omega), if_neg (by omega), if_pos (by omega)]
  | rw [if_neg (by omega), if_neg (by omega), if_neg (by omega), if_pos (by omega)]
  | rw [if_neg (by omega), if_neg (by omega), if_neg (by omega), if_neg (by omega), if_pos (by omega)]
  | rw [if_neg (by omega), if_neg (by omega), if_neg (by omega), if_neg (by omega), if_neg (by omega), if_pos (by omega)]
  | rw [if_neg (by omega), if_neg (by omega), if_neg (by omega), if_neg (by omega), if_neg (by omega), if_neg (by omega), if_pos (by omega)]
  | rw [if_neg (by omega), if_neg (by omega), if_neg (by omega), if_neg (by omega), if_neg (by omega), if_neg (by omega), if_neg (by omega)])
      · refine x_iconst dX12_rank_26 ?_
        refine x_goto 82 dX12_rank_27 (by decide) ?_
        exact x_ireturn dX12_rank_82 rfl (by omega) (by omega) (by
  have e : ∀ y : Int, rk x = y → Post (some (.int (iI y))) S I R := fun y hy => by rw [← hy]; exact hp
  refine e _ ?_
  unfold rk
  first
  | rw [if_pos (by omega)]
  | rw [if_neg (by omega), if_pos (by omega)]
  | rw [if_neg (by omega), if_neg (by omega), if_pos (by omega)]
  | rw [if_neg (by omega), if_neg (by omega), if_neg (by omega), if_pos (by omega)]
  | rw [if_neg (by omega), if_neg (by omega), if_neg (by omega), if_neg (by omega), if_pos (by omega)]
  | rw [if_neg (by omega), if_neg (by omega), if_neg (by omega), if_neg (by omega), if_neg (by omega), if_pos (by omega)]
  | rw [if_neg (by omega), if_neg (by omega), if_neg (by omega), if_neg (by omega), if_neg (by omega), if_neg (by omega), if_pos (by omega)]
  | rw [if_neg (by omega), if_neg (by omega), if_neg (by omega), if_neg (by omega), if_neg (by omega), if_neg (by omega), if_neg (by omega)])
    · refine x_iconst dX12_rank_16 ?_
      refine x_goto 82 dX12_rank_17 (by decide) ?_
      exact x_ireturn dX12_rank_82 rfl (by omega) (by omega) (by
  have e : ∀ y : Int, rk x = y → Post (some (.int (iI y))) S I R := fun y hy => by rw [← hy]; exact hp
  refine e _ ?_
  unfold rk
  first
  | rw [if_pos (by omega)]
  | rw [if_neg (by omega), if_pos (by omega)]
  | rw [if_neg (by omega), if_neg (by omega), if_pos (by omega)]
  | rw [if_neg (by omega), if_neg (by omega), if_neg (by omega), if_pos (by omega)]
  | rw [if_neg (by omega), if_neg (by omega), if_neg (by omega), if_neg (by omega), if_pos (by omega)]
  | rw [if_neg (by omega), if_neg (by omega), if_neg (by omega), if_neg (by omega), if_neg (by omega), if_pos (by omega)]
  | rw [if_neg (by omega), if_neg (by omega), if_neg (by omega), if_neg (by omega), if_neg (by omega), if_neg (by omega), if_pos (by omega)]
  | rw [if_neg (by omega), if_neg (by omega), if_neg (by omega), if_neg (by omega), if_neg (by omega), if_neg (by omega), if_neg (by omega)])
  · refine x_iconst dX12_rank_6 ?_
    refine x_goto 82 dX12_rank_7 (by decide) ?_
    exact x_ireturn dX12_rank_82 rfl (by omega) (by omega) (by
  have e : ∀ y : Int, rk x = y → Post (some (.int (iI y))) S I R := fun y hy => by rw [← hy]; exact hp
  refine e _ ?_
  unfold rk
  first
  | rw [if_pos (by omega)]
  | rw [if_neg (by omega), if_pos (by omega)]
  | rw [if_neg (by omega), if_neg (by omega), if_pos (by omega)]
  | rw [if_neg (by omega), if_neg (by omega), if_neg (by omega), if_pos (by omega)]
  | rw [if_neg (by omega), if_neg (by omega), if_neg (by omega), if_neg (by omega), if_pos (by omega)]
  | rw [if_neg (by omega), if_neg (by omega), if_neg (by omega), if_neg (by omega), if_neg (by omega), if_pos (by omega)]
  | rw [if_neg (by omega), if_neg (by omega), if_neg (by omega), if_neg (by omega), if_neg (by omega), if_neg (by omega), if_pos (by omega)]
  | rw [if_neg (by omega), if_neg (by omega), if_neg (by omega), if_neg (by omega), if_neg (by omega), if_neg (by omega), if_neg (by omega)])
theorem dX12_settle_0 : decode prog_14_method_39_code 0 = .ok (.aload_n 0, 1) := by decide +kernel
theorem dX12_settle_1 : decode prog_14_method_39_code 1 = .ok (.getfield 166, 3) := by decide +kernel
theorem dX12_settle_4 : decode prog_14_method_39_code 4 = .ok (.ifCond .le 89, 3) := by decide +kernel
theorem dX12_settle_7 : decode prog_14_method_39_code 7 = .ok (.aload_n 0, 1) := by decide +kernel
theorem dX12_settle_8 : decode prog_14_method_39_code 8 = .ok (.getfield 29, 3) := by decide +kernel
theorem dX12_settle_11 : decode prog_14_method_39_code 11 = .ok (.aload_n 0, 1) := by decide +kernel
theorem dX12_settle_12 : decode prog_14_method_39_code 12 = .ok (.getfield 166, 3) := by decide +kernel
theorem dX12_settle_15 : decode prog_14_method_39_code 15 = .ok (.iconst 1, 1) := by decide +kernel
theorem dX12_settle_16 : decode prog_14_method_39_code 16 = .ok (.isub, 1) := by decide +kernel
theorem dX12_settle_17 : decode prog_14_method_39_code 17 = .ok (.iaload, 1) := by decide +kernel
theorem dX12_settle_18 : decode prog_14_method_39_code 18 = .ok (.invokestatic 169, 3) := by decide +kernel
theorem dX12_settle_21 : decode prog_14_method_39_code 21 = .ok (.iload_n 1, 1) := by decide +kernel
theorem dX12_settle_22 : decode prog_14_method_39_code 22 = .ok (.if_icmp .lt 71, 3) := by decide +kernel
theorem dX12_settle_25 : decode prog_14_method_39_code 25 = .ok (.aload_n 0, 1) := by decide +kernel
theorem dX12_settle_26 : decode prog_14_method_39_code 26 = .ok (.dup, 1) := by decide +kernel
theorem dX12_settle_27 : decode prog_14_method_39_code 27 = .ok (.getfield 166, 3) := by decide +kernel
theorem dX12_settle_30 : decode prog_14_method_39_code 30 = .ok (.iconst 1, 1) := by decide +kernel
theorem dX12_settle_31 : decode prog_14_method_39_code 31 = .ok (.isub, 1) := by decide +kernel
theorem dX12_settle_32 : decode prog_14_method_39_code 32 = .ok (.putfield 166, 3) := by decide +kernel
theorem dX12_settle_35 : decode prog_14_method_39_code 35 = .ok (.aload_n 0, 1) := by decide +kernel
theorem dX12_settle_36 : decode prog_14_method_39_code 36 = .ok (.aload_n 0, 1) := by decide +kernel
theorem dX12_settle_37 : decode prog_14_method_39_code 37 = .ok (.getfield 29, 3) := by decide +kernel
theorem dX12_settle_40 : decode prog_14_method_39_code 40 = .ok (.aload_n 0, 1) := by decide +kernel
theorem dX12_settle_41 : decode prog_14_method_39_code 41 = .ok (.getfield 166, 3) := by decide +kernel
theorem dX12_settle_44 : decode prog_14_method_39_code 44 = .ok (.iaload, 1) := by decide +kernel
theorem dX12_settle_45 : decode prog_14_method_39_code 45 = .ok (.iconst 0, 1) := by decide +kernel
theorem dX12_settle_46 : decode prog_14_method_39_code 46 = .ok (.invokevirtual 172, 3) := by decide +kernel
theorem dX12_settle_49 : decode prog_14_method_39_code 49 = .ok (.aload_n 0, 1) := by decide +kernel
theorem dX12_settle_50 : decode prog_14_method_39_code 50 = .ok (.getfield 29, 3) := by decide +kernel
theorem dX12_settle_53 : decode prog_14_method_39_code 53 = .ok (.aload_n 0, 1) := by decide +kernel
theorem dX12_settle_54 : decode prog_14_method_39_code 54 = .ok (.getfield 166, 3) := by decide +kernel
theorem dX12_settle_57 : decode prog_14_method_39_code 57 = .ok (.iaload, 1) := by decide +kernel
theorem dX12_settle_58 : decode prog_14_method_39_code 58 = .ok (.invokestatic 169, 3) := by decide +kernel
theorem dX12_settle_61 : decode prog_14_method_39_code 61 = .ok (.bipush 7, 2) := by decide +kernel
theorem dX12_settle_63 : decode prog_14_method_39_code 63 = .ok (.if_icmp .eq 17, 3) := by decide +kernel
theorem dX12_settle_66 : decode prog_14_method_39_code 66 = .ok (.aload_n 0, 1) := by decide +kernel
theorem dX12_settle_67 : decode prog_14_method_39_code 67 = .ok (.getfield 29, 3) := by decide +kernel
theorem dX12_settle_70 : decode prog_14_method_39_code 70 = .ok (.aload_n 0, 1) := by decide +kernel
theorem dX12_settle_71 : decode prog_14_method_39_code 71 = .ok (.getfield 166, 3) := by decide +kernel
theorem dX12_settle_74 : decode prog_14_method_39_code 74 = .ok (.iaload, 1) := by decide +kernel
theorem dX12_settle_75 : decode prog_14_method_39_code 75 = .ok (.bipush 20, 2) := by decide +kernel
theorem dX12_settle_77 : decode prog_14_method_39_code 77 = .ok (.if_icmp .ne (-77), 3) := by decide +kernel
theorem dX12_settle_80 : decode prog_14_method_39_code 80 = .ok (.aload_n 0, 1) := by decide +kernel
theorem dX12_settle_81 : decode prog_14_method_39_code 81 = .ok (.dup, 1) := by decide +kernel
theorem dX12_settle_82 : decode prog_14_method_39_code 82 = .ok (.getfield 176, 3) := by decide +kernel
theorem dX12_settle_85 : decode prog_14_method_39_code 85 = .ok (.iconst 1, 1) := by decide +kernel
theorem dX12_settle_86 : decode prog_14_method_39_code 86 = .ok (.isub, 1) := by decide +kernel
theorem dX12_settle_87 : decode prog_14_method_39_code 87 = .ok (.putfield 176, 3) := by decide +kernel
theorem dX12_settle_90 : decode prog_14_method_39_code 90 = .ok (.goto (-90), 3) := by decide +kernel
theorem dX12_settle_93 : decode prog_14_method_39_code 93 = .ok (.return_, 1) := by decide +kernel
theorem lp_settle {g : Int} {o : Nat} {q0 b0 : List Int} (cs : CS S R) (hn : 1 ≤ n) (hg : 1 ≤ g ∧ g ≤ 7) (ho : o + 705 ≤ 2820) (hp : ∀ J, PlS J q0 → CdS J o b0 → Fst o I J → Post none S J R) : ∀ (p b : List Int) (J : CI), PlS J p → CdS J o b → okP p → b.length + p.length ≤ 300 → p.length ≤ 160 → Fst o I J → stl g p b = (q0, b0) → WP n 0 0 mX12_settle Post 0 [(0, .ref (S.2.1 306)), (1, .int (iI g))] [] 0 0 S J R := by
  intro p
  induction p with
  | nil =>
    intro b J hP hC hk hl hl2 hF he
    obtain ⟨p1, p2, p3⟩ := id hP
    have p2' : J 306 16 = 0 := p2
    obtain ⟨rfl, rfl⟩ : [] = q0 ∧ b = b0 := by have h := he; simp only [stl, Prod.mk.injEq] at h; exact h
    refine x_aload_n dX12_settle_0 rfl ?_
    refine x_getI dX12_settle_1 gf_RX12_166 (k_ob_306 cs) (fun _ _ => rfl) ?_
    refine x_if_le 93 dX12_settle_4 (by decide) (by omega) (fun w4 => ?_) (fun w4 => ?_)
    · exact x_return dX12_settle_93 rfl (by omega) (by omega) (hp _ hP hC hF)
    · exfalso; omega
  | cons x p ih =>
    intro b J hP hC hk hl hl2 hF he
    obtain ⟨⟨p0, p1⟩, p2, p3⟩ := id hP
    rw [List.length_cons] at p2 hl hl2
    obtain ⟨k1, k2, k3⟩ := hk
    have hrb := rk_b x
    have hom := fun h => omp_ivm k2 (rk_40 (o := x) h)
    refine x_aload_n dX12_settle_0 rfl ?_
    refine x_getIv (z := ((p.length : Int) + 1)) dX12_settle_1 gf_RX12_166 (k_ob_306 cs) (fun _ _ => rfl) (by first | exact p2 | (rw [uI_s]; omega) | (rw [f46 16 (by omega), uI_s]; omega) | (rw [f46 17 (by omega), uI_o (by omega)]; exact p3)) ?_
    refine x_if_le 93 dX12_settle_4 (by decide) (by omega) (fun w4 => ?_) (fun w4 => ?_)
    · exact x_return dX12_settle_93 rfl (by omega) (by omega) (by
        first
        | (exfalso; omega)
        | (rw [stl_no (by omega)] at he
           obtain ⟨h1, h2⟩ := Prod.mk.inj he
           subst h1
           subst h2
           exact hp _ hP hC hF))
    · refine x_aload_n dX12_settle_7 rfl ?_
      refine x_getR (b := 311) dX12_settle_8 gf_RX12_29 (k_ob_306 cs) (fun _ _ => rfl) (k_r_306_15 cs) ?_
      refine x_aload_n dX12_settle_11 rfl ?_
      refine x_getIv (z := ((p.length : Int) + 1)) dX12_settle_12 gf_RX12_166 (k_ob_306 cs) (fun _ _ => rfl) (by first | exact p2 | (rw [uI_s]; omega) | (rw [f46 16 (by omega), uI_s]; omega) | (rw [f46 17 (by omega), uI_o (by omega)]; exact p3)) ?_
      refine x_iconst dX12_settle_15 ?_
      refine x_isub dX12_settle_16 ?_
      refine x_iaload dX12_settle_17 (k_ar_311 cs) (by omega) (by omega) ?_
      rw [show J 311 (((p.length : Int) + 1 - 1).toNat) = x by rw [show (((p.length : Int) + 1 - 1).toNat) = p.length by omega]; exact p0]
      refine x_callS1 (mc1 := 0) (ms1 := 0) dX12_settle_18 cv_RX12_169 (Nat.le_of_ble_eq_true rfl) (n1 := n - 1) (by omega) (by omega) (by omega) ?_
      refine sp_X12_rank (by omega) ?_
      refine x_iload_n dX12_settle_21 rfl ?_
      refine x_icmp_lt 93 dX12_settle_22 (by decide) ⟨(by omega), (by omega)⟩ (fun w22 => ?_) (fun w22 => ?_)
      · exact x_return dX12_settle_93 rfl (by omega) (by omega) (by
          first
          | (exfalso; omega)
          | (rw [stl_no (by omega)] at he
             obtain ⟨h1, h2⟩ := Prod.mk.inj he
             subst h1
             subst h2
             exact hp _ hP hC hF))
      · refine x_aload_n dX12_settle_25 rfl ?_
        refine x_dup dX12_settle_26 rfl ?_
        refine x_getIv (z := ((p.length : Int) + 1)) dX12_settle_27 gf_RX12_166 (k_ob_306 cs) (fun _ _ => rfl) (by first | exact p2 | (rw [uI_s]; omega) | (rw [f46 16 (by omega), uI_s]; omega) | (rw [f46 17 (by omega), uI_o (by omega)]; exact p3)) ?_
        refine x_iconst dX12_settle_30 ?_
        refine x_isub dX12_settle_31 ?_
        refine x_putI dX12_settle_32 gf_RX12_166 (k_ob_306 cs) rfl ?_
        refine x_aload_n dX12_settle_35 rfl ?_
        refine x_aload_n dX12_settle_36 rfl ?_
        refine x_getR (b := 311) dX12_settle_37 gf_RX12_29 (k_ob_306 cs) (fun _ _ => rfl) (k_r_306_15 cs) ?_
        refine x_aload_n dX12_settle_40 rfl ?_
        refine x_getIv (z := (p.length : Int)) dX12_settle_41 gf_RX12_166 (k_ob_306 cs) (fun _ _ => rfl) (by first | exact p2 | (rw [uI_s]; omega) | (rw [f46 16 (by omega), uI_s]; omega) | (rw [f46 17 (by omega), uI_o (by omega)]; exact p3)) ?_
        refine x_iaload dX12_settle_44 (k_ar_311 cs) (by omega) (by omega) ?_
        rw [show uI J 306 16 ((p.length : Int) + 1 - 1) 311 (((p.length : Int)).toNat) = x by rw [uI_row (by omega), show (((p.length : Int)).toNat) = p.length by omega]; exact p0]
        refine x_iconst dX12_settle_45 ?_
        refine x_callV2 (mc1 := 0) (ms1 := 0) dX12_settle_46 cv_RX12_172 (ci := 12) (k_ob_306 cs) rfl (Nat.le_of_ble_eq_true rfl) (n1 := n - 1) (by omega) (by omega) (by omega) ?_
        have hom2 := hom (by omega)
        refine sp_X12_emit (o := o) (b := b) (x := ivm x * 16384) (op := x) (v := 0) cs ho (by omega) ⟨by rw [show ivm x * 16384 / 16384 = ivm x by omega]; exact hom2.1, by omega⟩ ⟨by rw [uI_row (by omega)]; exact hC.1, by rw [uI_o (by omega)]; exact hC.2.1, by rw [uI_o (by omega)]; exact hC.2.2⟩ (fun J46 c46 f46 g46 => ?_)
        refine x_aload_n dX12_settle_49 rfl ?_
        refine x_getR (b := 311) dX12_settle_50 gf_RX12_29 (k_ob_306 cs) (fun _ _ => rfl) (k_r_306_15 cs) ?_
        refine x_aload_n dX12_settle_53 rfl ?_
        refine x_getIv (z := (p.length : Int)) dX12_settle_54 gf_RX12_166 (k_ob_306 cs) (fun _ _ => rfl) (by first | exact p2 | (rw [uI_s]; omega) | (rw [f46 16 (by omega), uI_s]; omega) | (rw [f46 17 (by omega), uI_o (by omega)]; exact p3)) ?_
        refine x_iaload dX12_settle_57 (k_ar_311 cs) (by omega) (by omega) ?_
        rw [show J46 311 (((p.length : Int)).toNat) = x by rw [g46.1 311 (by omega) (by omega), uI_row (by omega), show (((p.length : Int)).toNat) = p.length by omega]; exact p0]
        refine x_callS1 (mc1 := 0) (ms1 := 0) dX12_settle_58 cv_RX12_169 (Nat.le_of_ble_eq_true rfl) (n1 := n - 1) (by omega) (by omega) (by omega) ?_
        refine sp_X12_rank (by omega) ?_
        refine x_bipush dX12_settle_61 (by decide) ?_
        refine x_icmp_eq 80 dX12_settle_63 (by decide) ⟨(by omega), (by omega)⟩ (fun w63 => ?_) (fun w63 => ?_)
        · refine x_aload_n dX12_settle_80 rfl ?_
          refine x_dup dX12_settle_81 rfl ?_
          refine x_getIv (z := (nOp (x :: p) : Int)) dX12_settle_82 gf_RX12_176 (k_ob_306 cs) (fun _ _ => rfl) (by first | exact p2 | (rw [uI_s]; omega) | (rw [f46 16 (by omega), uI_s]; omega) | (rw [f46 17 (by omega), uI_o (by omega)]; exact p3)) ?_
          refine x_iconst dX12_settle_85 ?_
          refine x_isub dX12_settle_86 ?_
          refine x_putI dX12_settle_87 gf_RX12_176 (k_ob_306 cs) rfl ?_
          refine x_goto 0 dX12_settle_90 (by decide) ?_
          refine x_sub [0, 1] rfl ?_
          rw [stl_go (by omega)] at he
          first
          | exact ih _ _ ⟨PlA.w p1 (fun i hi => by rw [g46.1 311 (by omega) (by omega), uI_row (by omega)]), by rw [f46 16 (by omega), uI_s]; omega, by rw [f46 17 (by omega), uI_o (by omega), p3, nOp_n (decide_eq_false (by have := rk_40 (o := x) (by omega); omega))]⟩ c46 k1 (by rw [List.length_append, List.length_singleton]; omega) (by omega) (Fst.tr (Fst.u6 hF (by omega)) g46) he
          | exact ih _ _ ⟨PlA.w p1 (fun i hi => by rw [uI_row (by omega), g46.1 311 (by omega) (by omega), uI_row (by omega)]), by rw [uI_o (by omega), f46 16 (by omega), uI_s]; omega, by rw [uI_s, nOp_c (decide_eq_true (by omega))]; omega⟩ ⟨by rw [uI_row (by omega)]; exact c46.1, by rw [uI_o (by omega)]; exact c46.2.1, by rw [uI_o (by omega)]; exact c46.2.2⟩ k1 (by rw [List.length_append, List.length_singleton]; omega) (by omega) (Fst.u6 (Fst.tr (Fst.u6 hF (by omega)) g46) (by omega)) he
        · refine x_aload_n dX12_settle_66 rfl ?_
          refine x_getR (b := 311) dX12_settle_67 gf_RX12_29 (k_ob_306 cs) (fun _ _ => rfl) (k_r_306_15 cs) ?_
          refine x_aload_n dX12_settle_70 rfl ?_
          refine x_getIv (z := (p.length : Int)) dX12_settle_71 gf_RX12_166 (k_ob_306 cs) (fun _ _ => rfl) (by first | exact p2 | (rw [uI_s]; omega) | (rw [f46 16 (by omega), uI_s]; omega) | (rw [f46 17 (by omega), uI_o (by omega)]; exact p3)) ?_
          refine x_iaload dX12_settle_74 (k_ar_311 cs) (by omega) (by omega) ?_
          rw [show J46 311 (((p.length : Int)).toNat) = x by rw [g46.1 311 (by omega) (by omega), uI_row (by omega), show (((p.length : Int)).toNat) = p.length by omega]; exact p0]
          refine x_bipush dX12_settle_75 (by decide) ?_
          refine x_icmp_ne 0 dX12_settle_77 (by decide) ⟨(by omega), (by omega)⟩ (fun w77 => ?_) (fun w77 => ?_)
          · refine x_sub [0, 1] rfl ?_
            rw [stl_go (by omega)] at he
            first
            | exact ih _ _ ⟨PlA.w p1 (fun i hi => by rw [g46.1 311 (by omega) (by omega), uI_row (by omega)]), by rw [f46 16 (by omega), uI_s]; omega, by rw [f46 17 (by omega), uI_o (by omega), p3, nOp_n (decide_eq_false (by have := rk_40 (o := x) (by omega); omega))]⟩ c46 k1 (by rw [List.length_append, List.length_singleton]; omega) (by omega) (Fst.tr (Fst.u6 hF (by omega)) g46) he
            | exact ih _ _ ⟨PlA.w p1 (fun i hi => by rw [uI_row (by omega), g46.1 311 (by omega) (by omega), uI_row (by omega)]), by rw [uI_o (by omega), f46 16 (by omega), uI_s]; omega, by rw [uI_s, nOp_c (decide_eq_true (by omega))]; omega⟩ ⟨by rw [uI_row (by omega)]; exact c46.1, by rw [uI_o (by omega)]; exact c46.2.1, by rw [uI_o (by omega)]; exact c46.2.2⟩ k1 (by rw [List.length_append, List.length_singleton]; omega) (by omega) (Fst.u6 (Fst.tr (Fst.u6 hF (by omega)) g46) (by omega)) he
          · refine x_aload_n dX12_settle_80 rfl ?_
            refine x_dup dX12_settle_81 rfl ?_
            refine x_getIv (z := (nOp (x :: p) : Int)) dX12_settle_82 gf_RX12_176 (k_ob_306 cs) (fun _ _ => rfl) (by first | exact p2 | (rw [uI_s]; omega) | (rw [f46 16 (by omega), uI_s]; omega) | (rw [f46 17 (by omega), uI_o (by omega)]; exact p3)) ?_
            refine x_iconst dX12_settle_85 ?_
            refine x_isub dX12_settle_86 ?_
            refine x_putI dX12_settle_87 gf_RX12_176 (k_ob_306 cs) rfl ?_
            refine x_goto 0 dX12_settle_90 (by decide) ?_
            refine x_sub [0, 1] rfl ?_
            rw [stl_go (by omega)] at he
            first
            | exact ih _ _ ⟨PlA.w p1 (fun i hi => by rw [g46.1 311 (by omega) (by omega), uI_row (by omega)]), by rw [f46 16 (by omega), uI_s]; omega, by rw [f46 17 (by omega), uI_o (by omega), p3, nOp_n (decide_eq_false (by have := rk_40 (o := x) (by omega); omega))]⟩ c46 k1 (by rw [List.length_append, List.length_singleton]; omega) (by omega) (Fst.tr (Fst.u6 hF (by omega)) g46) he
            | exact ih _ _ ⟨PlA.w p1 (fun i hi => by rw [uI_row (by omega), g46.1 311 (by omega) (by omega), uI_row (by omega)]), by rw [uI_o (by omega), f46 16 (by omega), uI_s]; omega, by rw [uI_s, nOp_c (decide_eq_true (by omega))]; omega⟩ ⟨by rw [uI_row (by omega)]; exact c46.1, by rw [uI_o (by omega)]; exact c46.2.1, by rw [uI_o (by omega)]; exact c46.2.2⟩ k1 (by rw [List.length_append, List.length_singleton]; omega) (by omega) (Fst.u6 (Fst.tr (Fst.u6 hF (by omega)) g46) (by omega)) he
theorem sp_X12_settle {g : Int} {o : Nat} {p b : List Int} (cs : CS S R) (hn : 1 ≤ n) (hg : 1 ≤ g ∧ g ≤ 7) (ho : o + 705 ≤ 2820) (hP : PlS I p) (hC : CdS I o b) (hk : okP p) (hl : b.length + p.length ≤ 300) (hl2 : p.length ≤ 160) (hp : ∀ J, PlS J (stl g p b).1 → CdS J o (stl g p b).2 → Fst o I J → Post none S J R) : Call n 0 0 mX12_settle [.ref (S.2.1 306), .int (iI g)] S I R Post := by
  refine Call.of (by decide +kernel) (Nat.le_of_ble_eq_true rfl) ?_
  show WP _ _ _ _ _ 0 [(0, _), (1, _)] [] 0 0 _ _ _
  exact lp_settle cs hn hg ho hp p b I hP hC hk hl hl2 Fst.rf rfl
end Rm1s
