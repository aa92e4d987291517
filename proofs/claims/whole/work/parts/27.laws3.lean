section NN
variable {n mc ms : Nat} {M : Md} {Post : PT} {pc : Nat} {lv lv2 : List (Nat × Value)} {st : List Value} {k j : Nat} {S : Sh} {I : CI} {R : CR}
theorem x_ifnull {x : Nat} {off : Int} (d : decode M.2.1 pc = .ok (.ifnull off, 3)) (h : WP n mc ms M Post (pc + 3) lv st k j S I R) : WP n mc ms M Post pc lv (.ref x :: st) k j S I R := by
  intro l p e s m args below meth c D cy A H locs ls C hl hP hD hS
  exact lv_ifnull C.1 C.2.1 d (h l p e s m args below meth c D cy A H locs ls C hl hP hD hS)
theorem x_ifnullN {off : Int} (tgt : Nat) (d : decode M.2.1 pc = .ok (.ifnull off, 3)) (ht : (pc : Int) + off = (tgt : Int)) (h : WP n mc ms M Post tgt lv st k j S I R) : WP n mc ms M Post pc lv (.null :: st) k j S I R := by
  intro l p e s m args below meth c D cy A H locs ls C hl hP hD hS
  exact lv_ifnullN C.1 C.2.1 d ht (h l p e s m args below meth c D cy A H locs ls C hl hP hD hS)
theorem x_ifnonnull {x : Nat} {off : Int} (tgt : Nat) (d : decode M.2.1 pc = .ok (.ifnonnull off, 3)) (ht : (pc : Int) + off = (tgt : Int)) (h : WP n mc ms M Post tgt lv st k j S I R) : WP n mc ms M Post pc lv (.ref x :: st) k j S I R := by
  intro l p e s m args below meth c D cy A H locs ls C hl hP hD hS
  exact lv_ifnonnull C.1 C.2.1 d ht (h l p e s m args below meth c D cy A H locs ls C hl hP hD hS)
theorem x_ifnonnullN {off : Int} (d : decode M.2.1 pc = .ok (.ifnonnull off, 3)) (h : WP n mc ms M Post (pc + 3) lv st k j S I R) : WP n mc ms M Post pc lv (.null :: st) k j S I R := by
  intro l p e s m args below meth c D cy A H locs ls C hl hP hD hS
  exact lv_ifnonnullN C.1 C.2.1 d (h l p e s m args below meth c D cy A H locs ls C hl hP hD hS)
end NN
section Laws3
variable {n : Nat} {Post : PT} {S : Sh} {I : CI} {R : CR} {A : Nat → Int} {tx : Nat → Nat → Int}
/-- a text's object id and its numbers x: clauses, dues from/to, sells from/to, code; the clauses from 6 on, the code from 106 on -/
def TXr (S : Sh) (R : CR) (I : CI) (id : Nat) (x : Nat → Int) : Prop := 325 ≤ id ∧ OB S id 8 ∧ R id 0 = some (id + 1) ∧ R id 1 = some (id + 2) ∧ (0 ≤ x 0 ∧ x 0 ≤ 24) ∧ (0 ≤ x 5 ∧ x 5 ≤ 300) ∧ AR S (id + 1) 13 (x 5).toNat ∧ AR S (id + 2) 13 (4 * (x 0).toNat) ∧ (I id 2 = x 0 ∧ I id 3 = x 1 ∧ I id 4 = x 2 ∧ I id 5 = x 3 ∧ I id 6 = x 4) ∧ (∀ i : Nat, (i : Int) < x 5 → I (id + 1) i = x (106 + i)) ∧ (∀ i : Nat, (i : Int) < 4 * x 0 → I (id + 2) i = x (6 + i))
def TV (x : Nat → Int) : Prop := ((0 ≤ x 1 ∧ x 1 ≤ 300 ∧ 0 ≤ x 2 ∧ x 2 ≤ 300) ∧ (x 1 < x 2 → x 2 ≤ x 5 ∧ okC (fun i => x (106 + i)) (x 1).toNat (x 2 - x 1).toNat 0)) ∧ ((0 ≤ x 3 ∧ x 3 ≤ 300 ∧ 0 ≤ x 4 ∧ x 4 ≤ 300) ∧ (x 3 < x 4 → x 4 ≤ x 5 ∧ okC (fun i => x (106 + i)) (x 3).toNat (x 4 - x 3).toNat 0))
def WTx (S : Sh) (R : CR) (I : CI) (A : Nat → Int) (tx : Nat → Nat → Int) : Prop := ∀ t : Nat, (t : Int) < A 1 → ∃ id, R 12 t = some id ∧ TXr S R I id (tx t) ∧ TV (tx t)
theorem WTx_fr {I I' : CI} (h : ∀ c, 325 ≤ c → I' c = I c) (hw : WTx S R I A tx) : WTx S R I' A tx := by
  intro t ht
  obtain ⟨id, h1, ⟨g1, g2⟩, h3⟩ := hw t ht
  refine ⟨id, h1, ⟨g1, ?_⟩, h3⟩
  rw [h id g1, h (id + 1) (by omega), h (id + 2) (by omega)]
  exact g2
/-- the laws' own cells alone are other -/
def Fl (I I' : CI) : Prop := ∀ c, c ≠ 280 → c ≠ 281 → I' c = I c
theorem Fl.rf {I : CI} : Fl I I := fun _ _ _ => rfl
theorem Fl.tr {I I' I'' : CI} (h : Fl I I') (h2 : Fl I' I'') : Fl I I'' := fun c h1 h3 => (h2 c h1 h3).trans (h c h1 h3)
def SK (I : CI) : Prop := ∀ k, k < 303 → -1000000 ≤ I 281 k ∧ I 281 k ≤ 1000000
theorem Fl.W {I I' : CI} (h : Fl I I') (hc : ClW I 1 A) : ClW I' 1 A := ClW_fr (fun c h1 h2 => h c (by omega) (by omega)) hc
theorem Fl.X {I I' : CI} (h : Fl I I') (hw : WTx S R I A tx) : WTx S R I' A tx := WTx_fr (fun c h1 => h c (by omega) (by omega)) hw
theorem okC_congr {cd cd' : Nat → Int} : ∀ {K f : Nat} {t : Int}, (∀ i, f ≤ i → i < f + K → cd i = cd' i) → okC cd f K t → okC cd' f K t := by
  intro K
  induction K with
  | zero => intro f t _ _; trivial
  | succ K ih =>
    intro f t h ho
    have e := h f (by omega) (by omega)
    obtain ⟨o1, o2, o3, o4⟩ := ho
    rw [e] at o1 o2 o4
    exact ⟨o1, o2, o3, ih (fun i h1 h2 => h i (by omega) (by omega)) o4⟩
theorem wo_cong {A : Nat → Int} {op a b c a' b' c' : Int} (h2 : 2 ≤ op) (ha : a = a') (hb : 4 < op → b = b') (hc : 17 < op → c = c') : woF A op a b c = woF A op a' b' c' := by
  subst ha
  by_cases h4 : 4 < op
  · rw [hb h4]
    by_cases h17 : 17 < op
    · rw [hc h17]
    · unfold woF
      rcases (show op = 5 ∨ op = 6 ∨ op = 7 ∨ op = 8 ∨ op = 9 ∨ op = 10 ∨ op = 11 ∨ op = 12 ∨ op = 13 ∨ op = 14 ∨ op = 15 ∨ op = 16 ∨ op = 17 by omega) with rfl | rfl | rfl | rfl | rfl | rfl | rfl | rfl | rfl | rfl | rfl | rfl | rfl <;> rfl
  · rcases (show op = 2 ∨ op = 3 ∨ op = 4 by omega) with rfl | rfl | rfl <;> rfl
theorem rnF_congr {nm nm' A cd cd' s0 s0' : Nat → Int} {f K : Nat} (hn : ∀ k, k < 8 → nm k = nm' k) (hcd : ∀ i, f ≤ i → i < f + K → cd i = cd' i) (ho : okC cd f K 0) : ∀ k, k ≤ K → (rnF nm A cd f s0 k).2 = (rnF nm' A cd' f s0' k).2 ∧ ∀ j : Nat, (j : Int) < (rnF nm A cd f s0 k).2 → (rnF nm A cd f s0 k).1 j = (rnF nm' A cd' f s0' k).1 j := by
  intro k
  induction k with
  | zero => intro _; exact ⟨rfl, fun j hj => by exfalso; have : (j : Int) < 0 := hj; omega⟩
  | succ k ih =>
    intro hk
    obtain ⟨i1, i2⟩ := ih (by omega)
    have hok := okC_at (nm := nm) (A := A) (s0 := s0) ho k (by omega)
    rw [show K - k = (K - k - 1) + 1 by omega] at hok
    obtain ⟨o1, o2, o3, -⟩ := hok
    have e := hcd (f + k) (by omega) (by omega)
    have tb := tkn_b (cd (f + k) / 16384)
    simp only [rnF]
    rw [← e, ← i1]
    refine ⟨rfl, fun j hj => ?_⟩
    by_cases hj2 : j = ((rnF nm A cd f s0 k).2 - tkn (cd (f + k) / 16384)).toNat
    · rw [if_pos hj2, if_pos hj2]
      congr 1
      by_cases h0 : tkn (cd (f + k) / 16384) = 0
      · rw [if_pos h0, if_pos h0]
        unfold ftF
        split
        · exact hn _ (by omega)
        · rfl
      · rw [if_neg h0, if_neg h0]
        have t2 : (4 < cd (f + k) / 16384 → 2 ≤ tkn (cd (f + k) / 16384)) ∧ (17 < cd (f + k) / 16384 → 3 ≤ tkn (cd (f + k) / 16384)) := by unfold tkn; constructor <;> intro h <;> (split <;> first | omega | (split <;> first | omega | (split <;> omega)))
        exact wo_cong (by omega) (i2 _ (by omega)) (fun h => i2 _ (by omega)) (fun h => i2 _ (by omega))
    · rw [if_neg hj2, if_neg hj2]
      exact i2 j (by omega)
theorem rnF_top {nm A cd s0 : Nat → Int} {f K : Nat} (ho : okC cd f K 0) (hK : 0 < K) : 0 < (rnF nm A cd f s0 K).2 := by
  have hok := okC_at (nm := nm) (A := A) (s0 := s0) ho (K - 1) (by omega)
  rw [show K - (K - 1) = 0 + 1 by omega] at hok
  rw [show K = (K - 1) + 1 by omega]
  simp only [rnF]
  have := hok.2.1
  rw [show f + (K - 1) = f + (K - 1) by rfl] at this
  omega
def evP (nm A cd : Nat → Int) (f K : Nat) : Int := (rnF nm A cd f (fun _ => 0) K).1 0
def clampI (lo hi x : Int) : Int := if x < lo then lo else if hi < x then hi else x
def duesP (A : Nat → Int) (tx : Nat → Nat → Int) (t : Int) (q : Nat) (l p : Int) : Int := clampI 0 9999 (if 0 ≤ t ∧ t < A 1 ∧ tx t.toNat 1 < tx t.toNat 2 then evP (nmA A q l p) A (fun i => tx t.toNat (106 + i)) (tx t.toNat 1).toNat (tx t.toNat 2 - tx t.toNat 1).toNat else A (52 + q) + nmA A q l p 5 * A (52 + q) / 50)
def sellsP (A : Nat → Int) (tx : Nat → Nat → Int) (q : Nat) : Int := clampI (-99) 99 (if 0 ≤ A 2 ∧ A 2 < A 1 ∧ tx (A 2).toNat 3 < tx (A 2).toNat 4 then evP (nmA A q 0 0) A (fun i => tx (A 2).toNat (106 + i)) (tx (A 2).toNat 3).toNat (tx (A 2).toNat 4 - tx (A 2).toNat 3).toNat else nmA A q 0 0 5 - 30)
theorem dX10_hasText_0 : decode prog_12_method_4_code 0 = .ok (.iload_n 1, 1) := by decide +kernel
theorem dX10_hasText_1 : decode prog_12_method_4_code 1 = .ok (.ifCond .lt 24, 3) := by decide +kernel
theorem dX10_hasText_4 : decode prog_12_method_4_code 4 = .ok (.iload_n 1, 1) := by decide +kernel
theorem dX10_hasText_5 : decode prog_12_method_4_code 5 = .ok (.aload_n 0, 1) := by decide +kernel
theorem dX10_hasText_6 : decode prog_12_method_4_code 6 = .ok (.getfield 74, 3) := by decide +kernel
theorem dX10_hasText_9 : decode prog_12_method_4_code 9 = .ok (.if_icmp .ge 16, 3) := by decide +kernel
theorem dX10_hasText_12 : decode prog_12_method_4_code 12 = .ok (.aload_n 0, 1) := by decide +kernel
theorem dX10_hasText_13 : decode prog_12_method_4_code 13 = .ok (.getfield 40, 3) := by decide +kernel
theorem dX10_hasText_16 : decode prog_12_method_4_code 16 = .ok (.iload_n 1, 1) := by decide +kernel
theorem dX10_hasText_17 : decode prog_12_method_4_code 17 = .ok (.aaload, 1) := by decide +kernel
theorem dX10_hasText_18 : decode prog_12_method_4_code 18 = .ok (.ifnull 7, 3) := by decide +kernel
theorem dX10_hasText_21 : decode prog_12_method_4_code 21 = .ok (.iconst 1, 1) := by decide +kernel
theorem dX10_hasText_22 : decode prog_12_method_4_code 22 = .ok (.goto 4, 3) := by decide +kernel
theorem dX10_hasText_25 : decode prog_12_method_4_code 25 = .ok (.iconst 0, 1) := by decide +kernel
theorem dX10_hasText_26 : decode prog_12_method_4_code 26 = .ok (.ireturn, 1) := by decide +kernel
theorem sp_X10_hasText {t : Int} (cs : CS S R) (hc : ClW I 1 A) (hb : BA A) (hw : WTx S R I A tx) (ht : Rg t) (hp : ∀ r, (r = 1 ∧ 0 ≤ t ∧ t < A 1 ∨ r = 0 ∧ ¬ (0 ≤ t ∧ t < A 1)) → Post (some (.int (iI r))) S I R) : Call n 0 0 mX10_hasText [.ref (S.2.1 1), .int (iI t)] S I R Post := by
  obtain ⟨⟨⟨c0, c7, c8, c9, c10, c11⟩, cq⟩, ⟨⟨t1, t2, t3, t4, t5, t6, t7, t8, t9⟩, tq, th, tb, ts, td⟩, cb, cp⟩ := id hc
  dsimp only [Nat.reduceAdd] at c0 c7 c8 c9 c10 c11 cq t1 t2 t3 t4 t5 t6 t7 t8 t9 tq th tb ts td
  obtain ⟨⟨b0, b1, b2, b3, b4, bq, bl⟩, ⟨d1, d2, d3, d4, d5, d6, d7⟩, dq, dh, db, ds, dd, dp⟩ := id hb
  have b7 : 0 ≤ A 7 ∧ A 7 ≤ 9999 := b1
  have b8 : 0 ≤ A 8 ∧ A 8 ≤ 30870 := b2
  have b9 : 0 ≤ A 9 ∧ A 9 ≤ 9999 := b3
  have b10 : 0 ≤ A 10 ∧ A 10 ≤ 1 := b4
  have b11 : 0 ≤ A 11 ∧ A 11 ≤ 16 := by have h1 := lns_b (fun q => A (6 + 6 + 3 * q)) (A 0).toNat; have h2 : A 11 = _ := bl; omega
  refine Call.of (by decide +kernel) (Nat.le_of_ble_eq_true rfl) ?_
  show WP _ _ _ _ _ 0 [(0, _), (1, _)] [] 0 0 _ _ _
  refine x_iload_n dX10_hasText_0 rfl ?_
  refine x_if_lt 25 dX10_hasText_1 (by decide) (by omega) (fun w1 => ?_) (fun w1 => ?_)
  · refine x_iconst dX10_hasText_25 ?_
    exact x_zreturn (by omega) dX10_hasText_26 rfl (by omega) (by omega) (hp _ (by omega))
  · refine x_iload_n dX10_hasText_4 rfl ?_
    refine x_aload_n dX10_hasText_5 rfl ?_
    refine x_getI dX10_hasText_6 gf_RX10_74 (k_ob_1 cs) (fun _ _ => rfl) ?_
    refine x_icmp_ge 25 dX10_hasText_9 (by decide) ⟨(by omega), (by omega)⟩ (fun w9 => ?_) (fun w9 => ?_)
    · refine x_iconst dX10_hasText_25 ?_
      exact x_zreturn (by omega) dX10_hasText_26 rfl (by omega) (by omega) (hp _ (by omega))
    · obtain ⟨id, g1, -⟩ := hw t.toNat (by omega)
      refine x_aload_n dX10_hasText_12 rfl ?_
      refine x_getR (b := 12) dX10_hasText_13 gf_RX10_40 (k_ob_1 cs) (fun _ _ => rfl) (k_r_1_7 cs) ?_
      refine x_iload_n dX10_hasText_16 rfl ?_
      refine x_aaload_t dX10_hasText_17 (k_ar_12 cs) (by omega) (v := .ref (S.2.1 id)) (by rw [g1]; rfl) (by omega) ?_
      refine x_ifnull dX10_hasText_18 ?_
      refine x_iconst dX10_hasText_21 ?_
      refine x_goto 26 dX10_hasText_22 (by decide) ?_
      exact x_zreturn (by omega) dX10_hasText_26 rfl (by omega) (by omega) (hp _ (by omega))
theorem dX8_hasDues_0 : decode prog_10_method_2_code 0 = .ok (.aload_n 0, 1) := by decide +kernel
theorem dX8_hasDues_1 : decode prog_10_method_2_code 1 = .ok (.getfield 43, 3) := by decide +kernel
theorem dX8_hasDues_4 : decode prog_10_method_2_code 4 = .ok (.aload_n 0, 1) := by decide +kernel
theorem dX8_hasDues_5 : decode prog_10_method_2_code 5 = .ok (.getfield 39, 3) := by decide +kernel
theorem dX8_hasDues_8 : decode prog_10_method_2_code 8 = .ok (.if_icmp .le 7, 3) := by decide +kernel
theorem dX8_hasDues_11 : decode prog_10_method_2_code 11 = .ok (.iconst 1, 1) := by decide +kernel
theorem dX8_hasDues_12 : decode prog_10_method_2_code 12 = .ok (.goto 4, 3) := by decide +kernel
theorem dX8_hasDues_15 : decode prog_10_method_2_code 15 = .ok (.iconst 0, 1) := by decide +kernel
theorem dX8_hasDues_16 : decode prog_10_method_2_code 16 = .ok (.ireturn, 1) := by decide +kernel
theorem sp_X8_hasDues {id : Nat} (ho : OB S id 8) (h : Rg (I id 3) ∧ Rg (I id 4)) (hp : ∀ r, (r = 1 ∧ I id 3 < I id 4 ∨ r = 0 ∧ ¬ (I id 3 < I id 4)) → Post (some (.int (iI r))) S I R) : Call n 0 0 mX8_hasDues [.ref (S.2.1 id)] S I R Post := by
  refine Call.of (by decide +kernel) (Nat.le_of_ble_eq_true rfl) ?_
  show WP _ _ _ _ _ 0 [(0, _)] [] 0 0 _ _ _
  refine x_aload_n dX8_hasDues_0 rfl ?_
  refine x_getI dX8_hasDues_1 gf_RX8_43 ho (fun _ _ => rfl) ?_
  refine x_aload_n dX8_hasDues_4 rfl ?_
  refine x_getI dX8_hasDues_5 gf_RX8_39 ho (fun _ _ => rfl) ?_
  refine x_icmp_le 15 dX8_hasDues_8 (by decide) ⟨(by omega), (by omega)⟩ (fun w8 => ?_) (fun w8 => ?_)
  · refine x_iconst dX8_hasDues_15 ?_
    exact x_zreturn (by omega) dX8_hasDues_16 rfl (by omega) (by omega) (hp _ (by omega))
  · refine x_iconst dX8_hasDues_11 ?_
    refine x_goto 16 dX8_hasDues_12 (by decide) ?_
    exact x_zreturn (by omega) dX8_hasDues_16 rfl (by omega) (by omega) (hp _ (by omega))
theorem dX8_hasSells_0 : decode prog_10_method_3_code 0 = .ok (.aload_n 0, 1) := by decide +kernel
theorem dX8_hasSells_1 : decode prog_10_method_3_code 1 = .ok (.getfield 51, 3) := by decide +kernel
theorem dX8_hasSells_4 : decode prog_10_method_3_code 4 = .ok (.aload_n 0, 1) := by decide +kernel
theorem dX8_hasSells_5 : decode prog_10_method_3_code 5 = .ok (.getfield 47, 3) := by decide +kernel
theorem dX8_hasSells_8 : decode prog_10_method_3_code 8 = .ok (.if_icmp .le 7, 3) := by decide +kernel
theorem dX8_hasSells_11 : decode prog_10_method_3_code 11 = .ok (.iconst 1, 1) := by decide +kernel
theorem dX8_hasSells_12 : decode prog_10_method_3_code 12 = .ok (.goto 4, 3) := by decide +kernel
theorem dX8_hasSells_15 : decode prog_10_method_3_code 15 = .ok (.iconst 0, 1) := by decide +kernel
theorem dX8_hasSells_16 : decode prog_10_method_3_code 16 = .ok (.ireturn, 1) := by decide +kernel
theorem sp_X8_hasSells {id : Nat} (ho : OB S id 8) (h : Rg (I id 5) ∧ Rg (I id 6)) (hp : ∀ r, (r = 1 ∧ I id 5 < I id 6 ∨ r = 0 ∧ ¬ (I id 5 < I id 6)) → Post (some (.int (iI r))) S I R) : Call n 0 0 mX8_hasSells [.ref (S.2.1 id)] S I R Post := by
  refine Call.of (by decide +kernel) (Nat.le_of_ble_eq_true rfl) ?_
  show WP _ _ _ _ _ 0 [(0, _)] [] 0 0 _ _ _
  refine x_aload_n dX8_hasSells_0 rfl ?_
  refine x_getI dX8_hasSells_1 gf_RX8_51 ho (fun _ _ => rfl) ?_
  refine x_aload_n dX8_hasSells_4 rfl ?_
  refine x_getI dX8_hasSells_5 gf_RX8_47 ho (fun _ _ => rfl) ?_
  refine x_icmp_le 15 dX8_hasSells_8 (by decide) ⟨(by omega), (by omega)⟩ (fun w8 => ?_) (fun w8 => ?_)
  · refine x_iconst dX8_hasSells_15 ?_
    exact x_zreturn (by omega) dX8_hasSells_16 rfl (by omega) (by omega) (hp _ (by omega))
  · refine x_iconst dX8_hasSells_11 ?_
    refine x_goto 16 dX8_hasSells_12 (by decide) ?_
    exact x_zreturn (by omega) dX8_hasSells_16 rfl (by omega) (by omega) (hp _ (by omega))
end Laws3
