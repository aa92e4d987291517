section Talk2
variable {n : Nat} {Post : PT} {S : Sh} {I : CI} {R : CR} {A : Nat → Int} {tx : Nat → Nat → Int}
/-- who can be come to: i people of a round -/
def rchI (sp : Nat → Nat) (am f : Nat) : Nat → Nat
  | 0 => f
  | i + 1 => if (rchI sp am f i).testBit i then rchI sp am f i ||| (sp i &&& am) else rchI sp am f i
def rchR (sp : Nat → Nat) (am f : Nat) : Nat → Nat
  | 0 => f
  | k + 1 => rchI sp am (rchR sp am f k) 6
def rch (sp : Nat → Nat) (am p : Nat) : Nat := rchR sp am (2 ^ p) 6
theorem rchI_lt {sp : Nat → Nat} {am f : Nat} (hs : ∀ i, i < 6 → sp i < 64) (hf : f < 64) : ∀ i, i ≤ 6 → rchI sp am f i < 64 := by
  intro i
  induction i with
  | zero => intro _; exact hf
  | succ i ih =>
    intro h
    have h1 := ih (by omega)
    simp only [rchI]
    split
    · exact Nat.or_lt_two_pow (n := 6) h1 (Nat.lt_of_le_of_lt Nat.and_le_left (hs i (by omega)))
    · exact h1
theorem rchR_lt {sp : Nat → Nat} {am f : Nat} (hs : ∀ i, i < 6 → sp i < 64) (hf : f < 64) : ∀ k, rchR sp am f k < 64 := by
  intro k
  induction k with
  | zero => exact hf
  | succ k ih => exact rchI_lt hs ih 6 (by omega)
theorem pw6 {p : Nat} (h : p < 6) : 2 ^ p < 64 := by have := pw5 h; omega
theorem rch_lt {sp : Nat → Nat} {am p : Nat} (hs : ∀ i, i < 6 → sp i < 64) (hp : p < 6) : rch sp am p < 64 := rchR_lt hs (pw6 hp) 6
def spA (A : Nat → Int) (p : Nat) : Nat := spK A p (A 0).toNat
def cstA (A : Nat → Int) (tx : Nat → Nat → Int) (p r : Nat) : Int := cstK A tx p r (A 0).toNat
theorem spA_lt (p : Nat) : spA A p < 64 := spK_lt _
def SPr (I : CI) (sp : Nat → Nat) : Prop := ∀ i, i < 6 → I 293 i = (sp i : Int) ∧ sp i < 64
theorem dX7_reached_0 : decode prog_9_method_14_code 0 = .ok (.iconst 1, 1) := by decide +kernel
theorem dX7_reached_1 : decode prog_9_method_14_code 1 = .ok (.iload_n 1, 1) := by decide +kernel
theorem dX7_reached_2 : decode prog_9_method_14_code 2 = .ok (.ishl, 1) := by decide +kernel
theorem dX7_reached_3 : decode prog_9_method_14_code 3 = .ok (.istore_n 3, 1) := by decide +kernel
theorem dX7_reached_4 : decode prog_9_method_14_code 4 = .ok (.iconst 0, 1) := by decide +kernel
theorem dX7_reached_5 : decode prog_9_method_14_code 5 = .ok (.istore 4, 2) := by decide +kernel
theorem dX7_reached_7 : decode prog_9_method_14_code 7 = .ok (.iload 4, 2) := by decide +kernel
theorem dX7_reached_9 : decode prog_9_method_14_code 9 = .ok (.bipush 6, 2) := by decide +kernel
theorem dX7_reached_11 : decode prog_9_method_14_code 11 = .ok (.if_icmp .ge 47, 3) := by decide +kernel
theorem dX7_reached_14 : decode prog_9_method_14_code 14 = .ok (.iconst 0, 1) := by decide +kernel
theorem dX7_reached_15 : decode prog_9_method_14_code 15 = .ok (.istore 5, 2) := by decide +kernel
theorem dX7_reached_17 : decode prog_9_method_14_code 17 = .ok (.iload 5, 2) := by decide +kernel
theorem dX7_reached_19 : decode prog_9_method_14_code 19 = .ok (.bipush 6, 2) := by decide +kernel
theorem dX7_reached_21 : decode prog_9_method_14_code 21 = .ok (.if_icmp .ge 31, 3) := by decide +kernel
theorem dX7_reached_24 : decode prog_9_method_14_code 24 = .ok (.iload_n 3, 1) := by decide +kernel
theorem dX7_reached_25 : decode prog_9_method_14_code 25 = .ok (.iload 5, 2) := by decide +kernel
theorem dX7_reached_27 : decode prog_9_method_14_code 27 = .ok (.ishr, 1) := by decide +kernel
theorem dX7_reached_28 : decode prog_9_method_14_code 28 = .ok (.iconst 1, 1) := by decide +kernel
theorem dX7_reached_29 : decode prog_9_method_14_code 29 = .ok (.iand, 1) := by decide +kernel
theorem dX7_reached_30 : decode prog_9_method_14_code 30 = .ok (.iconst 1, 1) := by decide +kernel
theorem dX7_reached_31 : decode prog_9_method_14_code 31 = .ok (.if_icmp .ne 15, 3) := by decide +kernel
theorem dX7_reached_34 : decode prog_9_method_14_code 34 = .ok (.iload_n 3, 1) := by decide +kernel
theorem dX7_reached_35 : decode prog_9_method_14_code 35 = .ok (.aload_n 0, 1) := by decide +kernel
theorem dX7_reached_36 : decode prog_9_method_14_code 36 = .ok (.getfield 15, 3) := by decide +kernel
theorem dX7_reached_39 : decode prog_9_method_14_code 39 = .ok (.iload 5, 2) := by decide +kernel
theorem dX7_reached_41 : decode prog_9_method_14_code 41 = .ok (.iaload, 1) := by decide +kernel
theorem dX7_reached_42 : decode prog_9_method_14_code 42 = .ok (.iload_n 2, 1) := by decide +kernel
theorem dX7_reached_43 : decode prog_9_method_14_code 43 = .ok (.iand, 1) := by decide +kernel
theorem dX7_reached_44 : decode prog_9_method_14_code 44 = .ok (.ior, 1) := by decide +kernel
theorem dX7_reached_45 : decode prog_9_method_14_code 45 = .ok (.istore_n 3, 1) := by decide +kernel
theorem dX7_reached_46 : decode prog_9_method_14_code 46 = .ok (.iinc 5 1, 3) := by decide +kernel
theorem dX7_reached_49 : decode prog_9_method_14_code 49 = .ok (.goto (-32), 3) := by decide +kernel
theorem dX7_reached_52 : decode prog_9_method_14_code 52 = .ok (.iinc 4 1, 3) := by decide +kernel
theorem dX7_reached_55 : decode prog_9_method_14_code 55 = .ok (.goto (-48), 3) := by decide +kernel
theorem dX7_reached_58 : decode prog_9_method_14_code 58 = .ok (.iload_n 3, 1) := by decide +kernel
theorem dX7_reached_59 : decode prog_9_method_14_code 59 = .ok (.ireturn, 1) := by decide +kernel
theorem lp1_X7_reached {sp : Nat → Nat} {am f t : Nat} {pp : Int} (cs : CS S R) (hs : SPr I sp) (ham : am < 64) (hf : f < 64) (hK : WP n 0 0 mX7_reached Post 52 [(0, .ref (S.2.1 291)), (1, .int (iI pp)), (2, .int (iI (am : Int))), (3, .int (iI (rchI sp am f 6 : Int))), (4, .int (iI (t : Int)))] [] 0 0 S I R) : ∀ (d i : Nat), i ≤ 6 → 6 - i = d → WP n 0 0 mX7_reached Post 17 [(0, .ref (S.2.1 291)), (1, .int (iI pp)), (2, .int (iI (am : Int))), (3, .int (iI (rchI sp am f i : Int))), (4, .int (iI (t : Int))), (5, .int (iI (i : Int)))] [] 0 0 S I R := by
  intro d
  induction d using Nat.strongRecOn with
  | ind d ih =>
    intro i k1 k2
    have hlt := rchI_lt (am := am) (fun i h => (hs i h).2) hf i k1
    refine x_iload dX7_reached_17 rfl ?_
    refine x_bipush dX7_reached_19 (by decide) ?_
    refine x_icmp_ge 52 dX7_reached_21 (by decide) ⟨(by omega), (by omega)⟩ (fun w21 => ?_) (fun w21 => ?_)
    · refine x_sub [0, 1, 2, 3, 4] rfl ?_
      obtain rfl : i = 6 := by omega
      exact hK
    · refine x_iload_n dX7_reached_24 rfl ?_
      refine x_iload dX7_reached_25 rfl ?_
      refine x_ishr dX7_reached_27 ?_
      have hb := has_c (x := rchI sp am f i) (k := i) (by omega) (by omega)
      have hsi : i < 6 → I 293 i = (sp i : Int) ∧ sp i < 64 := hs i
      refine x_iconst dX7_reached_28 ?_
      refine x_iand dX7_reached_29 ?_
      refine x_iconst dX7_reached_30 ?_
      refine x_icmp_ne 46 dX7_reached_31 (by decide) ⟨(by omega), (by omega)⟩ (fun w31 => ?_) (fun w31 => ?_)
      · refine x_iinc (lv2 := [(5, _), (0, _), (1, _), (2, _), (3, _), (4, _)]) dX7_reached_46 rfl (by decide) rfl ?_
        refine x_goto 17 dX7_reached_49 (by decide) ?_
        refine x_sub [1, 2, 3, 4, 5, 0] rfl ?_
        have hg := ih _ (by omega) (i + 1) (by omega) rfl
        first
          | (rw [show rchI sp am f (i + 1) = rchI sp am f i from if_neg (fun h => by rw [h] at hb; simp at hb; omega)] at hg; exact hg)
          | (rw [show rchI sp am f (i + 1) = rchI sp am f i ||| (sp i &&& am) from if_pos (by rcases hb with hh | hh; exact hh.2; exfalso; omega)] at hg; exact hg)
      · refine x_iload_n dX7_reached_34 rfl ?_
        refine x_aload_n dX7_reached_35 rfl ?_
        refine x_getR (b := 293) dX7_reached_36 gf_RX7_15 (k_ob_291 cs) (fun _ _ => rfl) (k_r_291_3 cs) ?_
        refine x_iload dX7_reached_39 rfl ?_
        refine x_iaload dX7_reached_41 (k_ar_293 cs) (by omega) (by omega) ?_
        rw [tN, (hsi (by omega)).1]
        refine x_iload_n dX7_reached_42 rfl ?_
        refine x_iand dX7_reached_43 ?_
        rw [andI_n (by have := (hsi (by omega)).2; omega)]
        refine x_ior dX7_reached_44 ?_
        rw [orI_n (by omega) (Nat.lt_of_le_of_lt Nat.and_le_left (by have := (hsi (by omega)).2; omega))]
        refine x_istore_n (lv2 := [(3, _), (0, _), (1, _), (2, _), (4, _), (5, _)]) dX7_reached_45 (by decide) rfl ?_
        refine x_iinc (lv2 := [(5, _), (3, _), (0, _), (1, _), (2, _), (4, _)]) dX7_reached_46 rfl (by decide) rfl ?_
        refine x_goto 17 dX7_reached_49 (by decide) ?_
        refine x_sub [2, 3, 4, 1, 5, 0] rfl ?_
        have hg := ih _ (by omega) (i + 1) (by omega) rfl
        first
          | (rw [show rchI sp am f (i + 1) = rchI sp am f i from if_neg (fun h => by rw [h] at hb; simp at hb; omega)] at hg; exact hg)
          | (rw [show rchI sp am f (i + 1) = rchI sp am f i ||| (sp i &&& am) from if_pos (by rcases hb with hh | hh; exact hh.2; exfalso; omega)] at hg; exact hg)
theorem lp2_X7_reached {sp : Nat → Nat} {am f : Nat} {pp : Int} (cs : CS S R) (hs : SPr I sp) (ham : am < 64) (hf : f < 64) (hp : Post (some (.int (iI (rchR sp am f 6 : Int)))) S I R) : ∀ (d t : Nat), t ≤ 6 → 6 - t = d → WP n 0 0 mX7_reached Post 7 [(0, .ref (S.2.1 291)), (1, .int (iI pp)), (2, .int (iI (am : Int))), (3, .int (iI (rchR sp am f t : Int))), (4, .int (iI (t : Int)))] [] 0 0 S I R := by
  intro d
  induction d using Nat.strongRecOn with
  | ind d ih =>
    intro t k1 k2
    have hlt := rchR_lt (am := am) (fun i h => (hs i h).2) hf t
    refine x_iload dX7_reached_7 rfl ?_
    refine x_bipush dX7_reached_9 (by decide) ?_
    refine x_icmp_ge 58 dX7_reached_11 (by decide) ⟨(by omega), (by omega)⟩ (fun w11 => ?_) (fun w11 => ?_)
    · refine x_iload_n dX7_reached_58 rfl ?_
      exact x_ireturn dX7_reached_59 rfl (by omega) (by omega) (by obtain rfl : t = 6 := (by omega); exact hp)
    · refine x_iconst dX7_reached_14 ?_
      refine x_istore (lv2 := [(5, _), (0, _), (1, _), (2, _), (3, _), (4, _)]) dX7_reached_15 (by decide) rfl ?_
      refine x_sub [1, 2, 3, 4, 5, 0] rfl ?_
      refine lp1_X7_reached (f := rchR sp am f t) (t := t) cs hs ham hlt ?_ _ 0 (by omega) rfl
      refine x_iinc (lv2 := [(4, _), (0, _), (1, _), (2, _), (3, _)]) dX7_reached_52 rfl (by decide) rfl ?_
      refine x_goto 7 dX7_reached_55 (by decide) ?_
      refine x_sub [1, 2, 3, 4, 0] rfl ?_
      exact ih _ (by omega) (t + 1) (by omega) rfl
theorem sp_X7_reached {sp : Nat → Nat} {am p : Nat} (cs : CS S R) (hs : SPr I sp) (ham : am < 64) (hpp : p < 6) (hp : Post (some (.int (iI (rch sp am p : Int)))) S I R) : Call n 0 0 mX7_reached [.ref (S.2.1 291), .int (iI (p : Int)), .int (iI (am : Int))] S I R Post := by
  have hpb := pw5 hpp
  refine Call.of (by decide +kernel) (Nat.le_of_ble_eq_true rfl) ?_
  show WP _ _ _ _ _ 0 [(0, _), (1, _), (2, _)] [] 0 0 _ _ _
  refine x_iconst dX7_reached_0 ?_
  refine x_iload_n dX7_reached_1 rfl ?_
  refine x_ishl dX7_reached_2 ?_
  rw [shl1_n (by omega)]
  refine x_istore_n (lv2 := [(3, _), (0, _), (1, _), (2, _)]) dX7_reached_3 (by decide) rfl ?_
  refine x_iconst dX7_reached_4 ?_
  refine x_istore (lv2 := [(4, _), (3, _), (0, _), (1, _), (2, _)]) dX7_reached_5 (by decide) rfl ?_
  refine x_sub [2, 3, 4, 1, 0] rfl ?_
  exact lp2_X7_reached cs hs ham (pw6 hpp) hp _ 0 (by omega) rfl
theorem dX7_doSpeak_0 : decode prog_9_method_2_code 0 = .ok (.aload_n 0, 1) := by decide +kernel
theorem dX7_doSpeak_1 : decode prog_9_method_2_code 1 = .ok (.invokevirtual 29, 3) := by decide +kernel
theorem dX7_doSpeak_4 : decode prog_9_method_2_code 4 = .ok (.aload_n 0, 1) := by decide +kernel
theorem dX7_doSpeak_5 : decode prog_9_method_2_code 5 = .ok (.getfield 15, 3) := by decide +kernel
theorem dX7_doSpeak_8 : decode prog_9_method_2_code 8 = .ok (.iload_n 1, 1) := by decide +kernel
theorem dX7_doSpeak_9 : decode prog_9_method_2_code 9 = .ok (.iaload, 1) := by decide +kernel
theorem dX7_doSpeak_10 : decode prog_9_method_2_code 10 = .ok (.iload_n 2, 1) := by decide +kernel
theorem dX7_doSpeak_11 : decode prog_9_method_2_code 11 = .ok (.ishr, 1) := by decide +kernel
theorem dX7_doSpeak_12 : decode prog_9_method_2_code 12 = .ok (.iconst 1, 1) := by decide +kernel
theorem dX7_doSpeak_13 : decode prog_9_method_2_code 13 = .ok (.iand, 1) := by decide +kernel
theorem dX7_doSpeak_14 : decode prog_9_method_2_code 14 = .ok (.iconst 1, 1) := by decide +kernel
theorem dX7_doSpeak_15 : decode prog_9_method_2_code 15 = .ok (.if_icmp .ne 7, 3) := by decide +kernel
theorem dX7_doSpeak_18 : decode prog_9_method_2_code 18 = .ok (.iconst 1, 1) := by decide +kernel
theorem dX7_doSpeak_19 : decode prog_9_method_2_code 19 = .ok (.goto 4, 3) := by decide +kernel
theorem dX7_doSpeak_22 : decode prog_9_method_2_code 22 = .ok (.iconst 0, 1) := by decide +kernel
theorem dX7_doSpeak_23 : decode prog_9_method_2_code 23 = .ok (.ireturn, 1) := by decide +kernel
theorem sp_X7_doSpeak {a b : Nat} (cs : CS S R) (hv : CIv S R I A tx) (ha : a < 6) (hb6 : b < 6) (hn : 6 ≤ n) (hp : ∀ I', CIv S R I' A tx → Fk I I' → Post (some (.int (iI (if (spA A a).testBit b then 1 else 0)))) S I' R) : Call n 0 0 mX7_doSpeak [.ref (S.2.1 291), .int (iI (a : Int)), .int (iI (b : Int))] S I R Post := by
  refine Call.of (by decide +kernel) (Nat.le_of_ble_eq_true rfl) ?_
  show WP _ _ _ _ _ 0 [(0, _), (1, _), (2, _)] [] 0 0 _ _ _
  refine x_aload_n dX7_doSpeak_0 rfl ?_
  refine x_callV0 (mc1 := 0) (ms1 := 0) dX7_doSpeak_1 cv_RX7_29 (ci := 7) (k_ob_291 cs) rfl (Nat.le_of_ble_eq_true rfl) (n1 := n - 1) (by omega) (by omega) (by omega) ?_
  refine sp_X7_listen cs hv (by omega) (fun I1 hv1 hF1 hM1 hL1 => ?_)
  have hs1 : SPr I1 (spA A) := fun i hi => ⟨hL1 i hi, spA_lt i⟩
  refine x_aload_n dX7_doSpeak_4 rfl ?_
  refine x_getR (b := 293) dX7_doSpeak_5 gf_RX7_15 (k_ob_291 cs) (fun _ _ => rfl) (k_r_291_3 cs) ?_
  refine x_iload_n dX7_doSpeak_8 rfl ?_
  refine x_iaload dX7_doSpeak_9 (k_ar_293 cs) (by omega) (by omega) ?_
  have hlt := spA_lt (A := A) a
  rw [tN, (hs1 a ha).1]
  refine x_iload_n dX7_doSpeak_10 rfl ?_
  refine x_ishr dX7_doSpeak_11 ?_
  have hb := has_c (x := spA A a) (k := b) (by omega) (by omega)
  refine x_iconst dX7_doSpeak_12 ?_
  refine x_iand dX7_doSpeak_13 ?_
  refine x_iconst dX7_doSpeak_14 ?_
  refine x_icmp_ne 22 dX7_doSpeak_15 (by decide) ⟨(by omega), (by omega)⟩ (fun w15 => ?_) (fun w15 => ?_)
  · refine x_iconst dX7_doSpeak_22 ?_
    exact x_zreturn (by omega) dX7_doSpeak_23 rfl (by omega) (by omega) (by rcases hb with hh | hh <;> rw [hh.2] at hp <;> first | exact hp _ hv1 hF1 | (exfalso; omega))
  · refine x_iconst dX7_doSpeak_18 ?_
    refine x_goto 23 dX7_doSpeak_19 (by decide) ?_
    exact x_zreturn (by omega) dX7_doSpeak_23 rfl (by omega) (by omega) (by rcases hb with hh | hh <;> rw [hh.2] at hp <;> first | exact hp _ hv1 hF1 | (exfalso; omega))
def f_speak (A : Nat → Int) (a b : Int) : Int := if (0 ≤ a ∧ a < 6 ∧ 0 ≤ b ∧ b < 6 ∧ a ≠ b) ∧ (spA A a.toNat).testBit b.toNat = true then 1 else 0
def f_group (A : Nat → Int) (a : Int) : Int := if 0 ≤ a ∧ a < 6 then (rch (spA A) 63 a.toNat : Int) else -1
def f_cost (A : Nat → Int) (tx : Nat → Nat → Int) (a b : Int) : Int := if 0 ≤ a ∧ a < 6 ∧ 0 ≤ b ∧ b < 6 ∧ a ≠ b then cstA A tx a.toNat b.toNat else -1
theorem asN {a : Int} (h : 0 ≤ a) : iI a = iI ((a.toNat : Nat) : Int) := by rw [Int.toNat_of_nonneg h]
theorem dX11_speak_0 : decode prog_1_method_19_code 0 = .ok (.iload_n 1, 1) := by decide +kernel
theorem dX11_speak_1 : decode prog_1_method_19_code 1 = .ok (.iload_n 2, 1) := by decide +kernel
theorem dX11_speak_2 : decode prog_1_method_19_code 2 = .ok (.invokestatic 212, 3) := by decide +kernel
theorem dX11_speak_5 : decode prog_1_method_19_code 5 = .ok (.ifCond .eq 19, 3) := by decide +kernel
theorem dX11_speak_8 : decode prog_1_method_19_code 8 = .ok (.aload_n 0, 1) := by decide +kernel
theorem dX11_speak_9 : decode prog_1_method_19_code 9 = .ok (.getfield 47, 3) := by decide +kernel
theorem dX11_speak_12 : decode prog_1_method_19_code 12 = .ok (.iload_n 1, 1) := by decide +kernel
theorem dX11_speak_13 : decode prog_1_method_19_code 13 = .ok (.iload_n 2, 1) := by decide +kernel
theorem dX11_speak_14 : decode prog_1_method_19_code 14 = .ok (.invokevirtual 216, 3) := by decide +kernel
theorem dX11_speak_17 : decode prog_1_method_19_code 17 = .ok (.ifCond .eq 7, 3) := by decide +kernel
theorem dX11_speak_20 : decode prog_1_method_19_code 20 = .ok (.iconst 1, 1) := by decide +kernel
theorem dX11_speak_21 : decode prog_1_method_19_code 21 = .ok (.goto 4, 3) := by decide +kernel
theorem dX11_speak_24 : decode prog_1_method_19_code 24 = .ok (.iconst 0, 1) := by decide +kernel
theorem dX11_speak_25 : decode prog_1_method_19_code 25 = .ok (.ireturn, 1) := by decide +kernel
theorem sp_X11_speak {a b : Int} (cs : CS S R) (hv : CIv S R I A tx) (ha : Rg a) (hb6 : Rg b) (hn : 7 ≤ n) (hp : ∀ I', CIv S R I' A tx → Fk I I' → Post (some (.int (iI (f_speak A a b)))) S I' R) : Call n 0 0 mX11_speak [.ref (S.2.1 0), .int (iI a), .int (iI b)] S I R Post := by
  unfold f_speak at hp
  refine Call.of (by decide +kernel) (Nat.le_of_ble_eq_true rfl) ?_
  show WP _ _ _ _ _ 0 [(0, _), (1, _), (2, _)] [] 0 0 _ _ _
  refine x_iload_n dX11_speak_0 rfl ?_
  refine x_iload_n dX11_speak_1 rfl ?_
  refine x_callS2 (mc1 := 0) (ms1 := 0) dX11_speak_2 cv_RX11_212 (Nat.le_of_ble_eq_true rfl) (n1 := n - 1) (by omega) (by omega) (by omega) ?_
  refine sp_X11_areTwo (by omega) (by omega) (by omega) (fun r2 hr2 => ?_)
  refine x_if_eq 24 dX11_speak_5 (by decide) (by omega) (fun w5 => ?_) (fun w5 => ?_)
  · refine x_iconst dX11_speak_24 ?_
    exact x_zreturn (by omega) dX11_speak_25 rfl (by omega) (by omega) (by first | (rw [if_neg (fun h => by have := h.1; omega)] at hp; exact hp _ hv Fk.rf) | (rcases hzz with hh | hh; (first | (rw [if_pos ⟨by omega, hh.2⟩] at hp; exact hp _ hv14 hF14) | (exfalso; omega)); (first | (rw [if_neg (fun h => hh.2 h.2)] at hp; exact hp _ hv14 hF14) | (exfalso; omega))))
  · refine x_aload_n dX11_speak_8 rfl ?_
    refine x_getR (b := 291) dX11_speak_9 gf_RX11_47 (k_ob_0 cs) (fun _ _ => rfl) (k_r_0_5 cs) ?_
    refine x_iload_n dX11_speak_12 rfl ?_
    refine x_iload_n dX11_speak_13 rfl ?_
    refine x_callV2 (mc1 := 0) (ms1 := 0) dX11_speak_14 cv_RX11_216 (ci := 7) (k_ob_291 cs) rfl (Nat.le_of_ble_eq_true rfl) (n1 := n - 1) (by omega) (by omega) (by omega) ?_
    rw [asN (a := a) (by omega), asN (a := b) (by omega)]
    refine sp_X7_doSpeak cs hv (by omega) (by omega) (by omega) (fun I14 hv14 hF14 => ?_)
    obtain ⟨z, hz, hzz⟩ : ∃ z : Int, (if (spA A a.toNat).testBit b.toNat then (1 : Int) else 0) = z ∧ (z = 1 ∧ (spA A a.toNat).testBit b.toNat = true ∨ z = 0 ∧ ¬ (spA A a.toNat).testBit b.toNat = true) := by
      by_cases h : (spA A a.toNat).testBit b.toNat = true
      · exact ⟨1, if_pos h, Or.inl ⟨rfl, h⟩⟩
      · exact ⟨0, if_neg h, Or.inr ⟨rfl, h⟩⟩
    rw [hz]
    refine x_if_eq 24 dX11_speak_17 (by decide) (by omega) (fun w17 => ?_) (fun w17 => ?_)
    · refine x_iconst dX11_speak_24 ?_
      exact x_zreturn (by omega) dX11_speak_25 rfl (by omega) (by omega) (by first | (rw [if_neg (fun h => by have := h.1; omega)] at hp; exact hp _ hv Fk.rf) | (rcases hzz with hh | hh; (first | (rw [if_pos ⟨by omega, hh.2⟩] at hp; exact hp _ hv14 hF14) | (exfalso; omega)); (first | (rw [if_neg (fun h => hh.2 h.2)] at hp; exact hp _ hv14 hF14) | (exfalso; omega))))
    · refine x_iconst dX11_speak_20 ?_
      refine x_goto 25 dX11_speak_21 (by decide) ?_
      exact x_zreturn (by omega) dX11_speak_25 rfl (by omega) (by omega) (by first | (rw [if_neg (fun h => by have := h.1; omega)] at hp; exact hp _ hv Fk.rf) | (rcases hzz with hh | hh; (first | (rw [if_pos ⟨by omega, hh.2⟩] at hp; exact hp _ hv14 hF14) | (exfalso; omega)); (first | (rw [if_neg (fun h => hh.2 h.2)] at hp; exact hp _ hv14 hF14) | (exfalso; omega))))
theorem dX7_groupOf_0 : decode prog_9_method_3_code 0 = .ok (.aload_n 0, 1) := by decide +kernel
theorem dX7_groupOf_1 : decode prog_9_method_3_code 1 = .ok (.invokevirtual 29, 3) := by decide +kernel
theorem dX7_groupOf_4 : decode prog_9_method_3_code 4 = .ok (.aload_n 0, 1) := by decide +kernel
theorem dX7_groupOf_5 : decode prog_9_method_3_code 5 = .ok (.iload_n 1, 1) := by decide +kernel
theorem dX7_groupOf_6 : decode prog_9_method_3_code 6 = .ok (.bipush 63, 2) := by decide +kernel
theorem dX7_groupOf_8 : decode prog_9_method_3_code 8 = .ok (.invokevirtual 32, 3) := by decide +kernel
theorem dX7_groupOf_11 : decode prog_9_method_3_code 11 = .ok (.ireturn, 1) := by decide +kernel
theorem sp_X7_groupOf {a : Nat} (cs : CS S R) (hv : CIv S R I A tx) (ha : a < 6) (hn : 6 ≤ n) (hp : ∀ I', CIv S R I' A tx → Fk I I' → Post (some (.int (iI ((rch (spA A) 63 a : Int))))) S I' R) : Call n 0 0 mX7_groupOf [.ref (S.2.1 291), .int (iI (a : Int))] S I R Post := by
  refine Call.of (by decide +kernel) (Nat.le_of_ble_eq_true rfl) ?_
  show WP _ _ _ _ _ 0 [(0, _), (1, _)] [] 0 0 _ _ _
  refine x_aload_n dX7_groupOf_0 rfl ?_
  refine x_callV0 (mc1 := 0) (ms1 := 0) dX7_groupOf_1 cv_RX7_29 (ci := 7) (k_ob_291 cs) rfl (Nat.le_of_ble_eq_true rfl) (n1 := n - 1) (by omega) (by omega) (by omega) ?_
  refine sp_X7_listen cs hv (by omega) (fun I1 hv1 hF1 hM1 hL1 => ?_)
  have hs1 : SPr I1 (spA A) := fun i hi => ⟨hL1 i hi, spA_lt i⟩
  refine x_aload_n dX7_groupOf_4 rfl ?_
  refine x_iload_n dX7_groupOf_5 rfl ?_
  refine x_bipush dX7_groupOf_6 (by decide) ?_
  refine x_callV2 (mc1 := 0) (ms1 := 0) dX7_groupOf_8 cv_RX7_32 (ci := 7) (k_ob_291 cs) rfl (Nat.le_of_ble_eq_true rfl) (n1 := n - 1) (by omega) (by omega) (by omega) ?_
  refine sp_X7_reached (am := 63) cs hs1 (by omega) ha ?_
  exact x_ireturn dX7_groupOf_11 rfl (by omega) (by omega) (hp _ hv1 hF1)
theorem dX11_group_0 : decode prog_1_method_20_code 0 = .ok (.iload_n 1, 1) := by decide +kernel
theorem dX11_group_1 : decode prog_1_method_20_code 1 = .ok (.invokestatic 219, 3) := by decide +kernel
theorem dX11_group_4 : decode prog_1_method_20_code 4 = .ok (.ifCond .eq 14, 3) := by decide +kernel
theorem dX11_group_7 : decode prog_1_method_20_code 7 = .ok (.aload_n 0, 1) := by decide +kernel
theorem dX11_group_8 : decode prog_1_method_20_code 8 = .ok (.getfield 47, 3) := by decide +kernel
theorem dX11_group_11 : decode prog_1_method_20_code 11 = .ok (.iload_n 1, 1) := by decide +kernel
theorem dX11_group_12 : decode prog_1_method_20_code 12 = .ok (.invokevirtual 222, 3) := by decide +kernel
theorem dX11_group_15 : decode prog_1_method_20_code 15 = .ok (.goto 4, 3) := by decide +kernel
theorem dX11_group_18 : decode prog_1_method_20_code 18 = .ok (.iconst (-1), 1) := by decide +kernel
theorem dX11_group_19 : decode prog_1_method_20_code 19 = .ok (.ireturn, 1) := by decide +kernel
theorem sp_X11_group {a : Int} (cs : CS S R) (hv : CIv S R I A tx) (ha : Rg a) (hn : 7 ≤ n) (hp : ∀ I', CIv S R I' A tx → Fk I I' → Post (some (.int (iI (f_group A a)))) S I' R) : Call n 0 0 mX11_group [.ref (S.2.1 0), .int (iI a)] S I R Post := by
  unfold f_group at hp
  refine Call.of (by decide +kernel) (Nat.le_of_ble_eq_true rfl) ?_
  show WP _ _ _ _ _ 0 [(0, _), (1, _)] [] 0 0 _ _ _
  refine x_iload_n dX11_group_0 rfl ?_
  refine x_callS1 (mc1 := 0) (ms1 := 0) dX11_group_1 cv_RX11_219 (Nat.le_of_ble_eq_true rfl) (n1 := n - 1) (by omega) (by omega) (by omega) ?_
  refine sp_X11_isPerson (by omega) (fun r1 hr1 => ?_)
  refine x_if_eq 18 dX11_group_4 (by decide) (by omega) (fun w4 => ?_) (fun w4 => ?_)
  · refine x_iconst dX11_group_18 ?_
    exact x_ireturn dX11_group_19 rfl (by omega) (by omega) (by first | (rw [if_neg (by omega)] at hp; exact hp _ hv Fk.rf) | (rw [if_pos (by omega)] at hp; exact hp _ hv12 hF12))
  · refine x_aload_n dX11_group_7 rfl ?_
    refine x_getR (b := 291) dX11_group_8 gf_RX11_47 (k_ob_0 cs) (fun _ _ => rfl) (k_r_0_5 cs) ?_
    refine x_iload_n dX11_group_11 rfl ?_
    refine x_callV1 (mc1 := 0) (ms1 := 0) dX11_group_12 cv_RX11_222 (ci := 7) (k_ob_291 cs) rfl (Nat.le_of_ble_eq_true rfl) (n1 := n - 1) (by omega) (by omega) (by omega) ?_
    rw [asN (a := a) (by omega)]
    refine sp_X7_groupOf cs hv (by omega) (by omega) (fun I12 hv12 hF12 => ?_)
    refine x_goto 19 dX11_group_15 (by decide) ?_
    exact x_ireturn dX11_group_19 rfl (by omega) (by omega) (by first | (rw [if_neg (by omega)] at hp; exact hp _ hv Fk.rf) | (rw [if_pos (by omega)] at hp; exact hp _ hv12 hF12))
theorem dX7_costOf_0 : decode prog_9_method_5_code 0 = .ok (.aload_n 0, 1) := by decide +kernel
theorem dX7_costOf_1 : decode prog_9_method_5_code 1 = .ok (.invokevirtual 29, 3) := by decide +kernel
theorem dX7_costOf_4 : decode prog_9_method_5_code 4 = .ok (.aload_n 0, 1) := by decide +kernel
theorem dX7_costOf_5 : decode prog_9_method_5_code 5 = .ok (.getfield 9, 3) := by decide +kernel
theorem dX7_costOf_8 : decode prog_9_method_5_code 8 = .ok (.iload_n 1, 1) := by decide +kernel
theorem dX7_costOf_9 : decode prog_9_method_5_code 9 = .ok (.bipush 6, 2) := by decide +kernel
theorem dX7_costOf_11 : decode prog_9_method_5_code 11 = .ok (.imul, 1) := by decide +kernel
theorem dX7_costOf_12 : decode prog_9_method_5_code 12 = .ok (.iload_n 2, 1) := by decide +kernel
theorem dX7_costOf_13 : decode prog_9_method_5_code 13 = .ok (.iadd, 1) := by decide +kernel
theorem dX7_costOf_14 : decode prog_9_method_5_code 14 = .ok (.iaload, 1) := by decide +kernel
theorem dX7_costOf_15 : decode prog_9_method_5_code 15 = .ok (.ireturn, 1) := by decide +kernel
theorem sp_X7_costOf {a b : Nat} (cs : CS S R) (hv : CIv S R I A tx) (ha : a < 6) (hb6 : b < 6) (hn : 6 ≤ n) (hp : ∀ I', CIv S R I' A tx → Fk I I' → Post (some (.int (iI (cstA A tx a b)))) S I' R) : Call n 0 0 mX7_costOf [.ref (S.2.1 291), .int (iI (a : Int)), .int (iI (b : Int))] S I R Post := by
  refine Call.of (by decide +kernel) (Nat.le_of_ble_eq_true rfl) ?_
  show WP _ _ _ _ _ 0 [(0, _), (1, _), (2, _)] [] 0 0 _ _ _
  refine x_aload_n dX7_costOf_0 rfl ?_
  refine x_callV0 (mc1 := 0) (ms1 := 0) dX7_costOf_1 cv_RX7_29 (ci := 7) (k_ob_291 cs) rfl (Nat.le_of_ble_eq_true rfl) (n1 := n - 1) (by omega) (by omega) (by omega) ?_
  refine sp_X7_listen cs hv (by omega) (fun I1 hv1 hF1 hM1 hL1 => ?_)
  refine x_aload_n dX7_costOf_4 rfl ?_
  refine x_getR (b := 292) dX7_costOf_5 gf_RX7_9 (k_ob_291 cs) (fun _ _ => rfl) (k_r_291_2 cs) ?_
  refine x_iload_n dX7_costOf_8 rfl ?_
  refine x_bipush dX7_costOf_9 (by decide) ?_
  refine x_imul dX7_costOf_11 ?_
  refine x_iload_n dX7_costOf_12 rfl ?_
  refine x_iadd dX7_costOf_13 ?_
  refine x_iaload dX7_costOf_14 (k_ar_292 cs) (by omega) (by omega) ?_
  rw [show ((a : Int) * 6 + (b : Int)).toNat = a * 6 + b by omega, hM1 a b ha hb6]
  exact x_ireturn dX7_costOf_15 rfl (by omega) (by omega) (hp _ hv1 hF1)
theorem dX11_cost_0 : decode prog_1_method_22_code 0 = .ok (.iload_n 1, 1) := by decide +kernel
theorem dX11_cost_1 : decode prog_1_method_22_code 1 = .ok (.iload_n 2, 1) := by decide +kernel
theorem dX11_cost_2 : decode prog_1_method_22_code 2 = .ok (.invokestatic 212, 3) := by decide +kernel
theorem dX11_cost_5 : decode prog_1_method_22_code 5 = .ok (.ifCond .eq 15, 3) := by decide +kernel
theorem dX11_cost_8 : decode prog_1_method_22_code 8 = .ok (.aload_n 0, 1) := by decide +kernel
theorem dX11_cost_9 : decode prog_1_method_22_code 9 = .ok (.getfield 47, 3) := by decide +kernel
theorem dX11_cost_12 : decode prog_1_method_22_code 12 = .ok (.iload_n 1, 1) := by decide +kernel
theorem dX11_cost_13 : decode prog_1_method_22_code 13 = .ok (.iload_n 2, 1) := by decide +kernel
theorem dX11_cost_14 : decode prog_1_method_22_code 14 = .ok (.invokevirtual 229, 3) := by decide +kernel
theorem dX11_cost_17 : decode prog_1_method_22_code 17 = .ok (.goto 4, 3) := by decide +kernel
theorem dX11_cost_20 : decode prog_1_method_22_code 20 = .ok (.iconst (-1), 1) := by decide +kernel
theorem dX11_cost_21 : decode prog_1_method_22_code 21 = .ok (.ireturn, 1) := by decide +kernel
theorem sp_X11_cost {a b : Int} (cs : CS S R) (hv : CIv S R I A tx) (ha : Rg a) (hb6 : Rg b) (hn : 7 ≤ n) (hp : ∀ I', CIv S R I' A tx → Fk I I' → Post (some (.int (iI (f_cost A tx a b)))) S I' R) : Call n 0 0 mX11_cost [.ref (S.2.1 0), .int (iI a), .int (iI b)] S I R Post := by
  unfold f_cost at hp
  refine Call.of (by decide +kernel) (Nat.le_of_ble_eq_true rfl) ?_
  show WP _ _ _ _ _ 0 [(0, _), (1, _), (2, _)] [] 0 0 _ _ _
  refine x_iload_n dX11_cost_0 rfl ?_
  refine x_iload_n dX11_cost_1 rfl ?_
  refine x_callS2 (mc1 := 0) (ms1 := 0) dX11_cost_2 cv_RX11_212 (Nat.le_of_ble_eq_true rfl) (n1 := n - 1) (by omega) (by omega) (by omega) ?_
  refine sp_X11_areTwo (by omega) (by omega) (by omega) (fun r2 hr2 => ?_)
  refine x_if_eq 20 dX11_cost_5 (by decide) (by omega) (fun w5 => ?_) (fun w5 => ?_)
  · refine x_iconst dX11_cost_20 ?_
    exact x_ireturn dX11_cost_21 rfl (by omega) (by omega) (by first | (rw [if_neg (by omega)] at hp; exact hp _ hv Fk.rf) | (rw [if_pos (by omega)] at hp; exact hp _ hv12 hF12))
  · refine x_aload_n dX11_cost_8 rfl ?_
    refine x_getR (b := 291) dX11_cost_9 gf_RX11_47 (k_ob_0 cs) (fun _ _ => rfl) (k_r_0_5 cs) ?_
    refine x_iload_n dX11_cost_12 rfl ?_
    refine x_iload_n dX11_cost_13 rfl ?_
    refine x_callV2 (mc1 := 0) (ms1 := 0) dX11_cost_14 cv_RX11_229 (ci := 7) (k_ob_291 cs) rfl (Nat.le_of_ble_eq_true rfl) (n1 := n - 1) (by omega) (by omega) (by omega) ?_
    rw [asN (a := a) (by omega), asN (a := b) (by omega)]
    refine sp_X7_costOf cs hv (by omega) (by omega) (by omega) (fun I12 hv12 hF12 => ?_)
    refine x_goto 21 dX11_cost_17 (by decide) ?_
    exact x_ireturn dX11_cost_21 rfl (by omega) (by omega) (by first | (rw [if_neg (by omega)] at hp; exact hp _ hv Fk.rf) | (rw [if_pos (by omega)] at hp; exact hp _ hv12 hF12))
def cgL (sp : Nat → Nat) : Nat → Nat × Int × Int
  | 0 => (63, 0, 0)
  | p + 1 => if (cgL sp p).1.testBit p then (sdN (cgL sp p).1 (rch sp 63 p), (cgL sp p).2.1 + 1, if (bcN (rch sp 63 p) : Int) ≤ (cgL sp p).2.2 then (cgL sp p).2.2 else (bcN (rch sp 63 p) : Int)) else cgL sp p
theorem bcN_b (x : Nat) : bcN x ≤ 8 := by unfold bcN; omega
theorem cgL_b {sp : Nat → Nat} : ∀ p : Nat, (cgL sp p).1 < 64 ∧ (0 ≤ (cgL sp p).2.1 ∧ (cgL sp p).2.1 ≤ p) ∧ (0 ≤ (cgL sp p).2.2 ∧ (cgL sp p).2.2 ≤ 8) := by
  intro p
  induction p with
  | zero => simp [cgL]
  | succ p ih =>
    simp only [cgL]
    have h1 := sdN_le (cgL sp p).1 (rch sp 63 p)
    have h2 := bcN_b (rch sp 63 p)
    split
    · refine ⟨by dsimp only; omega, by dsimp only; omega, ?_⟩
      dsimp only
      split <;> omega
    · omega
def f_groups (A : Nat → Int) (m : Int) : Int := if m = 0 then (cgL (spA A) 6).2.1 else (cgL (spA A) 6).2.2
theorem dX7_countGroups_0 : decode prog_9_method_4_code 0 = .ok (.aload_n 0, 1) := by decide +kernel
theorem dX7_countGroups_1 : decode prog_9_method_4_code 1 = .ok (.invokevirtual 29, 3) := by decide +kernel
theorem dX7_countGroups_4 : decode prog_9_method_4_code 4 = .ok (.bipush 63, 2) := by decide +kernel
theorem dX7_countGroups_6 : decode prog_9_method_4_code 6 = .ok (.istore_n 2, 1) := by decide +kernel
theorem dX7_countGroups_7 : decode prog_9_method_4_code 7 = .ok (.iconst 0, 1) := by decide +kernel
theorem dX7_countGroups_8 : decode prog_9_method_4_code 8 = .ok (.istore_n 3, 1) := by decide +kernel
theorem dX7_countGroups_9 : decode prog_9_method_4_code 9 = .ok (.iconst 0, 1) := by decide +kernel
theorem dX7_countGroups_10 : decode prog_9_method_4_code 10 = .ok (.istore 4, 2) := by decide +kernel
theorem dX7_countGroups_12 : decode prog_9_method_4_code 12 = .ok (.iconst 0, 1) := by decide +kernel
theorem dX7_countGroups_13 : decode prog_9_method_4_code 13 = .ok (.istore 5, 2) := by decide +kernel
theorem dX7_countGroups_15 : decode prog_9_method_4_code 15 = .ok (.iload 5, 2) := by decide +kernel
theorem dX7_countGroups_17 : decode prog_9_method_4_code 17 = .ok (.bipush 6, 2) := by decide +kernel
theorem dX7_countGroups_19 : decode prog_9_method_4_code 19 = .ok (.if_icmp .ge 51, 3) := by decide +kernel
theorem dX7_countGroups_22 : decode prog_9_method_4_code 22 = .ok (.iload_n 2, 1) := by decide +kernel
theorem dX7_countGroups_23 : decode prog_9_method_4_code 23 = .ok (.iload 5, 2) := by decide +kernel
theorem dX7_countGroups_25 : decode prog_9_method_4_code 25 = .ok (.ishr, 1) := by decide +kernel
theorem dX7_countGroups_26 : decode prog_9_method_4_code 26 = .ok (.iconst 1, 1) := by decide +kernel
theorem dX7_countGroups_27 : decode prog_9_method_4_code 27 = .ok (.iand, 1) := by decide +kernel
theorem dX7_countGroups_28 : decode prog_9_method_4_code 28 = .ok (.iconst 1, 1) := by decide +kernel
theorem dX7_countGroups_29 : decode prog_9_method_4_code 29 = .ok (.if_icmp .ne 35, 3) := by decide +kernel
theorem dX7_countGroups_32 : decode prog_9_method_4_code 32 = .ok (.aload_n 0, 1) := by decide +kernel
theorem dX7_countGroups_33 : decode prog_9_method_4_code 33 = .ok (.iload 5, 2) := by decide +kernel
theorem dX7_countGroups_35 : decode prog_9_method_4_code 35 = .ok (.bipush 63, 2) := by decide +kernel
theorem dX7_countGroups_37 : decode prog_9_method_4_code 37 = .ok (.invokevirtual 32, 3) := by decide +kernel
theorem dX7_countGroups_40 : decode prog_9_method_4_code 40 = .ok (.istore 6, 2) := by decide +kernel
theorem dX7_countGroups_42 : decode prog_9_method_4_code 42 = .ok (.iload_n 2, 1) := by decide +kernel
theorem dX7_countGroups_43 : decode prog_9_method_4_code 43 = .ok (.iload 6, 2) := by decide +kernel
theorem dX7_countGroups_45 : decode prog_9_method_4_code 45 = .ok (.iconst (-1), 1) := by decide +kernel
theorem dX7_countGroups_46 : decode prog_9_method_4_code 46 = .ok (.ixor, 1) := by decide +kernel
theorem dX7_countGroups_47 : decode prog_9_method_4_code 47 = .ok (.iand, 1) := by decide +kernel
theorem dX7_countGroups_48 : decode prog_9_method_4_code 48 = .ok (.istore_n 2, 1) := by decide +kernel
theorem dX7_countGroups_49 : decode prog_9_method_4_code 49 = .ok (.iinc 3 1, 3) := by decide +kernel
theorem dX7_countGroups_52 : decode prog_9_method_4_code 52 = .ok (.iload 4, 2) := by decide +kernel
theorem dX7_countGroups_54 : decode prog_9_method_4_code 54 = .ok (.iload 6, 2) := by decide +kernel
theorem dX7_countGroups_56 : decode prog_9_method_4_code 56 = .ok (.invokestatic 36, 3) := by decide +kernel
theorem dX7_countGroups_59 : decode prog_9_method_4_code 59 = .ok (.invokestatic 42, 3) := by decide +kernel
theorem dX7_countGroups_62 : decode prog_9_method_4_code 62 = .ok (.istore 4, 2) := by decide +kernel
theorem dX7_countGroups_64 : decode prog_9_method_4_code 64 = .ok (.iinc 5 1, 3) := by decide +kernel
theorem dX7_countGroups_67 : decode prog_9_method_4_code 67 = .ok (.goto (-52), 3) := by decide +kernel
theorem dX7_countGroups_70 : decode prog_9_method_4_code 70 = .ok (.iload_n 1, 1) := by decide +kernel
theorem dX7_countGroups_71 : decode prog_9_method_4_code 71 = .ok (.ifCond .eq 8, 3) := by decide +kernel
theorem dX7_countGroups_74 : decode prog_9_method_4_code 74 = .ok (.iload 4, 2) := by decide +kernel
theorem dX7_countGroups_76 : decode prog_9_method_4_code 76 = .ok (.goto 4, 3) := by decide +kernel
theorem dX7_countGroups_79 : decode prog_9_method_4_code 79 = .ok (.iload_n 3, 1) := by decide +kernel
theorem dX7_countGroups_80 : decode prog_9_method_4_code 80 = .ok (.ireturn, 1) := by decide +kernel
theorem lp_X7_countGroups {sp : Nat → Nat} {m : Int} (cs : CS S R) (hs : SPr I sp) (hm : m = 0 ∨ m = 1) (hn : 1 ≤ n) (hp : Post (some (.int (iI (if m = 0 then (cgL sp 6).2.1 else (cgL sp 6).2.2)))) S I R) : ∀ (d p : Nat), p ≤ 6 → 6 - p = d → WP n 0 0 mX7_countGroups Post 15 [(0, .ref (S.2.1 291)), (1, .int (iI m)), (2, .int (iI ((cgL sp p).1 : Int))), (3, .int (iI (cgL sp p).2.1)), (4, .int (iI (cgL sp p).2.2)), (5, .int (iI (p : Int)))] [] 0 0 S I R := by
  intro d
  induction d using Nat.strongRecOn with
  | ind d ih =>
    intro p k1 k2
    have hcg := cgL_b (sp := sp) p
    refine x_iload dX7_countGroups_15 rfl ?_
    refine x_bipush dX7_countGroups_17 (by decide) ?_
    refine x_icmp_ge 70 dX7_countGroups_19 (by decide) ⟨(by omega), (by omega)⟩ (fun w19 => ?_) (fun w19 => ?_)
    · refine x_iload_n dX7_countGroups_70 rfl ?_
      refine x_if_eq 79 dX7_countGroups_71 (by decide) (by omega) (fun w71 => ?_) (fun w71 => ?_)
      · refine x_iload_n dX7_countGroups_79 rfl ?_
        exact x_ireturn dX7_countGroups_80 rfl (by omega) (by omega) (by obtain rfl : p = 6 := (by omega); first | (rw [if_pos (by omega)] at hp; exact hp) | (rw [if_neg (by omega)] at hp; exact hp))
      · refine x_iload dX7_countGroups_74 rfl ?_
        refine x_goto 80 dX7_countGroups_76 (by decide) ?_
        exact x_ireturn dX7_countGroups_80 rfl (by omega) (by omega) (by obtain rfl : p = 6 := (by omega); first | (rw [if_pos (by omega)] at hp; exact hp) | (rw [if_neg (by omega)] at hp; exact hp))
    · refine x_iload_n dX7_countGroups_22 rfl ?_
      refine x_iload dX7_countGroups_23 rfl ?_
      refine x_ishr dX7_countGroups_25 ?_
      have hb := has_c (x := (cgL sp p).1) (k := p) (by omega) (by omega)
      refine x_iconst dX7_countGroups_26 ?_
      refine x_iand dX7_countGroups_27 ?_
      refine x_iconst dX7_countGroups_28 ?_
      refine x_icmp_ne 64 dX7_countGroups_29 (by decide) ⟨(by omega), (by omega)⟩ (fun w29 => ?_) (fun w29 => ?_)
      · refine x_iinc (lv2 := [(5, _), (0, _), (1, _), (2, _), (3, _), (4, _)]) dX7_countGroups_64 rfl (by decide) rfl ?_
        refine x_goto 15 dX7_countGroups_67 (by decide) ?_
        refine x_sub [1, 2, 3, 4, 5, 0] rfl ?_
        have hg := ih _ (by omega) (p + 1) (by omega) rfl
        first
          | (rw [show cgL sp (p + 1) = cgL sp p from if_neg (fun h => by rw [h] at hb; simp at hb; omega)] at hg; exact hg)
          | (rw [show cgL sp (p + 1) = (sdN (cgL sp p).1 (rch sp 63 p), (cgL sp p).2.1 + 1, if (bcN (rch sp 63 p) : Int) ≤ (cgL sp p).2.2 then (cgL sp p).2.2 else (bcN (rch sp 63 p) : Int)) from if_pos (by rcases hb with hh | hh; exact hh.2; exfalso; omega)] at hg
             dsimp only at hg
             rcases hr59 with hh | hh
             · rw [if_pos hh.2, ← hh.1] at hg; exact hg
             · rw [if_neg (by omega), ← hh.1] at hg; exact hg)
      · refine x_aload_n dX7_countGroups_32 rfl ?_
        refine x_iload dX7_countGroups_33 rfl ?_
        refine x_bipush dX7_countGroups_35 (by decide) ?_
        refine x_callV2 (mc1 := 0) (ms1 := 0) dX7_countGroups_37 cv_RX7_32 (ci := 7) (k_ob_291 cs) rfl (Nat.le_of_ble_eq_true rfl) (n1 := n - 1) (by omega) (by omega) (by omega) ?_
        refine sp_X7_reached (am := 63) cs hs (by omega) (by omega) ?_
        have hrl := rch_lt (am := 63) (p := p) (fun i h => (hs i h).2) (by omega)
        have hbb := bcN_b (rch sp 63 p)
        refine x_istore (lv2 := [(6, _), (0, _), (1, _), (2, _), (3, _), (4, _), (5, _)]) dX7_countGroups_40 (by decide) rfl ?_
        refine x_iload_n dX7_countGroups_42 rfl ?_
        refine x_iload dX7_countGroups_43 rfl ?_
        refine x_iconst dX7_countGroups_45 ?_
        refine x_ixor dX7_countGroups_46 ?_
        refine x_iand dX7_countGroups_47 ?_
        rw [andnot_n (by omega) (by omega)]
        refine x_istore_n (lv2 := [(2, _), (6, _), (0, _), (1, _), (3, _), (4, _), (5, _)]) dX7_countGroups_48 (by decide) rfl ?_
        refine x_iinc (lv2 := [(3, _), (2, _), (6, _), (0, _), (1, _), (4, _), (5, _)]) dX7_countGroups_49 rfl (by decide) rfl ?_
        refine x_iload dX7_countGroups_52 rfl ?_
        refine x_iload dX7_countGroups_54 rfl ?_
        refine x_callS1 (mc1 := 0) (ms1 := 0) dX7_countGroups_56 cv_RX7_36 (Nat.le_of_ble_eq_true rfl) (n1 := n - 1) (by omega) (by omega) (by omega) ?_
        refine sp_bitCount (by omega) ?_
        refine x_mmax dX7_countGroups_59 cv_RX7_42 (by omega) (Nat.le_of_ble_eq_true rfl) (by omega) (by omega) (by omega) (fun r59 hr59 => ?_)
        refine x_istore (lv2 := [(4, _), (3, _), (2, _), (6, _), (0, _), (1, _), (5, _)]) dX7_countGroups_62 (by decide) rfl ?_
        refine x_iinc (lv2 := [(5, _), (4, _), (3, _), (2, _), (6, _), (0, _), (1, _)]) dX7_countGroups_64 rfl (by decide) rfl ?_
        refine x_goto 15 dX7_countGroups_67 (by decide) ?_
        refine x_sub [5, 6, 3, 2, 1, 0] rfl ?_
        have hg := ih _ (by omega) (p + 1) (by omega) rfl
        first
          | (rw [show cgL sp (p + 1) = cgL sp p from if_neg (fun h => by rw [h] at hb; simp at hb; omega)] at hg; exact hg)
          | (rw [show cgL sp (p + 1) = (sdN (cgL sp p).1 (rch sp 63 p), (cgL sp p).2.1 + 1, if (bcN (rch sp 63 p) : Int) ≤ (cgL sp p).2.2 then (cgL sp p).2.2 else (bcN (rch sp 63 p) : Int)) from if_pos (by rcases hb with hh | hh; exact hh.2; exfalso; omega)] at hg
             dsimp only at hg
             rcases hr59 with hh | hh
             · rw [if_pos hh.2, ← hh.1] at hg; exact hg
             · rw [if_neg (by omega), ← hh.1] at hg; exact hg)
theorem sp_X7_countGroups {m : Int} (cs : CS S R) (hv : CIv S R I A tx) (hm : m = 0 ∨ m = 1) (hn : 6 ≤ n) (hp : ∀ I', CIv S R I' A tx → Fk I I' → Post (some (.int (iI (f_groups A m)))) S I' R) : Call n 0 0 mX7_countGroups [.ref (S.2.1 291), .int (iI m)] S I R Post := by
  unfold f_groups at hp
  refine Call.of (by decide +kernel) (Nat.le_of_ble_eq_true rfl) ?_
  show WP _ _ _ _ _ 0 [(0, _), (1, _)] [] 0 0 _ _ _
  refine x_aload_n dX7_countGroups_0 rfl ?_
  refine x_callV0 (mc1 := 0) (ms1 := 0) dX7_countGroups_1 cv_RX7_29 (ci := 7) (k_ob_291 cs) rfl (Nat.le_of_ble_eq_true rfl) (n1 := n - 1) (by omega) (by omega) (by omega) ?_
  refine sp_X7_listen cs hv (by omega) (fun I1 hv1 hF1 hM1 hL1 => ?_)
  have hs1 : SPr I1 (spA A) := fun i hi => ⟨hL1 i hi, spA_lt i⟩
  refine x_bipush dX7_countGroups_4 (by decide) ?_
  refine x_istore_n (lv2 := [(2, _), (0, _), (1, _)]) dX7_countGroups_6 (by decide) rfl ?_
  refine x_iconst dX7_countGroups_7 ?_
  refine x_istore_n (lv2 := [(3, _), (2, _), (0, _), (1, _)]) dX7_countGroups_8 (by decide) rfl ?_
  refine x_iconst dX7_countGroups_9 ?_
  refine x_istore (lv2 := [(4, _), (3, _), (2, _), (0, _), (1, _)]) dX7_countGroups_10 (by decide) rfl ?_
  refine x_iconst dX7_countGroups_12 ?_
  refine x_istore (lv2 := [(5, _), (4, _), (3, _), (2, _), (0, _), (1, _)]) dX7_countGroups_13 (by decide) rfl ?_
  refine x_sub [4, 5, 3, 2, 1, 0] rfl ?_
  exact lp_X7_countGroups cs hs1 hm (by omega) (hp _ hv1 hF1) _ 0 (by omega) rfl
theorem dX11_groups_0 : decode prog_1_method_21_code 0 = .ok (.aload_n 0, 1) := by decide +kernel
theorem dX11_groups_1 : decode prog_1_method_21_code 1 = .ok (.getfield 47, 3) := by decide +kernel
theorem dX11_groups_4 : decode prog_1_method_21_code 4 = .ok (.iload_n 1, 1) := by decide +kernel
theorem dX11_groups_5 : decode prog_1_method_21_code 5 = .ok (.invokevirtual 225, 3) := by decide +kernel
theorem dX11_groups_8 : decode prog_1_method_21_code 8 = .ok (.ireturn, 1) := by decide +kernel
theorem sp_X11_groups {m : Int} (cs : CS S R) (hv : CIv S R I A tx) (hm : m = 0 ∨ m = 1) (hn : 7 ≤ n) (hp : ∀ I', CIv S R I' A tx → Fk I I' → Post (some (.int (iI (f_groups A m)))) S I' R) : Call n 0 0 mX11_groups [.ref (S.2.1 0), .int (iI m)] S I R Post := by
  refine Call.of (by decide +kernel) (Nat.le_of_ble_eq_true rfl) ?_
  show WP _ _ _ _ _ 0 [(0, _), (1, _)] [] 0 0 _ _ _
  refine x_aload_n dX11_groups_0 rfl ?_
  refine x_getR (b := 291) dX11_groups_1 gf_RX11_47 (k_ob_0 cs) (fun _ _ => rfl) (k_r_0_5 cs) ?_
  refine x_iload_n dX11_groups_4 rfl ?_
  refine x_callV1 (mc1 := 0) (ms1 := 0) dX11_groups_5 cv_RX11_225 (ci := 7) (k_ob_291 cs) rfl (Nat.le_of_ble_eq_true rfl) (n1 := n - 1) (by omega) (by omega) (by omega) ?_
  refine sp_X7_countGroups cs hv hm (by omega) (fun I5 hv5 hF5 => ?_)
  exact x_ireturn dX11_groups_8 rfl (by omega) (by omega) (hp _ hv5 hF5)
def siL (sp : Nat → Nat) : Nat → Nat
  | 0 => 0
  | p + 1 => if sp p = 0 then siL sp p ||| 2 ^ p else siL sp p
theorem orb_lt {x p : Nat} (h : x < 2 ^ p) : x ||| 2 ^ p < 2 ^ (p + 1) := Nat.or_lt_two_pow (Nat.lt_trans h (Nat.pow_lt_pow_right (by decide) (by omega))) (Nat.pow_lt_pow_right (by decide) (by omega))
theorem siL_lt {sp : Nat → Nat} : ∀ p : Nat, siL sp p < 2 ^ p := by
  intro p
  induction p with
  | zero => exact Nat.one_pos
  | succ p ih =>
    simp only [siL]
    split
    · exact orb_lt ih
    · exact Nat.lt_trans ih (Nat.pow_lt_pow_right (by decide) (by omega))
def f_silent (A : Nat → Int) : Int := (siL (spA A) 6 : Int)
theorem dX7_findSilent_0 : decode prog_9_method_11_code 0 = .ok (.aload_n 0, 1) := by decide +kernel
theorem dX7_findSilent_1 : decode prog_9_method_11_code 1 = .ok (.invokevirtual 29, 3) := by decide +kernel
theorem dX7_findSilent_4 : decode prog_9_method_11_code 4 = .ok (.iconst 0, 1) := by decide +kernel
theorem dX7_findSilent_5 : decode prog_9_method_11_code 5 = .ok (.istore_n 1, 1) := by decide +kernel
theorem dX7_findSilent_6 : decode prog_9_method_11_code 6 = .ok (.iconst 0, 1) := by decide +kernel
theorem dX7_findSilent_7 : decode prog_9_method_11_code 7 = .ok (.istore_n 2, 1) := by decide +kernel
theorem dX7_findSilent_8 : decode prog_9_method_11_code 8 = .ok (.iload_n 2, 1) := by decide +kernel
theorem dX7_findSilent_9 : decode prog_9_method_11_code 9 = .ok (.bipush 6, 2) := by decide +kernel
theorem dX7_findSilent_11 : decode prog_9_method_11_code 11 = .ok (.if_icmp .ge 24, 3) := by decide +kernel
theorem dX7_findSilent_14 : decode prog_9_method_11_code 14 = .ok (.aload_n 0, 1) := by decide +kernel
theorem dX7_findSilent_15 : decode prog_9_method_11_code 15 = .ok (.getfield 15, 3) := by decide +kernel
theorem dX7_findSilent_18 : decode prog_9_method_11_code 18 = .ok (.iload_n 2, 1) := by decide +kernel
theorem dX7_findSilent_19 : decode prog_9_method_11_code 19 = .ok (.iaload, 1) := by decide +kernel
theorem dX7_findSilent_20 : decode prog_9_method_11_code 20 = .ok (.ifCond .ne 9, 3) := by decide +kernel
theorem dX7_findSilent_23 : decode prog_9_method_11_code 23 = .ok (.iload_n 1, 1) := by decide +kernel
theorem dX7_findSilent_24 : decode prog_9_method_11_code 24 = .ok (.iconst 1, 1) := by decide +kernel
theorem dX7_findSilent_25 : decode prog_9_method_11_code 25 = .ok (.iload_n 2, 1) := by decide +kernel
theorem dX7_findSilent_26 : decode prog_9_method_11_code 26 = .ok (.ishl, 1) := by decide +kernel
theorem dX7_findSilent_27 : decode prog_9_method_11_code 27 = .ok (.ior, 1) := by decide +kernel
theorem dX7_findSilent_28 : decode prog_9_method_11_code 28 = .ok (.istore_n 1, 1) := by decide +kernel
theorem dX7_findSilent_29 : decode prog_9_method_11_code 29 = .ok (.iinc 2 1, 3) := by decide +kernel
theorem dX7_findSilent_32 : decode prog_9_method_11_code 32 = .ok (.goto (-24), 3) := by decide +kernel
theorem dX7_findSilent_35 : decode prog_9_method_11_code 35 = .ok (.iload_n 1, 1) := by decide +kernel
theorem dX7_findSilent_36 : decode prog_9_method_11_code 36 = .ok (.ireturn, 1) := by decide +kernel
theorem lp_X7_findSilent {sp : Nat → Nat} (cs : CS S R) (hs : SPr I sp) (hp : Post (some (.int (iI (siL sp 6 : Int)))) S I R) : ∀ (d p : Nat), p ≤ 6 → 6 - p = d → WP n 0 0 mX7_findSilent Post 8 [(0, .ref (S.2.1 291)), (1, .int (iI (siL sp p : Int))), (2, .int (iI (p : Int)))] [] 0 0 S I R := by
  intro d
  induction d using Nat.strongRecOn with
  | ind d ih =>
    intro p k1 k2
    have hsl := siL_lt (sp := sp) p
    have hpp : 2 ^ p ≤ 64 := Nat.pow_le_pow_right (n := 2) (by decide) k1
    have hsi : p < 6 → I 293 p = (sp p : Int) ∧ sp p < 64 := hs p
    refine x_iload_n dX7_findSilent_8 rfl ?_
    refine x_bipush dX7_findSilent_9 (by decide) ?_
    refine x_icmp_ge 35 dX7_findSilent_11 (by decide) ⟨(by omega), (by omega)⟩ (fun w11 => ?_) (fun w11 => ?_)
    · refine x_iload_n dX7_findSilent_35 rfl ?_
      exact x_ireturn dX7_findSilent_36 rfl (by omega) (by omega) (by obtain rfl : p = 6 := (by omega); exact hp)
    · refine x_aload_n dX7_findSilent_14 rfl ?_
      refine x_getR (b := 293) dX7_findSilent_15 gf_RX7_15 (k_ob_291 cs) (fun _ _ => rfl) (k_r_291_3 cs) ?_
      refine x_iload_n dX7_findSilent_18 rfl ?_
      refine x_iaload dX7_findSilent_19 (k_ar_293 cs) (by omega) (by omega) ?_
      rw [tN, (hsi (by omega)).1]
      have hs6 := (hsi (by omega)).2
      refine x_if_ne 29 dX7_findSilent_20 (by decide) (by omega) (fun w20 => ?_) (fun w20 => ?_)
      · refine x_iinc (lv2 := [(2, _), (0, _), (1, _)]) dX7_findSilent_29 rfl (by decide) rfl ?_
        refine x_goto 8 dX7_findSilent_32 (by decide) ?_
        refine x_sub [1, 2, 0] rfl ?_
        have hg := ih _ (by omega) (p + 1) (by omega) rfl
        first
          | (rw [show siL sp (p + 1) = siL sp p from if_neg (by omega)] at hg; exact hg)
          | (rw [show siL sp (p + 1) = siL sp p ||| 2 ^ p from if_pos (by omega)] at hg; exact hg)
      · refine x_iload_n dX7_findSilent_23 rfl ?_
        refine x_iconst dX7_findSilent_24 ?_
        refine x_iload_n dX7_findSilent_25 rfl ?_
        refine x_ishl dX7_findSilent_26 ?_
        rw [shl1_n (by omega)]
        refine x_ior dX7_findSilent_27 ?_
        rw [orI_n (by omega) (by omega)]
        refine x_istore_n (lv2 := [(1, _), (0, _), (2, _)]) dX7_findSilent_28 (by decide) rfl ?_
        refine x_iinc (lv2 := [(2, _), (1, _), (0, _)]) dX7_findSilent_29 rfl (by decide) rfl ?_
        refine x_goto 8 dX7_findSilent_32 (by decide) ?_
        refine x_sub [2, 1, 0] rfl ?_
        have hg := ih _ (by omega) (p + 1) (by omega) rfl
        first
          | (rw [show siL sp (p + 1) = siL sp p from if_neg (by omega)] at hg; exact hg)
          | (rw [show siL sp (p + 1) = siL sp p ||| 2 ^ p from if_pos (by omega)] at hg; exact hg)
theorem sp_X7_findSilent  (cs : CS S R) (hv : CIv S R I A tx) (hn : 6 ≤ n) (hp : ∀ I', CIv S R I' A tx → Fk I I' → Post (some (.int (iI (f_silent A)))) S I' R) : Call n 0 0 mX7_findSilent [.ref (S.2.1 291)] S I R Post := by
  refine Call.of (by decide +kernel) (Nat.le_of_ble_eq_true rfl) ?_
  show WP _ _ _ _ _ 0 [(0, _)] [] 0 0 _ _ _
  refine x_aload_n dX7_findSilent_0 rfl ?_
  refine x_callV0 (mc1 := 0) (ms1 := 0) dX7_findSilent_1 cv_RX7_29 (ci := 7) (k_ob_291 cs) rfl (Nat.le_of_ble_eq_true rfl) (n1 := n - 1) (by omega) (by omega) (by omega) ?_
  refine sp_X7_listen cs hv (by omega) (fun I1 hv1 hF1 hM1 hL1 => ?_)
  have hs1 : SPr I1 (spA A) := fun i hi => ⟨hL1 i hi, spA_lt i⟩
  refine x_iconst dX7_findSilent_4 ?_
  refine x_istore_n (lv2 := [(1, _), (0, _)]) dX7_findSilent_5 (by decide) rfl ?_
  refine x_iconst dX7_findSilent_6 ?_
  refine x_istore_n (lv2 := [(2, _), (1, _), (0, _)]) dX7_findSilent_7 (by decide) rfl ?_
  refine x_sub [2, 1, 0] rfl ?_
  exact lp_X7_findSilent cs hs1 (hp _ hv1 hF1) _ 0 (by omega) rfl
theorem dX11_silent_0 : decode prog_1_method_43_code 0 = .ok (.aload_n 0, 1) := by decide +kernel
theorem dX11_silent_1 : decode prog_1_method_43_code 1 = .ok (.getfield 47, 3) := by decide +kernel
theorem dX11_silent_4 : decode prog_1_method_43_code 4 = .ok (.invokevirtual 348, 3) := by decide +kernel
theorem dX11_silent_7 : decode prog_1_method_43_code 7 = .ok (.ireturn, 1) := by decide +kernel
theorem sp_X11_silent  (cs : CS S R) (hv : CIv S R I A tx) (hn : 7 ≤ n) (hp : ∀ I', CIv S R I' A tx → Fk I I' → Post (some (.int (iI (f_silent A)))) S I' R) : Call n 0 0 mX11_silent [.ref (S.2.1 0)] S I R Post := by
  refine Call.of (by decide +kernel) (Nat.le_of_ble_eq_true rfl) ?_
  show WP _ _ _ _ _ 0 [(0, _)] [] 0 0 _ _ _
  refine x_aload_n dX11_silent_0 rfl ?_
  refine x_getR (b := 291) dX11_silent_1 gf_RX11_47 (k_ob_0 cs) (fun _ _ => rfl) (k_r_0_5 cs) ?_
  refine x_callV0 (mc1 := 0) (ms1 := 0) dX11_silent_4 cv_RX11_348 (ci := 7) (k_ob_291 cs) rfl (Nat.le_of_ble_eq_true rfl) (n1 := n - 1) (by omega) (by omega) (by omega) ?_
  refine sp_X7_findSilent cs hv (by omega) (fun I5 hv5 hF5 => ?_)
  exact x_ireturn dX11_silent_7 rfl (by omega) (by omega) (hp _ hv5 hF5)
def otP (sp : Nat → Nat) (p : Nat) : Nat := sdN (rch sp 63 p) (2 ^ p)
def gsL (sp : Nat → Nat) : Nat → Nat
  | 0 => 0
  | p + 1 => if otP sp p ≠ 0 ∧ rch sp (otP sp p) (lowN (otP sp p)) ≠ otP sp p then gsL sp p ||| 2 ^ p else gsL sp p
theorem gsL_lt {sp : Nat → Nat} : ∀ p : Nat, gsL sp p < 2 ^ p := by
  intro p
  induction p with
  | zero => exact Nat.one_pos
  | succ p ih =>
    simp only [gsL]
    split
    · exact orb_lt ih
    · exact Nat.lt_trans ih (Nat.pow_lt_pow_right (by decide) (by omega))
theorem lowN_b (x : Nat) : lowN x < 6 := by unfold lowN; split <;> first | omega | (split <;> first | omega | (split <;> first | omega | (split <;> first | omega | (split <;> omega))))
def f_gossips (A : Nat → Int) : Int := (gsL (spA A) 6 : Int)
theorem dX7_findGossips_0 : decode prog_9_method_10_code 0 = .ok (.aload_n 0, 1) := by decide +kernel
theorem dX7_findGossips_1 : decode prog_9_method_10_code 1 = .ok (.invokevirtual 29, 3) := by decide +kernel
theorem dX7_findGossips_4 : decode prog_9_method_10_code 4 = .ok (.iconst 0, 1) := by decide +kernel
theorem dX7_findGossips_5 : decode prog_9_method_10_code 5 = .ok (.istore_n 1, 1) := by decide +kernel
theorem dX7_findGossips_6 : decode prog_9_method_10_code 6 = .ok (.iconst 0, 1) := by decide +kernel
theorem dX7_findGossips_7 : decode prog_9_method_10_code 7 = .ok (.istore_n 2, 1) := by decide +kernel
theorem dX7_findGossips_8 : decode prog_9_method_10_code 8 = .ok (.iload_n 2, 1) := by decide +kernel
theorem dX7_findGossips_9 : decode prog_9_method_10_code 9 = .ok (.bipush 6, 2) := by decide +kernel
theorem dX7_findGossips_11 : decode prog_9_method_10_code 11 = .ok (.if_icmp .ge 46, 3) := by decide +kernel
theorem dX7_findGossips_14 : decode prog_9_method_10_code 14 = .ok (.aload_n 0, 1) := by decide +kernel
theorem dX7_findGossips_15 : decode prog_9_method_10_code 15 = .ok (.iload_n 2, 1) := by decide +kernel
theorem dX7_findGossips_16 : decode prog_9_method_10_code 16 = .ok (.bipush 63, 2) := by decide +kernel
theorem dX7_findGossips_18 : decode prog_9_method_10_code 18 = .ok (.invokevirtual 32, 3) := by decide +kernel
theorem dX7_findGossips_21 : decode prog_9_method_10_code 21 = .ok (.iconst 1, 1) := by decide +kernel
theorem dX7_findGossips_22 : decode prog_9_method_10_code 22 = .ok (.iload_n 2, 1) := by decide +kernel
theorem dX7_findGossips_23 : decode prog_9_method_10_code 23 = .ok (.ishl, 1) := by decide +kernel
theorem dX7_findGossips_24 : decode prog_9_method_10_code 24 = .ok (.iconst (-1), 1) := by decide +kernel
theorem dX7_findGossips_25 : decode prog_9_method_10_code 25 = .ok (.ixor, 1) := by decide +kernel
theorem dX7_findGossips_26 : decode prog_9_method_10_code 26 = .ok (.iand, 1) := by decide +kernel
theorem dX7_findGossips_27 : decode prog_9_method_10_code 27 = .ok (.istore_n 3, 1) := by decide +kernel
theorem dX7_findGossips_28 : decode prog_9_method_10_code 28 = .ok (.iload_n 3, 1) := by decide +kernel
theorem dX7_findGossips_29 : decode prog_9_method_10_code 29 = .ok (.ifCond .eq 22, 3) := by decide +kernel
theorem dX7_findGossips_32 : decode prog_9_method_10_code 32 = .ok (.aload_n 0, 1) := by decide +kernel
theorem dX7_findGossips_33 : decode prog_9_method_10_code 33 = .ok (.iload_n 3, 1) := by decide +kernel
theorem dX7_findGossips_34 : decode prog_9_method_10_code 34 = .ok (.invokestatic 67, 3) := by decide +kernel
theorem dX7_findGossips_37 : decode prog_9_method_10_code 37 = .ok (.iload_n 3, 1) := by decide +kernel
theorem dX7_findGossips_38 : decode prog_9_method_10_code 38 = .ok (.invokevirtual 32, 3) := by decide +kernel
theorem dX7_findGossips_41 : decode prog_9_method_10_code 41 = .ok (.iload_n 3, 1) := by decide +kernel
theorem dX7_findGossips_42 : decode prog_9_method_10_code 42 = .ok (.if_icmp .eq 9, 3) := by decide +kernel
theorem dX7_findGossips_45 : decode prog_9_method_10_code 45 = .ok (.iload_n 1, 1) := by decide +kernel
theorem dX7_findGossips_46 : decode prog_9_method_10_code 46 = .ok (.iconst 1, 1) := by decide +kernel
theorem dX7_findGossips_47 : decode prog_9_method_10_code 47 = .ok (.iload_n 2, 1) := by decide +kernel
theorem dX7_findGossips_48 : decode prog_9_method_10_code 48 = .ok (.ishl, 1) := by decide +kernel
theorem dX7_findGossips_49 : decode prog_9_method_10_code 49 = .ok (.ior, 1) := by decide +kernel
theorem dX7_findGossips_50 : decode prog_9_method_10_code 50 = .ok (.istore_n 1, 1) := by decide +kernel
theorem dX7_findGossips_51 : decode prog_9_method_10_code 51 = .ok (.iinc 2 1, 3) := by decide +kernel
theorem dX7_findGossips_54 : decode prog_9_method_10_code 54 = .ok (.goto (-46), 3) := by decide +kernel
theorem dX7_findGossips_57 : decode prog_9_method_10_code 57 = .ok (.iload_n 1, 1) := by decide +kernel
theorem dX7_findGossips_58 : decode prog_9_method_10_code 58 = .ok (.ireturn, 1) := by decide +kernel
theorem lp_X7_findGossips {sp : Nat → Nat} (cs : CS S R) (hs : SPr I sp) (hn : 1 ≤ n) (hp : Post (some (.int (iI (gsL sp 6 : Int)))) S I R) : ∀ (d p : Nat), p ≤ 6 → 6 - p = d → WP n 0 0 mX7_findGossips Post 8 [(0, .ref (S.2.1 291)), (1, .int (iI (gsL sp p : Int))), (2, .int (iI (p : Int)))] [] 0 0 S I R := by
  intro d
  induction d using Nat.strongRecOn with
  | ind d ih =>
    intro p k1 k2
    have hsl := gsL_lt (sp := sp) p
    have hpp : 2 ^ p ≤ 64 := Nat.pow_le_pow_right (n := 2) (by decide) k1
    have hot := sdN_le (rch sp 63 p) (2 ^ p)
    have hlo := lowN_b (otP sp p)
    have hr1 : p < 6 → rch sp 63 p < 64 := fun h => rch_lt (fun i h => (hs i h).2) h
    have hr2 := rch_lt (am := otP sp p) (fun i h => (hs i h).2) hlo
    have hoe : sdN (rch sp 63 p) (2 ^ p) = otP sp p := rfl
    refine x_iload_n dX7_findGossips_8 rfl ?_
    refine x_bipush dX7_findGossips_9 (by decide) ?_
    refine x_icmp_ge 57 dX7_findGossips_11 (by decide) ⟨(by omega), (by omega)⟩ (fun w11 => ?_) (fun w11 => ?_)
    · refine x_iload_n dX7_findGossips_57 rfl ?_
      exact x_ireturn dX7_findGossips_58 rfl (by omega) (by omega) (by obtain rfl : p = 6 := (by omega); exact hp)
    · refine x_aload_n dX7_findGossips_14 rfl ?_
      refine x_iload_n dX7_findGossips_15 rfl ?_
      refine x_bipush dX7_findGossips_16 (by decide) ?_
      refine x_callV2 (mc1 := 0) (ms1 := 0) dX7_findGossips_18 cv_RX7_32 (ci := 7) (k_ob_291 cs) rfl (Nat.le_of_ble_eq_true rfl) (n1 := n - 1) (by omega) (by omega) (by omega) ?_
      refine sp_X7_reached (am := 63) cs hs (by omega) (by omega) ?_
      refine x_iconst dX7_findGossips_21 ?_
      refine x_iload_n dX7_findGossips_22 rfl ?_
      refine x_ishl dX7_findGossips_23 ?_
      rw [shl1_n (by omega)]
      have hr6 := hr1 (by omega)
      refine x_iconst dX7_findGossips_24 ?_
      refine x_ixor dX7_findGossips_25 ?_
      refine x_iand dX7_findGossips_26 ?_
      rw [andnot_n (by omega) (by omega), hoe]
      refine x_istore_n (lv2 := [(3, _), (0, _), (1, _), (2, _)]) dX7_findGossips_27 (by decide) rfl ?_
      refine x_iload_n dX7_findGossips_28 rfl ?_
      refine x_if_eq 51 dX7_findGossips_29 (by decide) (by omega) (fun w29 => ?_) (fun w29 => ?_)
      · refine x_iinc (lv2 := [(2, _), (3, _), (0, _), (1, _)]) dX7_findGossips_51 rfl (by decide) rfl ?_
        refine x_goto 8 dX7_findGossips_54 (by decide) ?_
        refine x_sub [2, 3, 0] rfl ?_
        have hg := ih _ (by omega) (p + 1) (by omega) rfl
        first
          | (rw [show gsL sp (p + 1) = gsL sp p from if_neg (by omega)] at hg; exact hg)
          | (rw [show gsL sp (p + 1) = gsL sp p ||| 2 ^ p from if_pos (by omega)] at hg; exact hg)
      · refine x_aload_n dX7_findGossips_32 rfl ?_
        refine x_iload_n dX7_findGossips_33 rfl ?_
        refine x_callS1 (mc1 := 0) (ms1 := 0) dX7_findGossips_34 cv_RX7_67 (Nat.le_of_ble_eq_true rfl) (n1 := n - 1) (by omega) (by omega) (by omega) ?_
        refine sp_ntz (x := otP sp p) (by omega) ?_
        refine x_iload_n dX7_findGossips_37 rfl ?_
        refine x_callV2 (mc1 := 0) (ms1 := 0) dX7_findGossips_38 cv_RX7_32 (ci := 7) (k_ob_291 cs) rfl (Nat.le_of_ble_eq_true rfl) (n1 := n - 1) (by omega) (by omega) (by omega) ?_
        refine sp_X7_reached (am := otP sp p) cs hs (by omega) (by omega) ?_
        refine x_iload_n dX7_findGossips_41 rfl ?_
        refine x_icmp_eq 51 dX7_findGossips_42 (by decide) ⟨(by omega), (by omega)⟩ (fun w42 => ?_) (fun w42 => ?_)
        · refine x_iinc (lv2 := [(2, _), (3, _), (0, _), (1, _)]) dX7_findGossips_51 rfl (by decide) rfl ?_
          refine x_goto 8 dX7_findGossips_54 (by decide) ?_
          refine x_sub [2, 3, 0] rfl ?_
          have hg := ih _ (by omega) (p + 1) (by omega) rfl
          first
            | (rw [show gsL sp (p + 1) = gsL sp p from if_neg (by omega)] at hg; exact hg)
            | (rw [show gsL sp (p + 1) = gsL sp p ||| 2 ^ p from if_pos (by omega)] at hg; exact hg)
        · refine x_iload_n dX7_findGossips_45 rfl ?_
          refine x_iconst dX7_findGossips_46 ?_
          refine x_iload_n dX7_findGossips_47 rfl ?_
          refine x_ishl dX7_findGossips_48 ?_
          rw [shl1_n (by omega)]
          refine x_ior dX7_findGossips_49 ?_
          rw [orI_n (by omega) (by omega)]
          refine x_istore_n (lv2 := [(1, _), (3, _), (0, _), (2, _)]) dX7_findGossips_50 (by decide) rfl ?_
          refine x_iinc (lv2 := [(2, _), (1, _), (3, _), (0, _)]) dX7_findGossips_51 rfl (by decide) rfl ?_
          refine x_goto 8 dX7_findGossips_54 (by decide) ?_
          refine x_sub [3, 1, 0] rfl ?_
          have hg := ih _ (by omega) (p + 1) (by omega) rfl
          first
            | (rw [show gsL sp (p + 1) = gsL sp p from if_neg (by omega)] at hg; exact hg)
            | (rw [show gsL sp (p + 1) = gsL sp p ||| 2 ^ p from if_pos (by omega)] at hg; exact hg)
theorem sp_X7_findGossips  (cs : CS S R) (hv : CIv S R I A tx) (hn : 6 ≤ n) (hp : ∀ I', CIv S R I' A tx → Fk I I' → Post (some (.int (iI (f_gossips A)))) S I' R) : Call n 0 0 mX7_findGossips [.ref (S.2.1 291)] S I R Post := by
  refine Call.of (by decide +kernel) (Nat.le_of_ble_eq_true rfl) ?_
  show WP _ _ _ _ _ 0 [(0, _)] [] 0 0 _ _ _
  refine x_aload_n dX7_findGossips_0 rfl ?_
  refine x_callV0 (mc1 := 0) (ms1 := 0) dX7_findGossips_1 cv_RX7_29 (ci := 7) (k_ob_291 cs) rfl (Nat.le_of_ble_eq_true rfl) (n1 := n - 1) (by omega) (by omega) (by omega) ?_
  refine sp_X7_listen cs hv (by omega) (fun I1 hv1 hF1 hM1 hL1 => ?_)
  have hs1 : SPr I1 (spA A) := fun i hi => ⟨hL1 i hi, spA_lt i⟩
  refine x_iconst dX7_findGossips_4 ?_
  refine x_istore_n (lv2 := [(1, _), (0, _)]) dX7_findGossips_5 (by decide) rfl ?_
  refine x_iconst dX7_findGossips_6 ?_
  refine x_istore_n (lv2 := [(2, _), (1, _), (0, _)]) dX7_findGossips_7 (by decide) rfl ?_
  refine x_sub [2, 1, 0] rfl ?_
  exact lp_X7_findGossips cs hs1 (by omega) (hp _ hv1 hF1) _ 0 (by omega) rfl
theorem dX11_gossips_0 : decode prog_1_method_27_code 0 = .ok (.aload_n 0, 1) := by decide +kernel
theorem dX11_gossips_1 : decode prog_1_method_27_code 1 = .ok (.getfield 47, 3) := by decide +kernel
theorem dX11_gossips_4 : decode prog_1_method_27_code 4 = .ok (.invokevirtual 245, 3) := by decide +kernel
theorem dX11_gossips_7 : decode prog_1_method_27_code 7 = .ok (.ireturn, 1) := by decide +kernel
theorem sp_X11_gossips  (cs : CS S R) (hv : CIv S R I A tx) (hn : 7 ≤ n) (hp : ∀ I', CIv S R I' A tx → Fk I I' → Post (some (.int (iI (f_gossips A)))) S I' R) : Call n 0 0 mX11_gossips [.ref (S.2.1 0)] S I R Post := by
  refine Call.of (by decide +kernel) (Nat.le_of_ble_eq_true rfl) ?_
  show WP _ _ _ _ _ 0 [(0, _)] [] 0 0 _ _ _
  refine x_aload_n dX11_gossips_0 rfl ?_
  refine x_getR (b := 291) dX11_gossips_1 gf_RX11_47 (k_ob_0 cs) (fun _ _ => rfl) (k_r_0_5 cs) ?_
  refine x_callV0 (mc1 := 0) (ms1 := 0) dX11_gossips_4 cv_RX11_245 (ci := 7) (k_ob_291 cs) rfl (Nat.le_of_ble_eq_true rfl) (n1 := n - 1) (by omega) (by omega) (by omega) ?_
  refine sp_X7_findGossips cs hv (by omega) (fun I5 hv5 hF5 => ?_)
  exact x_ireturn dX11_gossips_7 rfl (by omega) (by omega) (hp _ hv5 hF5)
end Talk2
