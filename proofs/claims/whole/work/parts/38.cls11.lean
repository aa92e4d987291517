section Cls11
variable {n : Nat} {Post : PT} {S : Sh} {I : CI} {R : CR} {A : Nat → Int} {tx : Nat → Nat → Int}
def apN (t : Nat → Int) (l : Nat) (v : Int) : Nat → (Nat → Int)
  | 0 => t
  | k + 1 => upA (apN t l v k) (l + k) (andI (shrI v ((24 - 8 * k : Nat) : Int)) 255)
/-- what stays when the tape is written -/
def Ft (I I' : CI) : Prop := (∀ c, c ≠ 287 → c ≠ 288 → I' c = I c) ∧ ∀ k, k ≠ 3 → I' 287 k = I 287 k
theorem Ft.rf {I : CI} : Ft I I := ⟨fun _ _ _ => rfl, fun _ _ => rfl⟩
theorem Ft.tr {I I' I'' : CI} (h : Ft I I') (h2 : Ft I' I'') : Ft I I'' := ⟨fun c h1 h3 => (h2.1 c h1 h3).trans (h.1 c h1 h3), fun k h1 => (h2.2 k h1).trans (h.2 k h1)⟩
theorem dX5_append_0 : decode prog_7_method_2_code 0 = .ok (.bipush 24, 2) := by decide +kernel
theorem dX5_append_2 : decode prog_7_method_2_code 2 = .ok (.istore_n 2, 1) := by decide +kernel
theorem dX5_append_3 : decode prog_7_method_2_code 3 = .ok (.iload_n 2, 1) := by decide +kernel
theorem dX5_append_4 : decode prog_7_method_2_code 4 = .ok (.ifCond .lt 45, 3) := by decide +kernel
theorem dX5_append_7 : decode prog_7_method_2_code 7 = .ok (.aload_n 0, 1) := by decide +kernel
theorem dX5_append_8 : decode prog_7_method_2_code 8 = .ok (.getfield 28, 3) := by decide +kernel
theorem dX5_append_11 : decode prog_7_method_2_code 11 = .ok (.sipush 300, 3) := by decide +kernel
theorem dX5_append_14 : decode prog_7_method_2_code 14 = .ok (.if_icmp .ge 35, 3) := by decide +kernel
theorem dX5_append_17 : decode prog_7_method_2_code 17 = .ok (.aload_n 0, 1) := by decide +kernel
theorem dX5_append_18 : decode prog_7_method_2_code 18 = .ok (.getfield 9, 3) := by decide +kernel
theorem dX5_append_21 : decode prog_7_method_2_code 21 = .ok (.aload_n 0, 1) := by decide +kernel
theorem dX5_append_22 : decode prog_7_method_2_code 22 = .ok (.getfield 28, 3) := by decide +kernel
theorem dX5_append_25 : decode prog_7_method_2_code 25 = .ok (.iload_n 1, 1) := by decide +kernel
theorem dX5_append_26 : decode prog_7_method_2_code 26 = .ok (.iload_n 2, 1) := by decide +kernel
theorem dX5_append_27 : decode prog_7_method_2_code 27 = .ok (.iushr, 1) := by decide +kernel
theorem dX5_append_28 : decode prog_7_method_2_code 28 = .ok (.sipush 255, 3) := by decide +kernel
theorem dX5_append_31 : decode prog_7_method_2_code 31 = .ok (.iand, 1) := by decide +kernel
theorem dX5_append_32 : decode prog_7_method_2_code 32 = .ok (.iastore, 1) := by decide +kernel
theorem dX5_append_33 : decode prog_7_method_2_code 33 = .ok (.aload_n 0, 1) := by decide +kernel
theorem dX5_append_34 : decode prog_7_method_2_code 34 = .ok (.dup, 1) := by decide +kernel
theorem dX5_append_35 : decode prog_7_method_2_code 35 = .ok (.getfield 28, 3) := by decide +kernel
theorem dX5_append_38 : decode prog_7_method_2_code 38 = .ok (.iconst 1, 1) := by decide +kernel
theorem dX5_append_39 : decode prog_7_method_2_code 39 = .ok (.iadd, 1) := by decide +kernel
theorem dX5_append_40 : decode prog_7_method_2_code 40 = .ok (.putfield 28, 3) := by decide +kernel
theorem dX5_append_43 : decode prog_7_method_2_code 43 = .ok (.iinc 2 (-8), 3) := by decide +kernel
theorem dX5_append_46 : decode prog_7_method_2_code 46 = .ok (.goto (-43), 3) := by decide +kernel
theorem dX5_append_49 : decode prog_7_method_2_code 49 = .ok (.return_, 1) := by decide +kernel
theorem lp_X5_append {l : Nat} {v : Int} (cs : CS S R) (hl : I 287 3 = (l : Int)) (hl2 : l + 4 ≤ 300) (hv : Rg v) (hp : ∀ I', I' 288 = apN (I 288) l v 4 → I' 287 3 = (l : Int) + 4 → Ft I I' → Post none S I' R) : ∀ (d k : Nat) (J : CI), k ≤ 4 → 4 - k = d → J 288 = apN (I 288) l v k → J 287 3 = (l : Int) + (k : Int) → Ft I J → WP n 0 0 mX5_append Post 3 [(0, .ref (S.2.1 287)), (1, .int (iI v)), (2, .int (iI (24 - 8 * (k : Int))))] [] 0 0 S J R := by
  intro d
  induction d using Nat.strongRecOn with
  | ind d ih =>
    intro k J k1 k2 h1 h2 hF
    refine x_iload_n dX5_append_3 rfl ?_
    refine x_if_lt 49 dX5_append_4 (by decide) (by omega) (fun w4 => ?_) (fun w4 => ?_)
    · exact x_return dX5_append_49 rfl (by omega) (by omega) (by obtain rfl : k = 4 := (by omega); exact hp _ h1 h2 hF)
    · refine x_aload_n dX5_append_7 rfl ?_
      refine x_getIv (z := (l : Int) + (k : Int)) dX5_append_8 gf_RX5_28 (k_ob_287 cs) (fun _ _ => rfl) (by first | exact h2 | (rw [uI_o (by omega)]; exact h2)) ?_
      refine x_sipush dX5_append_11 (by decide) ?_
      refine x_icmp_ge 49 dX5_append_14 (by decide) ⟨(by omega), (by omega)⟩ (fun w14 => ?_) (fun w14 => ?_)
      · exfalso; omega
      · refine x_aload_n dX5_append_17 rfl ?_
        refine x_getR (b := 288) dX5_append_18 gf_RX5_9 (k_ob_287 cs) (fun _ _ => rfl) (k_r_287_0 cs) ?_
        refine x_aload_n dX5_append_21 rfl ?_
        refine x_getIv (z := (l : Int) + (k : Int)) dX5_append_22 gf_RX5_28 (k_ob_287 cs) (fun _ _ => rfl) (by first | exact h2 | (rw [uI_o (by omega)]; exact h2)) ?_
        refine x_iload_n dX5_append_25 rfl ?_
        refine x_iload_n dX5_append_26 rfl ?_
        rw [show 24 - 8 * (k : Int) = ((24 - 8 * k : Nat) : Int) by omega]
        refine x_iushr dX5_append_27 ?_
        refine x_sipush dX5_append_28 (by decide) ?_
        refine x_iand dX5_append_31 ?_
        rw [ushr_byte _ _ (by omega), show ((24 - 8 * k : Nat) : Int) = 24 - 8 * (k : Int) by omega]
        refine x_iastore dX5_append_32 (k_ar_288 cs) (by omega) (by omega) ?_
        refine x_aload_n dX5_append_33 rfl ?_
        refine x_dup dX5_append_34 rfl ?_
        refine x_getIv (z := (l : Int) + (k : Int)) dX5_append_35 gf_RX5_28 (k_ob_287 cs) (fun _ _ => rfl) (by first | exact h2 | (rw [uI_o (by omega)]; exact h2)) ?_
        refine x_iconst dX5_append_38 ?_
        refine x_iadd dX5_append_39 ?_
        refine x_putI dX5_append_40 gf_RX5_28 (k_ob_287 cs) rfl ?_
        refine x_iinc (lv2 := [(2, _), (0, _), (1, _)]) dX5_append_43 rfl (by decide) rfl ?_
        refine x_goto 3 dX5_append_46 (by decide) ?_
        refine x_sub [1, 2, 0] rfl ?_
        rw [show 24 - 8 * (k : Int) + -8 = 24 - 8 * ((k + 1 : Nat) : Int) by omega, show ((l : Int) + (k : Int)).toNat = l + k by omega]
        refine ih _ (by omega) (k + 1) _ (by omega) rfl ?_ ?_ ?_
        · funext z
          show uI (uI J 288 (l + k) _) 287 3 _ 288 z = upA (apN (I 288) l v k) (l + k) _ z
          rw [uI_o (by omega), ← h1]
          by_cases hz : z = l + k
          · subst hz; rw [uI_s, upA_s, show ((24 - 8 * k : Nat) : Int) = 24 - 8 * (k : Int) by omega]
          · rw [uI_o (by omega), upA_o hz]
        · rw [uI_s]; omega
        · refine hF.tr ⟨fun c h3 h4 => by rw [uI_row h3, uI_row h4], fun z hz => by rw [uI_o (by omega), uI_o (by omega)]⟩
theorem sp_X5_append {l : Nat} {v : Int} (cs : CS S R) (hl : I 287 3 = (l : Int)) (hl2 : l + 4 ≤ 300) (hv : Rg v) (hp : ∀ I', I' 288 = apN (I 288) l v 4 → I' 287 3 = (l : Int) + 4 → Ft I I' → Post none S I' R) : Call n 0 0 mX5_append [.ref (S.2.1 287), .int (iI v)] S I R Post := by
  refine Call.of (by decide +kernel) (Nat.le_of_ble_eq_true rfl) ?_
  show WP _ _ _ _ _ 0 [(0, _), (1, _)] [] 0 0 _ _ _
  refine x_bipush dX5_append_0 (by decide) ?_
  refine x_istore_n (lv2 := [(2, _), (0, _), (1, _)]) dX5_append_2 (by decide) rfl ?_
  refine x_sub [1, 2, 0] rfl ?_
  exact lp_X5_append cs hl hl2 hv hp _ 0 I (by omega) rfl rfl (by omega) Ft.rf
/-- five numbers behind a tape -/
def fedT (t : Nat → Int) (l : Nat) (a b c d e : Int) : Nat → Int := apN (apN (apN (apN (apN t l a 4) (l + 4) b 4) (l + 8) c 4) (l + 12) d 4) (l + 16) e 4
def f_feed (t : Nat → Int) (l : Nat) (a b c d e : Int) : Int × (Nat → Int) := if 280 < l then (-1, t) else ((l : Int) + 20, fedT t l a b c d e)
theorem dX11_feed_0 : decode prog_1_method_3_code 0 = .ok (.aload_n 0, 1) := by decide +kernel
theorem dX11_feed_1 : decode prog_1_method_3_code 1 = .ok (.getfield 40, 3) := by decide +kernel
theorem dX11_feed_4 : decode prog_1_method_3_code 4 = .ok (.getfield 85, 3) := by decide +kernel
theorem dX11_feed_7 : decode prog_1_method_3_code 7 = .ok (.bipush 20, 2) := by decide +kernel
theorem dX11_feed_9 : decode prog_1_method_3_code 9 = .ok (.iadd, 1) := by decide +kernel
theorem dX11_feed_10 : decode prog_1_method_3_code 10 = .ok (.sipush 300, 3) := by decide +kernel
theorem dX11_feed_13 : decode prog_1_method_3_code 13 = .ok (.if_icmp .le 5, 3) := by decide +kernel
theorem dX11_feed_16 : decode prog_1_method_3_code 16 = .ok (.iconst (-1), 1) := by decide +kernel
theorem dX11_feed_17 : decode prog_1_method_3_code 17 = .ok (.ireturn, 1) := by decide +kernel
theorem dX11_feed_18 : decode prog_1_method_3_code 18 = .ok (.aload_n 0, 1) := by decide +kernel
theorem dX11_feed_19 : decode prog_1_method_3_code 19 = .ok (.getfield 40, 3) := by decide +kernel
theorem dX11_feed_22 : decode prog_1_method_3_code 22 = .ok (.iload_n 1, 1) := by decide +kernel
theorem dX11_feed_23 : decode prog_1_method_3_code 23 = .ok (.invokevirtual 89, 3) := by decide +kernel
theorem dX11_feed_26 : decode prog_1_method_3_code 26 = .ok (.aload_n 0, 1) := by decide +kernel
theorem dX11_feed_27 : decode prog_1_method_3_code 27 = .ok (.getfield 40, 3) := by decide +kernel
theorem dX11_feed_30 : decode prog_1_method_3_code 30 = .ok (.iload_n 2, 1) := by decide +kernel
theorem dX11_feed_31 : decode prog_1_method_3_code 31 = .ok (.invokevirtual 89, 3) := by decide +kernel
theorem dX11_feed_34 : decode prog_1_method_3_code 34 = .ok (.aload_n 0, 1) := by decide +kernel
theorem dX11_feed_35 : decode prog_1_method_3_code 35 = .ok (.getfield 40, 3) := by decide +kernel
theorem dX11_feed_38 : decode prog_1_method_3_code 38 = .ok (.iload_n 3, 1) := by decide +kernel
theorem dX11_feed_39 : decode prog_1_method_3_code 39 = .ok (.invokevirtual 89, 3) := by decide +kernel
theorem dX11_feed_42 : decode prog_1_method_3_code 42 = .ok (.aload_n 0, 1) := by decide +kernel
theorem dX11_feed_43 : decode prog_1_method_3_code 43 = .ok (.getfield 40, 3) := by decide +kernel
theorem dX11_feed_46 : decode prog_1_method_3_code 46 = .ok (.iload 4, 2) := by decide +kernel
theorem dX11_feed_48 : decode prog_1_method_3_code 48 = .ok (.invokevirtual 89, 3) := by decide +kernel
theorem dX11_feed_51 : decode prog_1_method_3_code 51 = .ok (.aload_n 0, 1) := by decide +kernel
theorem dX11_feed_52 : decode prog_1_method_3_code 52 = .ok (.getfield 40, 3) := by decide +kernel
theorem dX11_feed_55 : decode prog_1_method_3_code 55 = .ok (.iload 5, 2) := by decide +kernel
theorem dX11_feed_57 : decode prog_1_method_3_code 57 = .ok (.invokevirtual 89, 3) := by decide +kernel
theorem dX11_feed_60 : decode prog_1_method_3_code 60 = .ok (.aload_n 0, 1) := by decide +kernel
theorem dX11_feed_61 : decode prog_1_method_3_code 61 = .ok (.getfield 40, 3) := by decide +kernel
theorem dX11_feed_64 : decode prog_1_method_3_code 64 = .ok (.getfield 85, 3) := by decide +kernel
theorem dX11_feed_67 : decode prog_1_method_3_code 67 = .ok (.ireturn, 1) := by decide +kernel
theorem sp_X11_feed {l : Nat} {a b c d e : Int} (cs : CS S R) (hl : I 287 3 = (l : Int)) (hl2 : l ≤ 300) (ha : Rg a ∧ Rg b ∧ Rg c ∧ Rg d ∧ Rg e) (hn : 2 ≤ n) (hp : ∀ I', I' 288 = (f_feed (I 288) l a b c d e).2 → I' 287 3 = (if 280 < l then (l : Int) else (l : Int) + 20) → Ft I I' → Post (some (.int (iI (f_feed (I 288) l a b c d e).1))) S I' R) : Call n 0 0 mX11_feed [.ref (S.2.1 0), .int (iI a), .int (iI b), .int (iI c), .int (iI d), .int (iI e)] S I R Post := by
  refine Call.of (by decide +kernel) (Nat.le_of_ble_eq_true rfl) ?_
  show WP _ _ _ _ _ 0 [(0, _), (1, _), (2, _), (3, _), (4, _), (5, _)] [] 0 0 _ _ _
  refine x_aload_n dX11_feed_0 rfl ?_
  refine x_getR (b := 287) dX11_feed_1 gf_RX11_40 (k_ob_0 cs) (fun _ _ => rfl) (k_r_0_4 cs) ?_
  refine x_getIv (z := (l : Int)) dX11_feed_4 gf_RX11_85 (k_ob_287 cs) (fun _ _ => rfl) (by first | exact hl | omega) ?_
  refine x_bipush dX11_feed_7 (by decide) ?_
  refine x_iadd dX11_feed_9 ?_
  refine x_sipush dX11_feed_10 (by decide) ?_
  refine x_icmp_le 18 dX11_feed_13 (by decide) ⟨(by omega), (by omega)⟩ (fun w13 => ?_) (fun w13 => ?_)
  · refine x_aload_n dX11_feed_18 rfl ?_
    refine x_getR (b := 287) dX11_feed_19 gf_RX11_40 (k_ob_0 cs) (fun _ _ => rfl) (k_r_0_4 cs) ?_
    refine x_iload_n dX11_feed_22 rfl ?_
    refine x_callV1 (mc1 := 0) (ms1 := 0) dX11_feed_23 cv_RX11_89 (ci := 5) (k_ob_287 cs) rfl (Nat.le_of_ble_eq_true rfl) (n1 := n - 1) (by omega) (by omega) (by omega) ?_
    refine sp_X5_append (l := l) cs hl (by omega) (by omega) (fun I23 hT23 hL23 hF23 => ?_)
    refine x_aload_n dX11_feed_26 rfl ?_
    refine x_getR (b := 287) dX11_feed_27 gf_RX11_40 (k_ob_0 cs) (fun _ _ => rfl) (k_r_0_4 cs) ?_
    refine x_iload_n dX11_feed_30 rfl ?_
    refine x_callV1 (mc1 := 0) (ms1 := 0) dX11_feed_31 cv_RX11_89 (ci := 5) (k_ob_287 cs) rfl (Nat.le_of_ble_eq_true rfl) (n1 := n - 1) (by omega) (by omega) (by omega) ?_
    refine sp_X5_append (l := l + 4) cs (by omega) (by omega) (by omega) (fun I31 hT31 hL31 hF31 => ?_)
    refine x_aload_n dX11_feed_34 rfl ?_
    refine x_getR (b := 287) dX11_feed_35 gf_RX11_40 (k_ob_0 cs) (fun _ _ => rfl) (k_r_0_4 cs) ?_
    refine x_iload_n dX11_feed_38 rfl ?_
    refine x_callV1 (mc1 := 0) (ms1 := 0) dX11_feed_39 cv_RX11_89 (ci := 5) (k_ob_287 cs) rfl (Nat.le_of_ble_eq_true rfl) (n1 := n - 1) (by omega) (by omega) (by omega) ?_
    refine sp_X5_append (l := l + 8) cs (by omega) (by omega) (by omega) (fun I39 hT39 hL39 hF39 => ?_)
    refine x_aload_n dX11_feed_42 rfl ?_
    refine x_getR (b := 287) dX11_feed_43 gf_RX11_40 (k_ob_0 cs) (fun _ _ => rfl) (k_r_0_4 cs) ?_
    refine x_iload dX11_feed_46 rfl ?_
    refine x_callV1 (mc1 := 0) (ms1 := 0) dX11_feed_48 cv_RX11_89 (ci := 5) (k_ob_287 cs) rfl (Nat.le_of_ble_eq_true rfl) (n1 := n - 1) (by omega) (by omega) (by omega) ?_
    refine sp_X5_append (l := l + 12) cs (by omega) (by omega) (by omega) (fun I48 hT48 hL48 hF48 => ?_)
    refine x_aload_n dX11_feed_51 rfl ?_
    refine x_getR (b := 287) dX11_feed_52 gf_RX11_40 (k_ob_0 cs) (fun _ _ => rfl) (k_r_0_4 cs) ?_
    refine x_iload dX11_feed_55 rfl ?_
    refine x_callV1 (mc1 := 0) (ms1 := 0) dX11_feed_57 cv_RX11_89 (ci := 5) (k_ob_287 cs) rfl (Nat.le_of_ble_eq_true rfl) (n1 := n - 1) (by omega) (by omega) (by omega) ?_
    refine sp_X5_append (l := l + 16) cs (by omega) (by omega) (by omega) (fun I57 hT57 hL57 hF57 => ?_)
    refine x_aload_n dX11_feed_60 rfl ?_
    refine x_getR (b := 287) dX11_feed_61 gf_RX11_40 (k_ob_0 cs) (fun _ _ => rfl) (k_r_0_4 cs) ?_
    refine x_getIv (z := (l : Int) + 20) dX11_feed_64 gf_RX11_85 (k_ob_287 cs) (fun _ _ => rfl) (by first | exact hl | omega) ?_
    exact x_ireturn dX11_feed_67 rfl (by omega) (by omega) (by
    unfold f_feed at hp
    first
      | (rw [if_pos (by omega), if_pos (by omega)] at hp; exact hp I rfl hl Ft.rf)
      | (rw [if_neg (by omega), if_neg (by omega)] at hp
         refine hp I57 ?_ (by omega) ((((hF23.tr hF31).tr hF39).tr hF48).tr hF57)
         show I57 288 = fedT (I 288) l a b c d e
         unfold fedT
         rw [hT57, hT48, hT39, hT31, hT23]))
  · refine x_iconst dX11_feed_16 ?_
    exact x_ireturn dX11_feed_17 rfl (by omega) (by omega) (by
    unfold f_feed at hp
    first
      | (rw [if_pos (by omega), if_pos (by omega)] at hp; exact hp I rfl hl Ft.rf)
      | (rw [if_neg (by omega), if_neg (by omega)] at hp
         refine hp I57 ?_ (by omega) ((((hF23.tr hF31).tr hF39).tr hF48).tr hF57)
         show I57 288 = fedT (I 288) l a b c d e
         unfold fedT
         rw [hT57, hT48, hT39, hT31, hT23]))
def f_by (A : Nat → Int) (t : Int) : Int × (Nat → Int) := if -1 ≤ t ∧ t < A 1 then (1, upA A 2 t) else (0, A)
theorem BA_ruling (hb : BA A) {v : Int} (hv : -1 ≤ v ∧ v < A 1) : BA (upA A 2 v) := by
  obtain ⟨⟨b0, b1, b2, b3, b4, bq, bl⟩, ⟨d1, d2, d3, d4, d5, d6, d7⟩, dq, dh, db, ds, dd, dp⟩ := hb
  have u : ∀ i, i ≠ 2 → upA A 2 v i = A i := fun i h => upA_o h
  refine ⟨⟨by rw [u _ (by omega)]; exact b0, by rw [u _ (by omega)]; exact b1, by rw [u _ (by omega)]; exact b2, by rw [u _ (by omega)]; exact b3, by rw [u _ (by omega)]; exact b4, fun q hq => by rw [u _ (by omega), u _ (by omega), u _ (by omega), u _ (by omega)]; exact bq q hq, ?_⟩, ⟨by rw [u _ (by omega)]; exact d1, by rw [upA_s, u _ (by omega)]; exact hv, by rw [u _ (by omega)]; exact d3, by rw [u _ (by omega)]; exact d4, by rw [u _ (by omega)]; exact d5, by rw [u _ (by omega)]; exact d6, by rw [u _ (by omega)]; exact d7⟩, fun q hq => by rw [u _ (by omega), u _ (by omega), u _ (by omega), u _ (by omega), u _ (by omega)]; exact dq q hq, fun i hi => by rw [u _ (by omega)]; exact dh i hi, fun i hi => by rw [u _ (by omega), u _ (by omega)]; exact db i hi, fun i hi => by rw [u _ (by omega)] at hi; rw [u _ (by omega), u _ (by omega), u _ (by omega)]; exact ds i hi, fun i hi => by rw [u _ (by omega)]; exact dd i hi, fun z hz => ?_⟩
  · rw [u _ (by omega), u _ (by omega), bl]; exact lns_congr (fun i hi => (u _ (by omega)).symm)
  · rw [u _ (by omega)] at hz
    obtain ⟨⟨a0, a1, a2, a3, a4, aq, al⟩, g2, g3, g4, g5⟩ := dp z hz
    refine ⟨⟨by rw [u _ (by omega)]; exact a0, by rw [u _ (by omega)]; exact a1, by rw [u _ (by omega)]; exact a2, by rw [u _ (by omega)]; exact a3, by rw [u _ (by omega)]; exact a4, fun q hq => by rw [u _ (by omega), u _ (by omega), u _ (by omega), u _ (by omega)]; exact aq q hq, ?_⟩, by rw [u _ (by omega), u _ (by omega)]; exact g2, by rw [u _ (by omega), u _ (by omega)]; exact g3, fun i hi => by rw [u _ (by omega)] at hi; rw [u _ (by omega), u _ (by omega), u _ (by omega), u _ (by omega)]; exact g4 i hi, fun k h1 h2 => by rw [u _ (by omega)] at h2; rw [u _ (by omega), u _ (by omega)]; exact g5 k h1 h2⟩
    rw [u _ (by omega), u _ (by omega), al]; exact lns_congr (fun i hi => (u _ (by omega)).symm)
theorem dX11_by_0 : decode prog_1_method_7_code 0 = .ok (.iload_n 1, 1) := by decide +kernel
theorem dX11_by_1 : decode prog_1_method_7_code 1 = .ok (.iconst (-1), 1) := by decide +kernel
theorem dX11_by_2 : decode prog_1_method_7_code 2 = .ok (.if_icmp .eq 16, 3) := by decide +kernel
theorem dX11_by_5 : decode prog_1_method_7_code 5 = .ok (.aload_n 0, 1) := by decide +kernel
theorem dX11_by_6 : decode prog_1_method_7_code 6 = .ok (.getfield 10, 3) := by decide +kernel
theorem dX11_by_9 : decode prog_1_method_7_code 9 = .ok (.iload_n 1, 1) := by decide +kernel
theorem dX11_by_10 : decode prog_1_method_7_code 10 = .ok (.invokevirtual 110, 3) := by decide +kernel
theorem dX11_by_13 : decode prog_1_method_7_code 13 = .ok (.ifCond .ne 5, 3) := by decide +kernel
theorem dX11_by_16 : decode prog_1_method_7_code 16 = .ok (.iconst 0, 1) := by decide +kernel
theorem dX11_by_17 : decode prog_1_method_7_code 17 = .ok (.ireturn, 1) := by decide +kernel
theorem dX11_by_18 : decode prog_1_method_7_code 18 = .ok (.aload_n 0, 1) := by decide +kernel
theorem dX11_by_19 : decode prog_1_method_7_code 19 = .ok (.getfield 10, 3) := by decide +kernel
theorem dX11_by_22 : decode prog_1_method_7_code 22 = .ok (.iload_n 1, 1) := by decide +kernel
theorem dX11_by_23 : decode prog_1_method_7_code 23 = .ok (.putfield 114, 3) := by decide +kernel
theorem dX11_by_26 : decode prog_1_method_7_code 26 = .ok (.iconst 1, 1) := by decide +kernel
theorem dX11_by_27 : decode prog_1_method_7_code 27 = .ok (.ireturn, 1) := by decide +kernel
theorem sp_X11_by {t : Int} (cs : CS S R) (hv : CIv S R I A tx) (ht : Rg t) (hn : 2 ≤ n) (hp : ∀ I', CIv S R I' (f_by A t).2 tx → Fw I I' → Post (some (.int (iI (f_by A t).1))) S I' R) : Call n 0 0 mX11_by [.ref (S.2.1 0), .int (iI t)] S I R Post := by
  obtain ⟨hc, hb, hw, hk⟩ := id hv
  obtain ⟨⟨⟨c0, c7, c8, c9, c10, c11⟩, cq⟩, ⟨⟨t1, t2, t3, t4, t5, t6, t7, t8, t9⟩, tq, th, tb, ts, td⟩, cb, cp⟩ := id hc
  dsimp only [Nat.reduceAdd] at c0 c7 c8 c9 c10 c11 cq t1 t2 t3 t4 t5 t6 t7 t8 t9 tq th tb ts td
  obtain ⟨⟨b0, b1, b2, b3, b4, bq, bl⟩, ⟨d1, d2, d3, d4, d5, d6, d7⟩, dq, dh, db, ds, dd, dp⟩ := id hb
  have b7 : 0 ≤ A 7 ∧ A 7 ≤ 9999 := b1
  have b8 : 0 ≤ A 8 ∧ A 8 ≤ 30870 := b2
  have b9 : 0 ≤ A 9 ∧ A 9 ≤ 9999 := b3
  have b10 : 0 ≤ A 10 ∧ A 10 ≤ 1 := b4
  have b11 : 0 ≤ A 11 ∧ A 11 ≤ 16 := by have h1 := lns_b (fun q => A (6 + 6 + 3 * q)) (A 0).toNat; have h2 : A 11 = _ := bl; omega
  unfold f_by at hp
  refine Call.of (by decide +kernel) (Nat.le_of_ble_eq_true rfl) ?_
  show WP _ _ _ _ _ 0 [(0, _), (1, _)] [] 0 0 _ _ _
  refine x_iload_n dX11_by_0 rfl ?_
  refine x_iconst dX11_by_1 ?_
  refine x_icmp_eq 18 dX11_by_2 (by decide) ⟨(by omega), (by omega)⟩ (fun w2 => ?_) (fun w2 => ?_)
  · refine x_aload_n dX11_by_18 rfl ?_
    refine x_getR (b := 1) dX11_by_19 gf_RX11_10 (k_ob_0 cs) (fun _ _ => rfl) (k_r_0_0 cs) ?_
    refine x_iload_n dX11_by_22 rfl ?_
    refine x_putI dX11_by_23 gf_RX11_114 (k_ob_1 cs) rfl ?_
    refine x_iconst dX11_by_26 ?_
    exact x_zreturn (by omega) dX11_by_27 rfl (by omega) (by omega) (by first | (rw [if_neg (by omega)] at hp; exact hp _ hv Fw.rf) | (rw [if_pos (by omega)] at hp; exact hp _ (hv.w (B := upA A 2 t) (Fw.rf.u (by omega)) (cu_ruling _ hc) (BA_ruling hb (by omega)) (upA_o (by omega))) (Fw.rf.u (by omega))))
  · refine x_aload_n dX11_by_5 rfl ?_
    refine x_getR (b := 1) dX11_by_6 gf_RX11_10 (k_ob_0 cs) (fun _ _ => rfl) (k_r_0_0 cs) ?_
    refine x_iload_n dX11_by_9 rfl ?_
    refine x_callV1 (mc1 := 0) (ms1 := 0) dX11_by_10 cv_RX11_110 (ci := 10) (k_ob_1 cs) rfl (Nat.le_of_ble_eq_true rfl) (n1 := n - 1) (by omega) (by omega) (by omega) ?_
    refine sp_X10_hasText cs hc hb hw ht (fun r10 hr10 => ?_)
    refine x_if_ne 18 dX11_by_13 (by decide) (by omega) (fun w13 => ?_) (fun w13 => ?_)
    · refine x_aload_n dX11_by_18 rfl ?_
      refine x_getR (b := 1) dX11_by_19 gf_RX11_10 (k_ob_0 cs) (fun _ _ => rfl) (k_r_0_0 cs) ?_
      refine x_iload_n dX11_by_22 rfl ?_
      refine x_putI dX11_by_23 gf_RX11_114 (k_ob_1 cs) rfl ?_
      refine x_iconst dX11_by_26 ?_
      exact x_zreturn (by omega) dX11_by_27 rfl (by omega) (by omega) (by first | (rw [if_neg (by omega)] at hp; exact hp _ hv Fw.rf) | (rw [if_pos (by omega)] at hp; exact hp _ (hv.w (B := upA A 2 t) (Fw.rf.u (by omega)) (cu_ruling _ hc) (BA_ruling hb (by omega)) (upA_o (by omega))) (Fw.rf.u (by omega))))
    · refine x_iconst dX11_by_16 ?_
      exact x_zreturn (by omega) dX11_by_17 rfl (by omega) (by omega) (by first | (rw [if_neg (by omega)] at hp; exact hp _ hv Fw.rf) | (rw [if_pos (by omega)] at hp; exact hp _ (hv.w (B := upA A 2 t) (Fw.rf.u (by omega)) (cu_ruling _ hc) (BA_ruling hb (by omega)) (upA_o (by omega))) (Fw.rf.u (by omega))))
/-- only now and lines behind the book's end are other -/
def NOn (A B : Nat → Int) : Prop := (∀ i : Nat, i < 7 ∨ (36 ≤ i ∧ i < 2815) → B i = A i) ∧ (∀ i : Nat, (i : Int) < A 11 → B (2815 + i) = A (2815 + i) ∧ B (2845 + i) = A (2845 + i)) ∧ A 11 ≤ B 11
theorem NOn.rf : NOn A A := ⟨fun _ _ => rfl, fun _ _ => ⟨rfl, rfl⟩, Int.le_refl _⟩
theorem NOn.tr {A B C : Nat → Int} (h : NOn A B) (h2 : NOn B C) : NOn A C := ⟨fun i hi => (h2.1 i hi).trans (h.1 i hi), fun i hi => ⟨(h2.2.1 i (by have := h.2.2; omega)).1.trans (h.2.1 i hi).1, (h2.2.1 i (by have := h.2.2; omega)).2.trans (h.2.1 i hi).2⟩, Int.le_trans h.2.2 h2.2.2⟩
theorem NOn.u {k : Nat} {v : Int} (h : 7 ≤ k ∧ k < 36) (h11 : k ≠ 11) (hl : A 11 ≤ 30) : NOn A (upA A k v) := ⟨fun i hi => upA_o (by omega), fun i hi => ⟨upA_o (by omega), upA_o (by omega)⟩, by rw [upA_o (by omega)]; exact Int.le_refl _⟩
theorem NOn.wr {q w : Int} (h : 0 ≤ A 11 ∧ A 11 < 30) : NOn A (wrA A q w) := by
  unfold wrA
  refine ⟨fun i hi => by rw [upA_o (by omega), upA_o (by omega), upA_o (by omega)], fun i hi => ⟨by rw [upA_o (by omega), upA_o (by omega), upA_o (by omega)], by rw [upA_o (by omega), upA_o (by omega), upA_o (by omega)]⟩, by rw [upA_s]; omega⟩
theorem BA_11 (hb : BA A) : 0 ≤ A 11 ∧ A 11 ≤ 16 := by
  have h1 := lns_b (fun q => A (6 + 6 + 3 * q)) (A 0).toNat
  have h2 : A 11 = _ := hb.1.2.2.2.2.2.2
  have h3 := hb.1.1
  omega
theorem NOn_sale (hb : BA A) : ∀ k : Nat, (k : Int) ≤ A 0 → NOn A (saleA A tx k).1 ∧ BA (saleA A tx k).1 := by
  intro k
  induction k with
  | zero => intro _; exact ⟨NOn.rf, hb⟩
  | succ k ih =>
    intro hk
    have h := ih (by omega)
    simp only [saleA]
    split
    · rename_i e
      have e0 := h.1.1 0 (by omega)
      have h11 := BA_11 h.2
      have hq := hb.1.1
      refine ⟨h.1.tr ((NOn.u (k := 12 + 3 * k) (v := 3) (by omega) (by omega) (by omega)).tr (NOn.wr (by rw [upA_o (by omega)]; omega))), BA_sale h.2 (by omega) e.1⟩
    · exact h
theorem NOn_pass (hb : BA A) : NOn A (passA A tx).1 := by
  have h1 : NOn A (rainD A) := by
    have := BA_11 hb
    unfold rainD
    exact (NOn.u (k := 8) (by omega) (by omega) (by omega)).tr (NOn.u (k := 10) (by omega) (by omega) (by rw [upA_o (by omega)]; omega))
  have hb1 := BA_rainD hb
  have h2 : NOn (rainD A) (heatD (rainD A)) := by
    have h11 := BA_11 hb1
    have h0 := hb1.1.1
    unfold heatD
    split
    · rename_i e
      have hq : 0 ≤ rainD A 8 % rainD A 0 ∧ rainD A 8 % rainD A 0 < rainD A 0 := ⟨Int.emod_nonneg _ (by omega), Int.emod_lt_of_pos _ e⟩
      refine (NOn.u (k := 8) (v := anx (rainD A 8)) (by omega) (by omega) (by omega)).tr ?_
      unfold warmA
      have h11b : ∀ v, upA (rainD A) 8 v 11 ≤ 30 := fun v => by rw [upA_o (by omega)]; omega
      split
      · exact NOn.u (by omega) (by omega) (h11b _)
      · split
        · exact NOn.u (by omega) (by omega) (h11b _)
        · exact NOn.rf
    · exact NOn.rf
  have hb2 := BA_heatD hb1
  have h3 : NOn (heatD (rainD A)) (sellD (heatD (rainD A)) tx).1 := by
    have h0 := hb2.1.1
    have hs := NOn_sale (tx := tx) hb2 (heatD (rainD A) 0).toNat (by omega)
    have h11 := BA_11 hs.2
    unfold sellD
    exact hs.1.tr (NOn.u (k := 7) (by omega) (by omega) (by omega))
  exact (h1.tr h2).tr h3
def foL (A : Nat → Int) (tx : Nat → Nat → Int) : Nat → (Nat → Int)
  | 0 => A
  | k + 1 => if foL A tx k 7 < 9999 then (passA (foL A tx k) tx).1 else foL A tx k
def f_fore (B : Nat → Int) (tx : Nat → Nat → Int) (q : Nat) (w : Int) : Int := if w = 0 then B (12 + 3 * q) else if w = 1 then B (14 + 3 * q) else duesP B tx (B 2) q 0 (B 9)
def f_foretold (A : Nat → Int) (tx : Nat → Nat → Int) (m q w : Int) : Int := if 1 ≤ m ∧ m ≤ 60 ∧ 0 ≤ q ∧ q < A 0 ∧ 0 ≤ w ∧ w ≤ 2 then f_fore (foL A tx m.toNat) tx q.toNat w else -2
theorem foL_stop {k : Nat} (h : ¬ foL A tx k 7 < 9999) : ∀ d, foL A tx (k + d) = foL A tx k := by
  intro d
  induction d with
  | zero => rfl
  | succ d ih => rw [← Nat.add_assoc]; show (if foL A tx (k + d) 7 < 9999 then _ else foL A tx (k + d)) = _; rw [ih, if_neg h]
/-- now is put back as it was -/
theorem ClW_back {I J : CI} {B : Nat → Int} (h3 : A 3 ≤ 30) (hc : ClW I 1 A) (hJ : ClW J 1 B) (hN : NOn A B) (h283 : ∀ i, 3 ≤ i → i ≤ 8 → J 283 i = I 6 i) (hr : ∀ k i, 1 ≤ k → k ≤ 3 → i < 8 → J (283 + k) i = I (6 + k) i) : ClW (stCp J 6 283) 1 A := by
  obtain ⟨⟨⟨c0, c7, c8, c9, c10, c11⟩, cq⟩, -⟩ := id hc
  obtain ⟨⟨⟨k0, k7, k8, k9, k10, k11⟩, kq⟩, ⟨⟨t1, t2, t3, t4, t5, t6, t7, t8, t9⟩, tq, th, tb, ts, td⟩, cb, cp⟩ := id hJ
  dsimp only [Nat.reduceAdd] at c0 c7 c8 c9 c10 c11 cq t1 t2 t3 t4 t5 t6 t7 t8 t9 tq th tb ts td
  have ho : ∀ c i : Nat, (c < 6 ∨ 9 < c) → stCp J 6 283 c i = J c i := fun c i h => stCp_o (by omega)
  have hh : ∀ i : Nat, 3 ≤ i ∧ i ≤ 8 → stCp J 6 283 6 i = I 6 i := fun i h => by rw [stCp_h h]; exact h283 i h.1 h.2
  have hrr : ∀ k i : Nat, 1 ≤ k ∧ k ≤ 3 → i < 8 → stCp J 6 283 (6 + k) i = I (6 + k) i := fun k i h1 h2 => by rw [stCp_r h1 h2]; exact hr k i h1.1 h1.2 h2
  obtain ⟨n0, n1, n2⟩ := hN
  refine ⟨⟨⟨?_, ?_, ?_, ?_, ?_, ?_⟩, fun z hz => ?_⟩, ⟨⟨?_, ?_, ?_, ?_, ?_, ?_, ?_, ?_, ?_⟩, fun z hz => ?_, fun i hi => ?_, fun i hi => ?_, fun i hi => ?_, fun i hi => ?_⟩, fun i hi => ?_, fun z hz => ?_⟩ <;> (try dsimp only [Nat.reduceAdd])
  · rw [hh 3 (by omega)]; exact c0
  · rw [hh 6 (by omega)]; exact c7
  · rw [hh 7 (by omega)]; exact c8
  · rw [hh 4 (by omega)]; exact c9
  · rw [hh 5 (by omega)]; exact c10
  · rw [hh 8 (by omega)]; exact c11
  · have h7 := cq z hz
    exact ⟨h7.1.trans (hrr 1 z (by omega) hz).symm, h7.2.1.trans (hrr 2 z (by omega) hz).symm, h7.2.2.trans (hrr 3 z (by omega) hz).symm⟩
  · rw [← n0 _ (by omega), ho _ _ (by omega)]; exact t1
  · rw [← n0 _ (by omega), ho _ _ (by omega)]; exact t2
  · rw [← n0 _ (by omega), ho _ _ (by omega)]; exact t3
  · rw [← n0 _ (by omega), ho _ _ (by omega)]; exact t4
  · rw [← n0 _ (by omega), ho _ _ (by omega)]; exact t5
  · rw [← n0 _ (by omega), ho _ _ (by omega)]; exact t6
  · rw [← n0 _ (by omega), ho _ _ (by omega)]; exact t7
  · rw [ho _ _ (by omega)]; exact t8
  · rw [ho _ _ (by omega)]; exact t9
  · rw [← n0 _ (by omega), ← n0 _ (by omega), ← n0 _ (by omega), ← n0 _ (by omega), ho _ _ (by omega), ho _ _ (by omega), ho _ _ (by omega), ho _ _ (by omega)]; exact tq z hz
  · rw [← n0 _ (by omega), ho _ _ (by omega)]; exact th i hi
  · rw [← n0 _ (by omega), ← n0 _ (by omega), ho _ _ (by omega), ho _ _ (by omega)]; exact tb i hi
  · rw [← n0 _ (by omega), ← n0 _ (by omega), ho _ _ (by omega), ho _ _ (by omega)]; exact ts i hi
  · rw [← n0 _ (by omega), ho _ _ (by omega)]; exact td i hi
  · have h2 := n1 i hi
    rw [← h2.1, ← h2.2, ho _ _ (by omega), ho _ _ (by omega), ho _ _ (by omega), ho _ _ (by omega)]
    exact cb i (by omega)
  · have e3 := n0 3 (by omega)
    have e : stId 1 (stCp J 6 283) z = stId 1 J z := by unfold stId; rw [ho _ _ (by omega), ho _ _ (by omega)]
    rw [e]
    have hs1 : 20 ≤ stId 1 J z := by unfold stId; omega
    have hz30 : z < 30 := by omega
    obtain ⟨⟨q1, q2, q3, q4, q5, q6⟩, q7⟩ := cp z (by omega)
    refine ⟨⟨?_, ?_, ?_, ?_, ?_, ?_⟩, fun q hq => ⟨?_, ?_, ?_⟩⟩
    · rw [← n0 _ (by omega), ho _ _ (by omega)]; exact q1
    · rw [← n0 _ (by omega), ho _ _ (by omega)]; exact q2
    · rw [← n0 _ (by omega), ho _ _ (by omega)]; exact q3
    · rw [← n0 _ (by omega), ho _ _ (by omega)]; exact q4
    · rw [← n0 _ (by omega), ho _ _ (by omega)]; exact q5
    · rw [← n0 _ (by omega), ho _ _ (by omega)]; exact q6
    · rw [← n0 _ (by omega), ho _ _ (by omega)]; exact (q7 q hq).1
    · rw [← n0 _ (by omega), ho _ _ (by omega)]; exact (q7 q hq).2.1
    · rw [← n0 _ (by omega), ho _ _ (by omega)]; exact (q7 q hq).2.2
end Cls11
