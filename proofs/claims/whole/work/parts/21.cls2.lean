section Cls2
variable {n : Nat} {Post : PT} {S : Sh} {I : CI} {R : CR} {A : Nat → Int}
theorem uI_id {I : CI} {a i : Nat} : uI I a i (I a i) = I := by
  funext b j
  unfold uI
  by_cases h : b = a ∧ j = i
  · rw [if_pos h, h.1, h.2]
  · rw [if_neg h]
def f_bid (A : Nat → Int) (q d : Int) : Int × (Nat → Int) := if q = -1 then (0, upA A 5 0) else if 0 ≤ q ∧ q ≤ 99 ∧ A 5 < 10 then (A 5 + 1, upA (upA (upA A (74 + 2 * (A 5).toNat) q) (75 + 2 * (A 5).toNat) d) 5 (A 5 + 1)) else (-2, A)
theorem cu_bid2 {I : CI} {A : Nat → Int} (q d : Int) (hc : ClW I 1 A) (h : 0 ≤ A 5 ∧ A 5 < 10) : ClW (uI (uI (uI I 16 (I 13 8).toNat q) 17 (I 13 8).toNat d) 13 8 (I 13 8 + 1)) 1 (upA (upA (upA A (74 + 2 * (A 5).toNat) q) (75 + 2 * (A 5).toNat) d) 5 (A 5 + 1)) := by
  have e : A 5 = I 13 8 := hc.2.1.1.2.2.2.2.1
  rw [← e]
  exact cu_bids _ (cu_side _ (cu_price _ hc (by omega)) (by omega))
def f_said (A : Nat → Int) (q d : Int) : Int × (Nat → Int) := if q = -1 then (0, upA A 6 0) else if (0 ≤ q ∧ q < A 0) ∧ 0 ≤ d ∧ d ≤ 9999 ∧ A 6 < 8 then (A 6 + 1, upA (upA (upA A (94 + 2 * (A 6).toNat) q) (95 + 2 * (A 6).toNat) d) 6 (A 6 + 1)) else (-2, A)
theorem cu_said2 {I : CI} {A : Nat → Int} (q d : Int) (hc : ClW I 1 A) (h : 0 ≤ A 6 ∧ A 6 < 8) : ClW (uI (uI (uI I 18 (I 13 9).toNat q) 19 (I 13 9).toNat d) 13 9 (I 13 9 + 1)) 1 (upA (upA (upA A (94 + 2 * (A 6).toNat) q) (95 + 2 * (A 6).toNat) d) 6 (A 6 + 1)) := by
  have e : A 6 = I 13 9 := hc.2.1.1.2.2.2.2.2.1
  rw [← e]
  exact cu_saids _ (cu_saidd _ (cu_saidq _ hc (by omega)) (by omega))
theorem dX11_bid_0 : decode prog_1_method_37_code 0 = .ok (.aload_n 0, 1) := by decide +kernel
theorem dX11_bid_1 : decode prog_1_method_37_code 1 = .ok (.getfield 10, 3) := by decide +kernel
theorem dX11_bid_4 : decode prog_1_method_37_code 4 = .ok (.getfield 67, 3) := by decide +kernel
theorem dX11_bid_7 : decode prog_1_method_37_code 7 = .ok (.astore_n 3, 1) := by decide +kernel
theorem dX11_bid_8 : decode prog_1_method_37_code 8 = .ok (.iload_n 1, 1) := by decide +kernel
theorem dX11_bid_9 : decode prog_1_method_37_code 9 = .ok (.iconst (-1), 1) := by decide +kernel
theorem dX11_bid_10 : decode prog_1_method_37_code 10 = .ok (.if_icmp .ne 10, 3) := by decide +kernel
theorem dX11_bid_13 : decode prog_1_method_37_code 13 = .ok (.aload_n 3, 1) := by decide +kernel
theorem dX11_bid_14 : decode prog_1_method_37_code 14 = .ok (.iconst 0, 1) := by decide +kernel
theorem dX11_bid_15 : decode prog_1_method_37_code 15 = .ok (.putfield 312, 3) := by decide +kernel
theorem dX11_bid_18 : decode prog_1_method_37_code 18 = .ok (.iconst 0, 1) := by decide +kernel
theorem dX11_bid_19 : decode prog_1_method_37_code 19 = .ok (.ireturn, 1) := by decide +kernel
theorem dX11_bid_20 : decode prog_1_method_37_code 20 = .ok (.iload_n 1, 1) := by decide +kernel
theorem dX11_bid_21 : decode prog_1_method_37_code 21 = .ok (.ifCond .lt 18, 3) := by decide +kernel
theorem dX11_bid_24 : decode prog_1_method_37_code 24 = .ok (.iload_n 1, 1) := by decide +kernel
theorem dX11_bid_25 : decode prog_1_method_37_code 25 = .ok (.bipush 99, 2) := by decide +kernel
theorem dX11_bid_27 : decode prog_1_method_37_code 27 = .ok (.if_icmp .gt 12, 3) := by decide +kernel
theorem dX11_bid_30 : decode prog_1_method_37_code 30 = .ok (.aload_n 3, 1) := by decide +kernel
theorem dX11_bid_31 : decode prog_1_method_37_code 31 = .ok (.getfield 312, 3) := by decide +kernel
theorem dX11_bid_34 : decode prog_1_method_37_code 34 = .ok (.bipush 10, 2) := by decide +kernel
theorem dX11_bid_36 : decode prog_1_method_37_code 36 = .ok (.if_icmp .lt 6, 3) := by decide +kernel
theorem dX11_bid_39 : decode prog_1_method_37_code 39 = .ok (.bipush (-2), 2) := by decide +kernel
theorem dX11_bid_41 : decode prog_1_method_37_code 41 = .ok (.ireturn, 1) := by decide +kernel
theorem dX11_bid_42 : decode prog_1_method_37_code 42 = .ok (.aload_n 3, 1) := by decide +kernel
theorem dX11_bid_43 : decode prog_1_method_37_code 43 = .ok (.getfield 315, 3) := by decide +kernel
theorem dX11_bid_46 : decode prog_1_method_37_code 46 = .ok (.aload_n 3, 1) := by decide +kernel
theorem dX11_bid_47 : decode prog_1_method_37_code 47 = .ok (.getfield 312, 3) := by decide +kernel
theorem dX11_bid_50 : decode prog_1_method_37_code 50 = .ok (.iload_n 1, 1) := by decide +kernel
theorem dX11_bid_51 : decode prog_1_method_37_code 51 = .ok (.iastore, 1) := by decide +kernel
theorem dX11_bid_52 : decode prog_1_method_37_code 52 = .ok (.aload_n 3, 1) := by decide +kernel
theorem dX11_bid_53 : decode prog_1_method_37_code 53 = .ok (.getfield 318, 3) := by decide +kernel
theorem dX11_bid_56 : decode prog_1_method_37_code 56 = .ok (.aload_n 3, 1) := by decide +kernel
theorem dX11_bid_57 : decode prog_1_method_37_code 57 = .ok (.getfield 312, 3) := by decide +kernel
theorem dX11_bid_60 : decode prog_1_method_37_code 60 = .ok (.iload_n 2, 1) := by decide +kernel
theorem dX11_bid_61 : decode prog_1_method_37_code 61 = .ok (.ifCond .eq 7, 3) := by decide +kernel
theorem dX11_bid_64 : decode prog_1_method_37_code 64 = .ok (.iconst 1, 1) := by decide +kernel
theorem dX11_bid_65 : decode prog_1_method_37_code 65 = .ok (.goto 4, 3) := by decide +kernel
theorem dX11_bid_68 : decode prog_1_method_37_code 68 = .ok (.iconst 0, 1) := by decide +kernel
theorem dX11_bid_69 : decode prog_1_method_37_code 69 = .ok (.iastore, 1) := by decide +kernel
theorem dX11_bid_70 : decode prog_1_method_37_code 70 = .ok (.aload_n 3, 1) := by decide +kernel
theorem dX11_bid_71 : decode prog_1_method_37_code 71 = .ok (.dup, 1) := by decide +kernel
theorem dX11_bid_72 : decode prog_1_method_37_code 72 = .ok (.getfield 312, 3) := by decide +kernel
theorem dX11_bid_75 : decode prog_1_method_37_code 75 = .ok (.iconst 1, 1) := by decide +kernel
theorem dX11_bid_76 : decode prog_1_method_37_code 76 = .ok (.iadd, 1) := by decide +kernel
theorem dX11_bid_77 : decode prog_1_method_37_code 77 = .ok (.putfield 312, 3) := by decide +kernel
theorem dX11_bid_80 : decode prog_1_method_37_code 80 = .ok (.aload_n 3, 1) := by decide +kernel
theorem dX11_bid_81 : decode prog_1_method_37_code 81 = .ok (.getfield 312, 3) := by decide +kernel
theorem dX11_bid_84 : decode prog_1_method_37_code 84 = .ok (.ireturn, 1) := by decide +kernel
theorem sp_X11_bid {q d : Int} (cs : CS S R) (hc : ClW I 1 A) (hb : BA A) (hq : Rg q) (hd : d = 0 ∨ d = 1) (hp : ∀ I', ClW I' 1 (f_bid A q d).2 → Fw I I' → Post (some (.int (iI (f_bid A q d).1))) S I' R) : Call n 0 0 mX11_bid [.ref (S.2.1 0), .int (iI q), .int (iI d)] S I R Post := by
  obtain ⟨⟨⟨c0, c7, c8, c9, c10, c11⟩, cq⟩, ⟨⟨t1, t2, t3, t4, t5, t6, t7, t8, t9⟩, tq, th, tb, ts, td⟩, cb, cp⟩ := id hc
  dsimp only [Nat.reduceAdd] at c0 c7 c8 c9 c10 c11 cq t1 t2 t3 t4 t5 t6 t7 t8 t9 tq th tb ts td
  obtain ⟨⟨b0, b1, b2, b3, b4, bq, bl⟩, ⟨d1, d2, d3, d4, d5, d6, d7⟩, dq, dh, db, ds, dd, dp⟩ := id hb
  have b7 : 0 ≤ A 7 ∧ A 7 ≤ 9999 := b1
  have b8 : 0 ≤ A 8 ∧ A 8 ≤ 30870 := b2
  have b9 : 0 ≤ A 9 ∧ A 9 ≤ 9999 := b3
  have b10 : 0 ≤ A 10 ∧ A 10 ≤ 1 := b4
  have b11 : 0 ≤ A 11 ∧ A 11 ≤ 16 := by have h1 := lns_b (fun q => A (6 + 6 + 3 * q)) (A 0).toNat; have h2 : A 11 = _ := bl; omega
  refine Call.of (by decide +kernel) (Nat.le_of_ble_eq_true rfl) ?_
  show WP _ _ _ _ _ 0 [(0, _), (1, _), (2, _)] [] 0 0 _ _ _
  refine x_aload_n dX11_bid_0 rfl ?_
  refine x_getR (b := 1) dX11_bid_1 gf_RX11_10 (k_ob_0 cs) (fun _ _ => rfl) (k_r_0_0 cs) ?_
  refine x_getR (b := 13) dX11_bid_4 gf_RX11_67 (k_ob_1 cs) (fun _ _ => rfl) (k_r_1_8 cs) ?_
  refine x_astore_n (lv2 := [(3, _), (0, _), (1, _), (2, _)]) dX11_bid_7 (by decide) rfl ?_
  refine x_iload_n dX11_bid_8 rfl ?_
  refine x_iconst dX11_bid_9 ?_
  refine x_icmp_ne 20 dX11_bid_10 (by decide) ⟨(by omega), (by omega)⟩ (fun w10 => ?_) (fun w10 => ?_)
  · refine x_iload_n dX11_bid_20 rfl ?_
    refine x_if_lt 39 dX11_bid_21 (by decide) (by omega) (fun w21 => ?_) (fun w21 => ?_)
    · refine x_bipush dX11_bid_39 (by decide) ?_
      exact x_ireturn dX11_bid_41 rfl (by omega) (by omega) (by first | (rw [show f_bid A q d = (0, upA A 5 0) from if_pos (by omega)] at hp; exact hp _ (cu_bids 0 hc) (Fw.rf.u (by omega))) | (rw [show f_bid A q d = (A 5 + 1, upA (upA (upA A (74 + 2 * (A 5).toNat) q) (75 + 2 * (A 5).toNat) d) 5 (A 5 + 1)) from (if_neg (by omega)).trans (if_pos (by omega))] at hp; exact (by first | (obtain rfl : d = 1 := (by omega); have hp2 := hp _ (cu_bid2 q 1 hc (by omega)) (((Fw.rf.u (by omega)).u (by omega)).u (by omega)); rw [t5] at hp2; exact hp2) | (obtain rfl : d = 0 := (by omega); have hp2 := hp _ (cu_bid2 q 0 hc (by omega)) (((Fw.rf.u (by omega)).u (by omega)).u (by omega)); rw [t5] at hp2; exact hp2))) | (rw [show f_bid A q d = (-2, A) from (if_neg (by omega)).trans (if_neg (by omega))] at hp; exact hp _ hc Fw.rf))
    · refine x_iload_n dX11_bid_24 rfl ?_
      refine x_bipush dX11_bid_25 (by decide) ?_
      refine x_icmp_gt 39 dX11_bid_27 (by decide) ⟨(by omega), (by omega)⟩ (fun w27 => ?_) (fun w27 => ?_)
      · refine x_bipush dX11_bid_39 (by decide) ?_
        exact x_ireturn dX11_bid_41 rfl (by omega) (by omega) (by first | (rw [show f_bid A q d = (0, upA A 5 0) from if_pos (by omega)] at hp; exact hp _ (cu_bids 0 hc) (Fw.rf.u (by omega))) | (rw [show f_bid A q d = (A 5 + 1, upA (upA (upA A (74 + 2 * (A 5).toNat) q) (75 + 2 * (A 5).toNat) d) 5 (A 5 + 1)) from (if_neg (by omega)).trans (if_pos (by omega))] at hp; exact (by first | (obtain rfl : d = 1 := (by omega); have hp2 := hp _ (cu_bid2 q 1 hc (by omega)) (((Fw.rf.u (by omega)).u (by omega)).u (by omega)); rw [t5] at hp2; exact hp2) | (obtain rfl : d = 0 := (by omega); have hp2 := hp _ (cu_bid2 q 0 hc (by omega)) (((Fw.rf.u (by omega)).u (by omega)).u (by omega)); rw [t5] at hp2; exact hp2))) | (rw [show f_bid A q d = (-2, A) from (if_neg (by omega)).trans (if_neg (by omega))] at hp; exact hp _ hc Fw.rf))
      · refine x_aload_n dX11_bid_30 rfl ?_
        refine x_getI dX11_bid_31 gf_RX11_312 (k_ob_13 cs) (fun _ _ => rfl) ?_
        refine x_bipush dX11_bid_34 (by decide) ?_
        refine x_icmp_lt 42 dX11_bid_36 (by decide) ⟨(by omega), (by omega)⟩ (fun w36 => ?_) (fun w36 => ?_)
        · refine x_aload_n dX11_bid_42 rfl ?_
          refine x_getR (b := 16) dX11_bid_43 gf_RX11_315 (k_ob_13 cs) (fun _ _ => rfl) (k_r_13_2 cs) ?_
          refine x_aload_n dX11_bid_46 rfl ?_
          refine x_getI dX11_bid_47 gf_RX11_312 (k_ob_13 cs) (fun _ _ => rfl) ?_
          refine x_iload_n dX11_bid_50 rfl ?_
          refine x_iastore dX11_bid_51 (k_ar_16 cs) (by omega) (by omega) ?_
          refine x_aload_n dX11_bid_52 rfl ?_
          refine x_getR (b := 17) dX11_bid_53 gf_RX11_318 (k_ob_13 cs) (fun _ _ => rfl) (k_r_13_3 cs) ?_
          refine x_aload_n dX11_bid_56 rfl ?_
          refine x_getIv (z := I 13 8) dX11_bid_57 gf_RX11_312 (k_ob_13 cs) (fun _ _ => rfl) (by (repeat first | rw [uI_s] | rw [uI_o (by omega)]); try rfl) ?_
          refine x_iload_n dX11_bid_60 rfl ?_
          refine x_if_eq 68 dX11_bid_61 (by decide) (by omega) (fun w61 => ?_) (fun w61 => ?_)
          · refine x_iconst dX11_bid_68 ?_
            refine x_iastore dX11_bid_69 (k_ar_17 cs) (by omega) (by omega) ?_
            refine x_aload_n dX11_bid_70 rfl ?_
            refine x_dup dX11_bid_71 rfl ?_
            refine x_getIv (z := I 13 8) dX11_bid_72 gf_RX11_312 (k_ob_13 cs) (fun _ _ => rfl) (by (repeat first | rw [uI_s] | rw [uI_o (by omega)]); try rfl) ?_
            refine x_iconst dX11_bid_75 ?_
            refine x_iadd dX11_bid_76 ?_
            refine x_putI dX11_bid_77 gf_RX11_312 (k_ob_13 cs) rfl ?_
            refine x_aload_n dX11_bid_80 rfl ?_
            refine x_getIv (z := I 13 8 + 1) dX11_bid_81 gf_RX11_312 (k_ob_13 cs) (fun _ _ => rfl) (by (repeat first | rw [uI_s] | rw [uI_o (by omega)]); try rfl) ?_
            exact x_ireturn dX11_bid_84 rfl (by omega) (by omega) (by first | (rw [show f_bid A q d = (0, upA A 5 0) from if_pos (by omega)] at hp; exact hp _ (cu_bids 0 hc) (Fw.rf.u (by omega))) | (rw [show f_bid A q d = (A 5 + 1, upA (upA (upA A (74 + 2 * (A 5).toNat) q) (75 + 2 * (A 5).toNat) d) 5 (A 5 + 1)) from (if_neg (by omega)).trans (if_pos (by omega))] at hp; exact (by first | (obtain rfl : d = 1 := (by omega); have hp2 := hp _ (cu_bid2 q 1 hc (by omega)) (((Fw.rf.u (by omega)).u (by omega)).u (by omega)); rw [t5] at hp2; exact hp2) | (obtain rfl : d = 0 := (by omega); have hp2 := hp _ (cu_bid2 q 0 hc (by omega)) (((Fw.rf.u (by omega)).u (by omega)).u (by omega)); rw [t5] at hp2; exact hp2))) | (rw [show f_bid A q d = (-2, A) from (if_neg (by omega)).trans (if_neg (by omega))] at hp; exact hp _ hc Fw.rf))
          · refine x_iconst dX11_bid_64 ?_
            refine x_goto 69 dX11_bid_65 (by decide) ?_
            refine x_iastore dX11_bid_69 (k_ar_17 cs) (by omega) (by omega) ?_
            refine x_aload_n dX11_bid_70 rfl ?_
            refine x_dup dX11_bid_71 rfl ?_
            refine x_getIv (z := I 13 8) dX11_bid_72 gf_RX11_312 (k_ob_13 cs) (fun _ _ => rfl) (by (repeat first | rw [uI_s] | rw [uI_o (by omega)]); try rfl) ?_
            refine x_iconst dX11_bid_75 ?_
            refine x_iadd dX11_bid_76 ?_
            refine x_putI dX11_bid_77 gf_RX11_312 (k_ob_13 cs) rfl ?_
            refine x_aload_n dX11_bid_80 rfl ?_
            refine x_getIv (z := I 13 8 + 1) dX11_bid_81 gf_RX11_312 (k_ob_13 cs) (fun _ _ => rfl) (by (repeat first | rw [uI_s] | rw [uI_o (by omega)]); try rfl) ?_
            exact x_ireturn dX11_bid_84 rfl (by omega) (by omega) (by first | (rw [show f_bid A q d = (0, upA A 5 0) from if_pos (by omega)] at hp; exact hp _ (cu_bids 0 hc) (Fw.rf.u (by omega))) | (rw [show f_bid A q d = (A 5 + 1, upA (upA (upA A (74 + 2 * (A 5).toNat) q) (75 + 2 * (A 5).toNat) d) 5 (A 5 + 1)) from (if_neg (by omega)).trans (if_pos (by omega))] at hp; exact (by first | (obtain rfl : d = 1 := (by omega); have hp2 := hp _ (cu_bid2 q 1 hc (by omega)) (((Fw.rf.u (by omega)).u (by omega)).u (by omega)); rw [t5] at hp2; exact hp2) | (obtain rfl : d = 0 := (by omega); have hp2 := hp _ (cu_bid2 q 0 hc (by omega)) (((Fw.rf.u (by omega)).u (by omega)).u (by omega)); rw [t5] at hp2; exact hp2))) | (rw [show f_bid A q d = (-2, A) from (if_neg (by omega)).trans (if_neg (by omega))] at hp; exact hp _ hc Fw.rf))
        · refine x_bipush dX11_bid_39 (by decide) ?_
          exact x_ireturn dX11_bid_41 rfl (by omega) (by omega) (by first | (rw [show f_bid A q d = (0, upA A 5 0) from if_pos (by omega)] at hp; exact hp _ (cu_bids 0 hc) (Fw.rf.u (by omega))) | (rw [show f_bid A q d = (A 5 + 1, upA (upA (upA A (74 + 2 * (A 5).toNat) q) (75 + 2 * (A 5).toNat) d) 5 (A 5 + 1)) from (if_neg (by omega)).trans (if_pos (by omega))] at hp; exact (by first | (obtain rfl : d = 1 := (by omega); have hp2 := hp _ (cu_bid2 q 1 hc (by omega)) (((Fw.rf.u (by omega)).u (by omega)).u (by omega)); rw [t5] at hp2; exact hp2) | (obtain rfl : d = 0 := (by omega); have hp2 := hp _ (cu_bid2 q 0 hc (by omega)) (((Fw.rf.u (by omega)).u (by omega)).u (by omega)); rw [t5] at hp2; exact hp2))) | (rw [show f_bid A q d = (-2, A) from (if_neg (by omega)).trans (if_neg (by omega))] at hp; exact hp _ hc Fw.rf))
  · refine x_aload_n dX11_bid_13 rfl ?_
    refine x_iconst dX11_bid_14 ?_
    refine x_putI dX11_bid_15 gf_RX11_312 (k_ob_13 cs) rfl ?_
    refine x_iconst dX11_bid_18 ?_
    exact x_ireturn dX11_bid_19 rfl (by omega) (by omega) (by first | (rw [show f_bid A q d = (0, upA A 5 0) from if_pos (by omega)] at hp; exact hp _ (cu_bids 0 hc) (Fw.rf.u (by omega))) | (rw [show f_bid A q d = (A 5 + 1, upA (upA (upA A (74 + 2 * (A 5).toNat) q) (75 + 2 * (A 5).toNat) d) 5 (A 5 + 1)) from (if_neg (by omega)).trans (if_pos (by omega))] at hp; exact (by first | (obtain rfl : d = 1 := (by omega); have hp2 := hp _ (cu_bid2 q 1 hc (by omega)) (((Fw.rf.u (by omega)).u (by omega)).u (by omega)); rw [t5] at hp2; exact hp2) | (obtain rfl : d = 0 := (by omega); have hp2 := hp _ (cu_bid2 q 0 hc (by omega)) (((Fw.rf.u (by omega)).u (by omega)).u (by omega)); rw [t5] at hp2; exact hp2))) | (rw [show f_bid A q d = (-2, A) from (if_neg (by omega)).trans (if_neg (by omega))] at hp; exact hp _ hc Fw.rf))
theorem dX11_said_0 : decode prog_1_method_40_code 0 = .ok (.aload_n 0, 1) := by decide +kernel
theorem dX11_said_1 : decode prog_1_method_40_code 1 = .ok (.getfield 10, 3) := by decide +kernel
theorem dX11_said_4 : decode prog_1_method_40_code 4 = .ok (.getfield 67, 3) := by decide +kernel
theorem dX11_said_7 : decode prog_1_method_40_code 7 = .ok (.astore_n 3, 1) := by decide +kernel
theorem dX11_said_8 : decode prog_1_method_40_code 8 = .ok (.iload_n 1, 1) := by decide +kernel
theorem dX11_said_9 : decode prog_1_method_40_code 9 = .ok (.iconst (-1), 1) := by decide +kernel
theorem dX11_said_10 : decode prog_1_method_40_code 10 = .ok (.if_icmp .ne 10, 3) := by decide +kernel
theorem dX11_said_13 : decode prog_1_method_40_code 13 = .ok (.aload_n 3, 1) := by decide +kernel
theorem dX11_said_14 : decode prog_1_method_40_code 14 = .ok (.iconst 0, 1) := by decide +kernel
theorem dX11_said_15 : decode prog_1_method_40_code 15 = .ok (.putfield 333, 3) := by decide +kernel
theorem dX11_said_18 : decode prog_1_method_40_code 18 = .ok (.iconst 0, 1) := by decide +kernel
theorem dX11_said_19 : decode prog_1_method_40_code 19 = .ok (.ireturn, 1) := by decide +kernel
theorem dX11_said_20 : decode prog_1_method_40_code 20 = .ok (.aload_n 0, 1) := by decide +kernel
theorem dX11_said_21 : decode prog_1_method_40_code 21 = .ok (.getfield 10, 3) := by decide +kernel
theorem dX11_said_24 : decode prog_1_method_40_code 24 = .ok (.getfield 127, 3) := by decide +kernel
theorem dX11_said_27 : decode prog_1_method_40_code 27 = .ok (.iload_n 1, 1) := by decide +kernel
theorem dX11_said_28 : decode prog_1_method_40_code 28 = .ok (.invokevirtual 165, 3) := by decide +kernel
theorem dX11_said_31 : decode prog_1_method_40_code 31 = .ok (.ifCond .eq 23, 3) := by decide +kernel
theorem dX11_said_34 : decode prog_1_method_40_code 34 = .ok (.iload_n 2, 1) := by decide +kernel
theorem dX11_said_35 : decode prog_1_method_40_code 35 = .ok (.ifCond .lt 19, 3) := by decide +kernel
theorem dX11_said_38 : decode prog_1_method_40_code 38 = .ok (.iload_n 2, 1) := by decide +kernel
theorem dX11_said_39 : decode prog_1_method_40_code 39 = .ok (.sipush 9999, 3) := by decide +kernel
theorem dX11_said_42 : decode prog_1_method_40_code 42 = .ok (.if_icmp .gt 12, 3) := by decide +kernel
theorem dX11_said_45 : decode prog_1_method_40_code 45 = .ok (.aload_n 3, 1) := by decide +kernel
theorem dX11_said_46 : decode prog_1_method_40_code 46 = .ok (.getfield 333, 3) := by decide +kernel
theorem dX11_said_49 : decode prog_1_method_40_code 49 = .ok (.bipush 8, 2) := by decide +kernel
theorem dX11_said_51 : decode prog_1_method_40_code 51 = .ok (.if_icmp .lt 6, 3) := by decide +kernel
theorem dX11_said_54 : decode prog_1_method_40_code 54 = .ok (.bipush (-2), 2) := by decide +kernel
theorem dX11_said_56 : decode prog_1_method_40_code 56 = .ok (.ireturn, 1) := by decide +kernel
theorem dX11_said_57 : decode prog_1_method_40_code 57 = .ok (.aload_n 3, 1) := by decide +kernel
theorem dX11_said_58 : decode prog_1_method_40_code 58 = .ok (.getfield 336, 3) := by decide +kernel
theorem dX11_said_61 : decode prog_1_method_40_code 61 = .ok (.aload_n 3, 1) := by decide +kernel
theorem dX11_said_62 : decode prog_1_method_40_code 62 = .ok (.getfield 333, 3) := by decide +kernel
theorem dX11_said_65 : decode prog_1_method_40_code 65 = .ok (.iload_n 1, 1) := by decide +kernel
theorem dX11_said_66 : decode prog_1_method_40_code 66 = .ok (.iastore, 1) := by decide +kernel
theorem dX11_said_67 : decode prog_1_method_40_code 67 = .ok (.aload_n 3, 1) := by decide +kernel
theorem dX11_said_68 : decode prog_1_method_40_code 68 = .ok (.getfield 339, 3) := by decide +kernel
theorem dX11_said_71 : decode prog_1_method_40_code 71 = .ok (.aload_n 3, 1) := by decide +kernel
theorem dX11_said_72 : decode prog_1_method_40_code 72 = .ok (.getfield 333, 3) := by decide +kernel
theorem dX11_said_75 : decode prog_1_method_40_code 75 = .ok (.iload_n 2, 1) := by decide +kernel
theorem dX11_said_76 : decode prog_1_method_40_code 76 = .ok (.iastore, 1) := by decide +kernel
theorem dX11_said_77 : decode prog_1_method_40_code 77 = .ok (.aload_n 3, 1) := by decide +kernel
theorem dX11_said_78 : decode prog_1_method_40_code 78 = .ok (.dup, 1) := by decide +kernel
theorem dX11_said_79 : decode prog_1_method_40_code 79 = .ok (.getfield 333, 3) := by decide +kernel
theorem dX11_said_82 : decode prog_1_method_40_code 82 = .ok (.iconst 1, 1) := by decide +kernel
theorem dX11_said_83 : decode prog_1_method_40_code 83 = .ok (.iadd, 1) := by decide +kernel
theorem dX11_said_84 : decode prog_1_method_40_code 84 = .ok (.putfield 333, 3) := by decide +kernel
theorem dX11_said_87 : decode prog_1_method_40_code 87 = .ok (.aload_n 3, 1) := by decide +kernel
theorem dX11_said_88 : decode prog_1_method_40_code 88 = .ok (.getfield 333, 3) := by decide +kernel
theorem dX11_said_91 : decode prog_1_method_40_code 91 = .ok (.ireturn, 1) := by decide +kernel
theorem sp_X11_said {q d : Int} (cs : CS S R) (hc : ClW I 1 A) (hb : BA A) (hq : Rg q) (hd : Rg d) (hn : 1 ≤ n) (hp : ∀ I', ClW I' 1 (f_said A q d).2 → Fw I I' → Post (some (.int (iI (f_said A q d).1))) S I' R) : Call n 0 0 mX11_said [.ref (S.2.1 0), .int (iI q), .int (iI d)] S I R Post := by
  obtain ⟨⟨⟨c0, c7, c8, c9, c10, c11⟩, cq⟩, ⟨⟨t1, t2, t3, t4, t5, t6, t7, t8, t9⟩, tq, th, tb, ts, td⟩, cb, cp⟩ := id hc
  dsimp only [Nat.reduceAdd] at c0 c7 c8 c9 c10 c11 cq t1 t2 t3 t4 t5 t6 t7 t8 t9 tq th tb ts td
  obtain ⟨⟨b0, b1, b2, b3, b4, bq, bl⟩, ⟨d1, d2, d3, d4, d5, d6, d7⟩, dq, dh, db, ds, dd, dp⟩ := id hb
  have b7 : 0 ≤ A 7 ∧ A 7 ≤ 9999 := b1
  have b8 : 0 ≤ A 8 ∧ A 8 ≤ 30870 := b2
  have b9 : 0 ≤ A 9 ∧ A 9 ≤ 9999 := b3
  have b10 : 0 ≤ A 10 ∧ A 10 ≤ 1 := b4
  have b11 : 0 ≤ A 11 ∧ A 11 ≤ 16 := by have h1 := lns_b (fun q => A (6 + 6 + 3 * q)) (A 0).toNat; have h2 : A 11 = _ := bl; omega
  have hsb : SB I 6 := SB_now hc hb
  refine Call.of (by decide +kernel) (Nat.le_of_ble_eq_true rfl) ?_
  show WP _ _ _ _ _ 0 [(0, _), (1, _), (2, _)] [] 0 0 _ _ _
  refine x_aload_n dX11_said_0 rfl ?_
  refine x_getR (b := 1) dX11_said_1 gf_RX11_10 (k_ob_0 cs) (fun _ _ => rfl) (k_r_0_0 cs) ?_
  refine x_getR (b := 13) dX11_said_4 gf_RX11_67 (k_ob_1 cs) (fun _ _ => rfl) (k_r_1_8 cs) ?_
  refine x_astore_n (lv2 := [(3, _), (0, _), (1, _), (2, _)]) dX11_said_7 (by decide) rfl ?_
  refine x_iload_n dX11_said_8 rfl ?_
  refine x_iconst dX11_said_9 ?_
  refine x_icmp_ne 20 dX11_said_10 (by decide) ⟨(by omega), (by omega)⟩ (fun w10 => ?_) (fun w10 => ?_)
  · refine x_aload_n dX11_said_20 rfl ?_
    refine x_getR (b := 1) dX11_said_21 gf_RX11_10 (k_ob_0 cs) (fun _ _ => rfl) (k_r_0_0 cs) ?_
    refine x_getR (b := 6) dX11_said_24 gf_RX11_127 (k_ob_1 cs) (fun _ _ => rfl) (k_r_1_4 cs) ?_
    refine x_iload_n dX11_said_27 rfl ?_
    refine x_callV1 (mc1 := 0) (ms1 := 0) dX11_said_28 cv_RX11_165 (ci := 6) (k_ob_6 cs) rfl (Nat.le_of_ble_eq_true rfl) (n1 := n - 1) (by omega) (by omega) (by omega) ?_
    refine sp_X6_has (k_st_6 cs) (by omega) (by assumption) (fun r28 hr28 => ?_)
    refine x_if_eq 54 dX11_said_31 (by decide) (by omega) (fun w31 => ?_) (fun w31 => ?_)
    · refine x_bipush dX11_said_54 (by decide) ?_
      exact x_ireturn dX11_said_56 rfl (by omega) (by omega) (by first | (rw [show f_said A q d = (0, upA A 6 0) from if_pos (by omega)] at hp; exact hp _ (cu_saids 0 hc) (Fw.rf.u (by omega))) | (rw [show f_said A q d = (A 6 + 1, upA (upA (upA A (94 + 2 * (A 6).toNat) q) (95 + 2 * (A 6).toNat) d) 6 (A 6 + 1)) from (if_neg (by omega)).trans (if_pos (by omega))] at hp; exact (by have hp2 := hp _ (cu_said2 q d hc (by omega)) (((Fw.rf.u (by omega)).u (by omega)).u (by omega)); rw [t6] at hp2; exact hp2)) | (rw [show f_said A q d = (-2, A) from (if_neg (by omega)).trans (if_neg (by omega))] at hp; exact hp _ hc Fw.rf))
    · refine x_iload_n dX11_said_34 rfl ?_
      refine x_if_lt 54 dX11_said_35 (by decide) (by omega) (fun w35 => ?_) (fun w35 => ?_)
      · refine x_bipush dX11_said_54 (by decide) ?_
        exact x_ireturn dX11_said_56 rfl (by omega) (by omega) (by first | (rw [show f_said A q d = (0, upA A 6 0) from if_pos (by omega)] at hp; exact hp _ (cu_saids 0 hc) (Fw.rf.u (by omega))) | (rw [show f_said A q d = (A 6 + 1, upA (upA (upA A (94 + 2 * (A 6).toNat) q) (95 + 2 * (A 6).toNat) d) 6 (A 6 + 1)) from (if_neg (by omega)).trans (if_pos (by omega))] at hp; exact (by have hp2 := hp _ (cu_said2 q d hc (by omega)) (((Fw.rf.u (by omega)).u (by omega)).u (by omega)); rw [t6] at hp2; exact hp2)) | (rw [show f_said A q d = (-2, A) from (if_neg (by omega)).trans (if_neg (by omega))] at hp; exact hp _ hc Fw.rf))
      · refine x_iload_n dX11_said_38 rfl ?_
        refine x_sipush dX11_said_39 (by decide) ?_
        refine x_icmp_gt 54 dX11_said_42 (by decide) ⟨(by omega), (by omega)⟩ (fun w42 => ?_) (fun w42 => ?_)
        · refine x_bipush dX11_said_54 (by decide) ?_
          exact x_ireturn dX11_said_56 rfl (by omega) (by omega) (by first | (rw [show f_said A q d = (0, upA A 6 0) from if_pos (by omega)] at hp; exact hp _ (cu_saids 0 hc) (Fw.rf.u (by omega))) | (rw [show f_said A q d = (A 6 + 1, upA (upA (upA A (94 + 2 * (A 6).toNat) q) (95 + 2 * (A 6).toNat) d) 6 (A 6 + 1)) from (if_neg (by omega)).trans (if_pos (by omega))] at hp; exact (by have hp2 := hp _ (cu_said2 q d hc (by omega)) (((Fw.rf.u (by omega)).u (by omega)).u (by omega)); rw [t6] at hp2; exact hp2)) | (rw [show f_said A q d = (-2, A) from (if_neg (by omega)).trans (if_neg (by omega))] at hp; exact hp _ hc Fw.rf))
        · refine x_aload_n dX11_said_45 rfl ?_
          refine x_getI dX11_said_46 gf_RX11_333 (k_ob_13 cs) (fun _ _ => rfl) ?_
          refine x_bipush dX11_said_49 (by decide) ?_
          refine x_icmp_lt 57 dX11_said_51 (by decide) ⟨(by omega), (by omega)⟩ (fun w51 => ?_) (fun w51 => ?_)
          · refine x_aload_n dX11_said_57 rfl ?_
            refine x_getR (b := 18) dX11_said_58 gf_RX11_336 (k_ob_13 cs) (fun _ _ => rfl) (k_r_13_4 cs) ?_
            refine x_aload_n dX11_said_61 rfl ?_
            refine x_getI dX11_said_62 gf_RX11_333 (k_ob_13 cs) (fun _ _ => rfl) ?_
            refine x_iload_n dX11_said_65 rfl ?_
            refine x_iastore dX11_said_66 (k_ar_18 cs) (by omega) (by omega) ?_
            refine x_aload_n dX11_said_67 rfl ?_
            refine x_getR (b := 19) dX11_said_68 gf_RX11_339 (k_ob_13 cs) (fun _ _ => rfl) (k_r_13_5 cs) ?_
            refine x_aload_n dX11_said_71 rfl ?_
            refine x_getIv (z := I 13 9) dX11_said_72 gf_RX11_333 (k_ob_13 cs) (fun _ _ => rfl) (by (repeat first | rw [uI_s] | rw [uI_o (by omega)]); try rfl) ?_
            refine x_iload_n dX11_said_75 rfl ?_
            refine x_iastore dX11_said_76 (k_ar_19 cs) (by omega) (by omega) ?_
            refine x_aload_n dX11_said_77 rfl ?_
            refine x_dup dX11_said_78 rfl ?_
            refine x_getIv (z := I 13 9) dX11_said_79 gf_RX11_333 (k_ob_13 cs) (fun _ _ => rfl) (by (repeat first | rw [uI_s] | rw [uI_o (by omega)]); try rfl) ?_
            refine x_iconst dX11_said_82 ?_
            refine x_iadd dX11_said_83 ?_
            refine x_putI dX11_said_84 gf_RX11_333 (k_ob_13 cs) rfl ?_
            refine x_aload_n dX11_said_87 rfl ?_
            refine x_getIv (z := I 13 9 + 1) dX11_said_88 gf_RX11_333 (k_ob_13 cs) (fun _ _ => rfl) (by (repeat first | rw [uI_s] | rw [uI_o (by omega)]); try rfl) ?_
            exact x_ireturn dX11_said_91 rfl (by omega) (by omega) (by first | (rw [show f_said A q d = (0, upA A 6 0) from if_pos (by omega)] at hp; exact hp _ (cu_saids 0 hc) (Fw.rf.u (by omega))) | (rw [show f_said A q d = (A 6 + 1, upA (upA (upA A (94 + 2 * (A 6).toNat) q) (95 + 2 * (A 6).toNat) d) 6 (A 6 + 1)) from (if_neg (by omega)).trans (if_pos (by omega))] at hp; exact (by have hp2 := hp _ (cu_said2 q d hc (by omega)) (((Fw.rf.u (by omega)).u (by omega)).u (by omega)); rw [t6] at hp2; exact hp2)) | (rw [show f_said A q d = (-2, A) from (if_neg (by omega)).trans (if_neg (by omega))] at hp; exact hp _ hc Fw.rf))
          · refine x_bipush dX11_said_54 (by decide) ?_
            exact x_ireturn dX11_said_56 rfl (by omega) (by omega) (by first | (rw [show f_said A q d = (0, upA A 6 0) from if_pos (by omega)] at hp; exact hp _ (cu_saids 0 hc) (Fw.rf.u (by omega))) | (rw [show f_said A q d = (A 6 + 1, upA (upA (upA A (94 + 2 * (A 6).toNat) q) (95 + 2 * (A 6).toNat) d) 6 (A 6 + 1)) from (if_neg (by omega)).trans (if_pos (by omega))] at hp; exact (by have hp2 := hp _ (cu_said2 q d hc (by omega)) (((Fw.rf.u (by omega)).u (by omega)).u (by omega)); rw [t6] at hp2; exact hp2)) | (rw [show f_said A q d = (-2, A) from (if_neg (by omega)).trans (if_neg (by omega))] at hp; exact hp _ hc Fw.rf))
  · refine x_aload_n dX11_said_13 rfl ?_
    refine x_iconst dX11_said_14 ?_
    refine x_putI dX11_said_15 gf_RX11_333 (k_ob_13 cs) rfl ?_
    refine x_iconst dX11_said_18 ?_
    exact x_ireturn dX11_said_19 rfl (by omega) (by omega) (by first | (rw [show f_said A q d = (0, upA A 6 0) from if_pos (by omega)] at hp; exact hp _ (cu_saids 0 hc) (Fw.rf.u (by omega))) | (rw [show f_said A q d = (A 6 + 1, upA (upA (upA A (94 + 2 * (A 6).toNat) q) (95 + 2 * (A 6).toNat) d) 6 (A 6 + 1)) from (if_neg (by omega)).trans (if_pos (by omega))] at hp; exact (by have hp2 := hp _ (cu_said2 q d hc (by omega)) (((Fw.rf.u (by omega)).u (by omega)).u (by omega)); rw [t6] at hp2; exact hp2)) | (rw [show f_said A q d = (-2, A) from (if_neg (by omega)).trans (if_neg (by omega))] at hp; exact hp _ hc Fw.rf))
theorem dX11_fault_0 : decode prog_1_method_6_code 0 = .ok (.iload_n 1, 1) := by decide +kernel
theorem dX11_fault_1 : decode prog_1_method_6_code 1 = .ok (.ifCond .ne 11, 3) := by decide +kernel
theorem dX11_fault_4 : decode prog_1_method_6_code 4 = .ok (.aload_n 0, 1) := by decide +kernel
theorem dX11_fault_5 : decode prog_1_method_6_code 5 = .ok (.getfield 40, 3) := by decide +kernel
theorem dX11_fault_8 : decode prog_1_method_6_code 8 = .ok (.getfield 104, 3) := by decide +kernel
theorem dX11_fault_11 : decode prog_1_method_6_code 11 = .ok (.ireturn, 1) := by decide +kernel
theorem dX11_fault_12 : decode prog_1_method_6_code 12 = .ok (.iload_n 1, 1) := by decide +kernel
theorem dX11_fault_13 : decode prog_1_method_6_code 13 = .ok (.iconst 1, 1) := by decide +kernel
theorem dX11_fault_14 : decode prog_1_method_6_code 14 = .ok (.if_icmp .ne 13, 3) := by decide +kernel
theorem dX11_fault_17 : decode prog_1_method_6_code 17 = .ok (.aload_n 0, 1) := by decide +kernel
theorem dX11_fault_18 : decode prog_1_method_6_code 18 = .ok (.getfield 40, 3) := by decide +kernel
theorem dX11_fault_21 : decode prog_1_method_6_code 21 = .ok (.getfield 107, 3) := by decide +kernel
theorem dX11_fault_24 : decode prog_1_method_6_code 24 = .ok (.goto 4, 3) := by decide +kernel
theorem dX11_fault_27 : decode prog_1_method_6_code 27 = .ok (.iconst (-1), 1) := by decide +kernel
theorem dX11_fault_28 : decode prog_1_method_6_code 28 = .ok (.ireturn, 1) := by decide +kernel
theorem sp_X11_fault {q : Int} (cs : CS S R) (hq : Rg q) (hp : ∀ r, (q = 0 ∧ r = I 287 4 ∨ q = 1 ∧ r = I 287 5 ∨ ¬ (q = 0 ∨ q = 1) ∧ r = -1) → Post (some (.int (iI r))) S I R) : Call n 0 0 mX11_fault [.ref (S.2.1 0), .int (iI q)] S I R Post := by
  refine Call.of (by decide +kernel) (Nat.le_of_ble_eq_true rfl) ?_
  show WP _ _ _ _ _ 0 [(0, _), (1, _)] [] 0 0 _ _ _
  refine x_iload_n dX11_fault_0 rfl ?_
  refine x_if_ne 12 dX11_fault_1 (by decide) (by omega) (fun w1 => ?_) (fun w1 => ?_)
  · refine x_iload_n dX11_fault_12 rfl ?_
    refine x_iconst dX11_fault_13 ?_
    refine x_icmp_ne 27 dX11_fault_14 (by decide) ⟨(by omega), (by omega)⟩ (fun w14 => ?_) (fun w14 => ?_)
    · refine x_iconst dX11_fault_27 ?_
      exact x_ireturn dX11_fault_28 rfl (by omega) (by omega) (hp _ (by omega))
    · refine x_aload_n dX11_fault_17 rfl ?_
      refine x_getR (b := 287) dX11_fault_18 gf_RX11_40 (k_ob_0 cs) (fun _ _ => rfl) (k_r_0_4 cs) ?_
      refine x_getI dX11_fault_21 gf_RX11_107 (k_ob_287 cs) (fun _ _ => rfl) ?_
      refine x_goto 28 dX11_fault_24 (by decide) ?_
      exact x_ireturn dX11_fault_28 rfl (by omega) (by omega) (hp _ (by omega))
  · refine x_aload_n dX11_fault_4 rfl ?_
    refine x_getR (b := 287) dX11_fault_5 gf_RX11_40 (k_ob_0 cs) (fun _ _ => rfl) (k_r_0_4 cs) ?_
    refine x_getI dX11_fault_8 gf_RX11_104 (k_ob_287 cs) (fun _ _ => rfl) ?_
    exact x_ireturn dX11_fault_11 rfl (by omega) (by omega) (hp _ (by omega))
theorem dX11_end_0 : decode prog_1_method_4_code 0 = .ok (.iload_n 1, 1) := by decide +kernel
theorem dX11_end_1 : decode prog_1_method_4_code 1 = .ok (.ifCond .lt 14, 3) := by decide +kernel
theorem dX11_end_4 : decode prog_1_method_4_code 4 = .ok (.iload_n 1, 1) := by decide +kernel
theorem dX11_end_5 : decode prog_1_method_4_code 5 = .ok (.aload_n 0, 1) := by decide +kernel
theorem dX11_end_6 : decode prog_1_method_4_code 6 = .ok (.getfield 40, 3) := by decide +kernel
theorem dX11_end_9 : decode prog_1_method_4_code 9 = .ok (.getfield 85, 3) := by decide +kernel
theorem dX11_end_12 : decode prog_1_method_4_code 12 = .ok (.if_icmp .le 5, 3) := by decide +kernel
theorem dX11_end_15 : decode prog_1_method_4_code 15 = .ok (.iconst (-1), 1) := by decide +kernel
theorem dX11_end_16 : decode prog_1_method_4_code 16 = .ok (.ireturn, 1) := by decide +kernel
theorem dX11_end_17 : decode prog_1_method_4_code 17 = .ok (.aload_n 0, 1) := by decide +kernel
theorem dX11_end_18 : decode prog_1_method_4_code 18 = .ok (.getfield 40, 3) := by decide +kernel
theorem dX11_end_21 : decode prog_1_method_4_code 21 = .ok (.iload_n 1, 1) := by decide +kernel
theorem dX11_end_22 : decode prog_1_method_4_code 22 = .ok (.putfield 85, 3) := by decide +kernel
theorem dX11_end_25 : decode prog_1_method_4_code 25 = .ok (.iload_n 1, 1) := by decide +kernel
theorem dX11_end_26 : decode prog_1_method_4_code 26 = .ok (.ireturn, 1) := by decide +kernel
theorem sp_X11_end {q : Int} (cs : CS S R) (hq : Rg q) (hl : 0 ≤ I 287 3 ∧ I 287 3 ≤ 300) (hp : ∀ r x, (0 ≤ q ∧ q ≤ I 287 3 ∧ r = q ∧ x = q ∨ ¬ (0 ≤ q ∧ q ≤ I 287 3) ∧ r = -1 ∧ x = I 287 3) → Post (some (.int (iI r))) S (uI I 287 3 x) R) : Call n 0 0 mX11_end [.ref (S.2.1 0), .int (iI q)] S I R Post := by
  refine Call.of (by decide +kernel) (Nat.le_of_ble_eq_true rfl) ?_
  show WP _ _ _ _ _ 0 [(0, _), (1, _)] [] 0 0 _ _ _
  refine x_iload_n dX11_end_0 rfl ?_
  refine x_if_lt 15 dX11_end_1 (by decide) (by omega) (fun w1 => ?_) (fun w1 => ?_)
  · refine x_iconst dX11_end_15 ?_
    exact x_ireturn dX11_end_16 rfl (by omega) (by omega) (by first | exact hp _ _ (by omega) | (have h2 := hp (-1) (I 287 3) (by omega); rw [uI_id] at h2; exact h2))
  · refine x_iload_n dX11_end_4 rfl ?_
    refine x_aload_n dX11_end_5 rfl ?_
    refine x_getR (b := 287) dX11_end_6 gf_RX11_40 (k_ob_0 cs) (fun _ _ => rfl) (k_r_0_4 cs) ?_
    refine x_getI dX11_end_9 gf_RX11_85 (k_ob_287 cs) (fun _ _ => rfl) ?_
    refine x_icmp_le 17 dX11_end_12 (by decide) ⟨(by omega), (by omega)⟩ (fun w12 => ?_) (fun w12 => ?_)
    · refine x_aload_n dX11_end_17 rfl ?_
      refine x_getR (b := 287) dX11_end_18 gf_RX11_40 (k_ob_0 cs) (fun _ _ => rfl) (k_r_0_4 cs) ?_
      refine x_iload_n dX11_end_21 rfl ?_
      refine x_putI dX11_end_22 gf_RX11_85 (k_ob_287 cs) rfl ?_
      refine x_iload_n dX11_end_25 rfl ?_
      exact x_ireturn dX11_end_26 rfl (by omega) (by omega) (by first | exact hp _ _ (by omega) | (have h2 := hp (-1) (I 287 3) (by omega); rw [uI_id] at h2; exact h2))
    · refine x_iconst dX11_end_15 ?_
      exact x_ireturn dX11_end_16 rfl (by omega) (by omega) (by first | exact hp _ _ (by omega) | (have h2 := hp (-1) (I 287 3) (by omega); rw [uI_id] at h2; exact h2))
theorem dX11_about_0 : decode prog_1_method_47_code 0 = .ok (.iload_n 1, 1) := by decide +kernel
theorem dX11_about_1 : decode prog_1_method_47_code 1 = .ok (.tableswitch 123 0 7 #[47, 58, 66, 74, 82, 93, 104, 115], 47) := by decide +kernel
theorem dX11_about_48 : decode prog_1_method_47_code 48 = .ok (.aload_n 0, 1) := by decide +kernel
theorem dX11_about_49 : decode prog_1_method_47_code 49 = .ok (.getfield 10, 3) := by decide +kernel
theorem dX11_about_52 : decode prog_1_method_47_code 52 = .ok (.getfield 127, 3) := by decide +kernel
theorem dX11_about_55 : decode prog_1_method_47_code 55 = .ok (.getfield 345, 3) := by decide +kernel
theorem dX11_about_58 : decode prog_1_method_47_code 58 = .ok (.ireturn, 1) := by decide +kernel
theorem dX11_about_59 : decode prog_1_method_47_code 59 = .ok (.aload_n 0, 1) := by decide +kernel
theorem dX11_about_60 : decode prog_1_method_47_code 60 = .ok (.getfield 10, 3) := by decide +kernel
theorem dX11_about_63 : decode prog_1_method_47_code 63 = .ok (.getfield 93, 3) := by decide +kernel
theorem dX11_about_66 : decode prog_1_method_47_code 66 = .ok (.ireturn, 1) := by decide +kernel
theorem dX11_about_67 : decode prog_1_method_47_code 67 = .ok (.aload_n 0, 1) := by decide +kernel
theorem dX11_about_68 : decode prog_1_method_47_code 68 = .ok (.getfield 10, 3) := by decide +kernel
theorem dX11_about_71 : decode prog_1_method_47_code 71 = .ok (.getfield 114, 3) := by decide +kernel
theorem dX11_about_74 : decode prog_1_method_47_code 74 = .ok (.ireturn, 1) := by decide +kernel
theorem dX11_about_75 : decode prog_1_method_47_code 75 = .ok (.aload_n 0, 1) := by decide +kernel
theorem dX11_about_76 : decode prog_1_method_47_code 76 = .ok (.getfield 10, 3) := by decide +kernel
theorem dX11_about_79 : decode prog_1_method_47_code 79 = .ok (.getfield 162, 3) := by decide +kernel
theorem dX11_about_82 : decode prog_1_method_47_code 82 = .ok (.ireturn, 1) := by decide +kernel
theorem dX11_about_83 : decode prog_1_method_47_code 83 = .ok (.aload_n 0, 1) := by decide +kernel
theorem dX11_about_84 : decode prog_1_method_47_code 84 = .ok (.getfield 10, 3) := by decide +kernel
theorem dX11_about_87 : decode prog_1_method_47_code 87 = .ok (.getfield 67, 3) := by decide +kernel
theorem dX11_about_90 : decode prog_1_method_47_code 90 = .ok (.getfield 297, 3) := by decide +kernel
theorem dX11_about_93 : decode prog_1_method_47_code 93 = .ok (.ireturn, 1) := by decide +kernel
theorem dX11_about_94 : decode prog_1_method_47_code 94 = .ok (.aload_n 0, 1) := by decide +kernel
theorem dX11_about_95 : decode prog_1_method_47_code 95 = .ok (.getfield 10, 3) := by decide +kernel
theorem dX11_about_98 : decode prog_1_method_47_code 98 = .ok (.getfield 67, 3) := by decide +kernel
theorem dX11_about_101 : decode prog_1_method_47_code 101 = .ok (.getfield 312, 3) := by decide +kernel
theorem dX11_about_104 : decode prog_1_method_47_code 104 = .ok (.ireturn, 1) := by decide +kernel
theorem dX11_about_105 : decode prog_1_method_47_code 105 = .ok (.aload_n 0, 1) := by decide +kernel
theorem dX11_about_106 : decode prog_1_method_47_code 106 = .ok (.getfield 10, 3) := by decide +kernel
theorem dX11_about_109 : decode prog_1_method_47_code 109 = .ok (.getfield 67, 3) := by decide +kernel
theorem dX11_about_112 : decode prog_1_method_47_code 112 = .ok (.getfield 333, 3) := by decide +kernel
theorem dX11_about_115 : decode prog_1_method_47_code 115 = .ok (.ireturn, 1) := by decide +kernel
theorem dX11_about_116 : decode prog_1_method_47_code 116 = .ok (.aload_n 0, 1) := by decide +kernel
theorem dX11_about_117 : decode prog_1_method_47_code 117 = .ok (.getfield 40, 3) := by decide +kernel
theorem dX11_about_120 : decode prog_1_method_47_code 120 = .ok (.getfield 85, 3) := by decide +kernel
theorem dX11_about_123 : decode prog_1_method_47_code 123 = .ok (.ireturn, 1) := by decide +kernel
theorem dX11_about_124 : decode prog_1_method_47_code 124 = .ok (.bipush (-2), 2) := by decide +kernel
theorem dX11_about_126 : decode prog_1_method_47_code 126 = .ok (.ireturn, 1) := by decide +kernel
theorem sp_X11_about {q : Int} (cs : CS S R) (hc : ClW I 1 A) (hq : Rg q) (hp : ∀ r, ((0 ≤ q ∧ q ≤ 6 ∧ r = A q.toNat) ∨ (q = 7 ∧ r = I 287 3) ∨ (¬ (0 ≤ q ∧ q ≤ 7) ∧ r = -2)) → Post (some (.int (iI r))) S I R) : Call n 0 0 mX11_about [.ref (S.2.1 0), .int (iI q)] S I R Post := by
  obtain ⟨⟨⟨c0, c7, c8, c9, c10, c11⟩, cq⟩, ⟨⟨t1, t2, t3, t4, t5, t6, t7, t8, t9⟩, tq, th, tb, ts, td⟩, cb, cp⟩ := id hc
  dsimp only [Nat.reduceAdd] at c0 c7 c8 c9 c10 c11 cq t1 t2 t3 t4 t5 t6 t7 t8 t9 tq th tb ts td
  refine Call.of (by decide +kernel) (Nat.le_of_ble_eq_true rfl) ?_
  show WP _ _ _ _ _ 0 [(0, _), (1, _)] [] 0 0 _ _ _
  refine x_iload_n dX11_about_0 rfl ?_
  by_cases t1_0 : q = 0
  · refine x_tableIn 48 dX11_about_1 (by omega) (by omega) (by rw [t1_0]; rfl) (by decide) ?_
    refine x_aload_n dX11_about_48 rfl ?_
    refine x_getR (b := 1) dX11_about_49 gf_RX11_10 (k_ob_0 cs) (fun _ _ => rfl) (k_r_0_0 cs) ?_
    refine x_getR (b := 6) dX11_about_52 gf_RX11_127 (k_ob_1 cs) (fun _ _ => rfl) (k_r_1_4 cs) ?_
    refine x_getI dX11_about_55 gf_RX11_345 (k_ob_6 cs) (fun _ _ => rfl) ?_
    exact x_ireturn dX11_about_58 rfl (by omega) (by omega) (hp _ (by first | (right; right; exact ⟨by omega, rfl⟩) | (right; left; exact ⟨by omega, rfl⟩) | (left; refine ⟨by omega, by omega, ?_⟩; first | (rw [show q.toNat = 0 by omega]; exact c0.symm) | (rw [show q.toNat = 1 by omega]; exact t1.symm) | (rw [show q.toNat = 2 by omega]; exact t2.symm) | (rw [show q.toNat = 3 by omega]; exact t3.symm) | (rw [show q.toNat = 4 by omega]; exact t4.symm) | (rw [show q.toNat = 5 by omega]; exact t5.symm) | (rw [show q.toNat = 6 by omega]; exact t6.symm))))
  by_cases t1_1 : q = 1
  · refine x_tableIn 59 dX11_about_1 (by omega) (by omega) (by rw [t1_1]; rfl) (by decide) ?_
    refine x_aload_n dX11_about_59 rfl ?_
    refine x_getR (b := 1) dX11_about_60 gf_RX11_10 (k_ob_0 cs) (fun _ _ => rfl) (k_r_0_0 cs) ?_
    refine x_getI dX11_about_63 gf_RX11_93 (k_ob_1 cs) (fun _ _ => rfl) ?_
    exact x_ireturn dX11_about_66 rfl (by omega) (by omega) (hp _ (by first | (right; right; exact ⟨by omega, rfl⟩) | (right; left; exact ⟨by omega, rfl⟩) | (left; refine ⟨by omega, by omega, ?_⟩; first | (rw [show q.toNat = 0 by omega]; exact c0.symm) | (rw [show q.toNat = 1 by omega]; exact t1.symm) | (rw [show q.toNat = 2 by omega]; exact t2.symm) | (rw [show q.toNat = 3 by omega]; exact t3.symm) | (rw [show q.toNat = 4 by omega]; exact t4.symm) | (rw [show q.toNat = 5 by omega]; exact t5.symm) | (rw [show q.toNat = 6 by omega]; exact t6.symm))))
  by_cases t1_2 : q = 2
  · refine x_tableIn 67 dX11_about_1 (by omega) (by omega) (by rw [t1_2]; rfl) (by decide) ?_
    refine x_aload_n dX11_about_67 rfl ?_
    refine x_getR (b := 1) dX11_about_68 gf_RX11_10 (k_ob_0 cs) (fun _ _ => rfl) (k_r_0_0 cs) ?_
    refine x_getI dX11_about_71 gf_RX11_114 (k_ob_1 cs) (fun _ _ => rfl) ?_
    exact x_ireturn dX11_about_74 rfl (by omega) (by omega) (hp _ (by first | (right; right; exact ⟨by omega, rfl⟩) | (right; left; exact ⟨by omega, rfl⟩) | (left; refine ⟨by omega, by omega, ?_⟩; first | (rw [show q.toNat = 0 by omega]; exact c0.symm) | (rw [show q.toNat = 1 by omega]; exact t1.symm) | (rw [show q.toNat = 2 by omega]; exact t2.symm) | (rw [show q.toNat = 3 by omega]; exact t3.symm) | (rw [show q.toNat = 4 by omega]; exact t4.symm) | (rw [show q.toNat = 5 by omega]; exact t5.symm) | (rw [show q.toNat = 6 by omega]; exact t6.symm))))
  by_cases t1_3 : q = 3
  · refine x_tableIn 75 dX11_about_1 (by omega) (by omega) (by rw [t1_3]; rfl) (by decide) ?_
    refine x_aload_n dX11_about_75 rfl ?_
    refine x_getR (b := 1) dX11_about_76 gf_RX11_10 (k_ob_0 cs) (fun _ _ => rfl) (k_r_0_0 cs) ?_
    refine x_getI dX11_about_79 gf_RX11_162 (k_ob_1 cs) (fun _ _ => rfl) ?_
    exact x_ireturn dX11_about_82 rfl (by omega) (by omega) (hp _ (by first | (right; right; exact ⟨by omega, rfl⟩) | (right; left; exact ⟨by omega, rfl⟩) | (left; refine ⟨by omega, by omega, ?_⟩; first | (rw [show q.toNat = 0 by omega]; exact c0.symm) | (rw [show q.toNat = 1 by omega]; exact t1.symm) | (rw [show q.toNat = 2 by omega]; exact t2.symm) | (rw [show q.toNat = 3 by omega]; exact t3.symm) | (rw [show q.toNat = 4 by omega]; exact t4.symm) | (rw [show q.toNat = 5 by omega]; exact t5.symm) | (rw [show q.toNat = 6 by omega]; exact t6.symm))))
  by_cases t1_4 : q = 4
  · refine x_tableIn 83 dX11_about_1 (by omega) (by omega) (by rw [t1_4]; rfl) (by decide) ?_
    refine x_aload_n dX11_about_83 rfl ?_
    refine x_getR (b := 1) dX11_about_84 gf_RX11_10 (k_ob_0 cs) (fun _ _ => rfl) (k_r_0_0 cs) ?_
    refine x_getR (b := 13) dX11_about_87 gf_RX11_67 (k_ob_1 cs) (fun _ _ => rfl) (k_r_1_8 cs) ?_
    refine x_getI dX11_about_90 gf_RX11_297 (k_ob_13 cs) (fun _ _ => rfl) ?_
    exact x_ireturn dX11_about_93 rfl (by omega) (by omega) (hp _ (by first | (right; right; exact ⟨by omega, rfl⟩) | (right; left; exact ⟨by omega, rfl⟩) | (left; refine ⟨by omega, by omega, ?_⟩; first | (rw [show q.toNat = 0 by omega]; exact c0.symm) | (rw [show q.toNat = 1 by omega]; exact t1.symm) | (rw [show q.toNat = 2 by omega]; exact t2.symm) | (rw [show q.toNat = 3 by omega]; exact t3.symm) | (rw [show q.toNat = 4 by omega]; exact t4.symm) | (rw [show q.toNat = 5 by omega]; exact t5.symm) | (rw [show q.toNat = 6 by omega]; exact t6.symm))))
  by_cases t1_5 : q = 5
  · refine x_tableIn 94 dX11_about_1 (by omega) (by omega) (by rw [t1_5]; rfl) (by decide) ?_
    refine x_aload_n dX11_about_94 rfl ?_
    refine x_getR (b := 1) dX11_about_95 gf_RX11_10 (k_ob_0 cs) (fun _ _ => rfl) (k_r_0_0 cs) ?_
    refine x_getR (b := 13) dX11_about_98 gf_RX11_67 (k_ob_1 cs) (fun _ _ => rfl) (k_r_1_8 cs) ?_
    refine x_getI dX11_about_101 gf_RX11_312 (k_ob_13 cs) (fun _ _ => rfl) ?_
    exact x_ireturn dX11_about_104 rfl (by omega) (by omega) (hp _ (by first | (right; right; exact ⟨by omega, rfl⟩) | (right; left; exact ⟨by omega, rfl⟩) | (left; refine ⟨by omega, by omega, ?_⟩; first | (rw [show q.toNat = 0 by omega]; exact c0.symm) | (rw [show q.toNat = 1 by omega]; exact t1.symm) | (rw [show q.toNat = 2 by omega]; exact t2.symm) | (rw [show q.toNat = 3 by omega]; exact t3.symm) | (rw [show q.toNat = 4 by omega]; exact t4.symm) | (rw [show q.toNat = 5 by omega]; exact t5.symm) | (rw [show q.toNat = 6 by omega]; exact t6.symm))))
  by_cases t1_6 : q = 6
  · refine x_tableIn 105 dX11_about_1 (by omega) (by omega) (by rw [t1_6]; rfl) (by decide) ?_
    refine x_aload_n dX11_about_105 rfl ?_
    refine x_getR (b := 1) dX11_about_106 gf_RX11_10 (k_ob_0 cs) (fun _ _ => rfl) (k_r_0_0 cs) ?_
    refine x_getR (b := 13) dX11_about_109 gf_RX11_67 (k_ob_1 cs) (fun _ _ => rfl) (k_r_1_8 cs) ?_
    refine x_getI dX11_about_112 gf_RX11_333 (k_ob_13 cs) (fun _ _ => rfl) ?_
    exact x_ireturn dX11_about_115 rfl (by omega) (by omega) (hp _ (by first | (right; right; exact ⟨by omega, rfl⟩) | (right; left; exact ⟨by omega, rfl⟩) | (left; refine ⟨by omega, by omega, ?_⟩; first | (rw [show q.toNat = 0 by omega]; exact c0.symm) | (rw [show q.toNat = 1 by omega]; exact t1.symm) | (rw [show q.toNat = 2 by omega]; exact t2.symm) | (rw [show q.toNat = 3 by omega]; exact t3.symm) | (rw [show q.toNat = 4 by omega]; exact t4.symm) | (rw [show q.toNat = 5 by omega]; exact t5.symm) | (rw [show q.toNat = 6 by omega]; exact t6.symm))))
  by_cases t1_7 : q = 7
  · refine x_tableIn 116 dX11_about_1 (by omega) (by omega) (by rw [t1_7]; rfl) (by decide) ?_
    refine x_aload_n dX11_about_116 rfl ?_
    refine x_getR (b := 287) dX11_about_117 gf_RX11_40 (k_ob_0 cs) (fun _ _ => rfl) (k_r_0_4 cs) ?_
    refine x_getI dX11_about_120 gf_RX11_85 (k_ob_287 cs) (fun _ _ => rfl) ?_
    exact x_ireturn dX11_about_123 rfl (by omega) (by omega) (hp _ (by first | (right; right; exact ⟨by omega, rfl⟩) | (right; left; exact ⟨by omega, rfl⟩) | (left; refine ⟨by omega, by omega, ?_⟩; first | (rw [show q.toNat = 0 by omega]; exact c0.symm) | (rw [show q.toNat = 1 by omega]; exact t1.symm) | (rw [show q.toNat = 2 by omega]; exact t2.symm) | (rw [show q.toNat = 3 by omega]; exact t3.symm) | (rw [show q.toNat = 4 by omega]; exact t4.symm) | (rw [show q.toNat = 5 by omega]; exact t5.symm) | (rw [show q.toNat = 6 by omega]; exact t6.symm))))
  refine x_tableOut 124 dX11_about_1 (by omega) (by omega) (by decide) ?_
  refine x_bipush dX11_about_124 (by decide) ?_
  exact x_ireturn dX11_about_126 rfl (by omega) (by omega) (hp _ (by first | (right; right; exact ⟨by omega, rfl⟩) | (right; left; exact ⟨by omega, rfl⟩) | (left; refine ⟨by omega, by omega, ?_⟩; first | (rw [show q.toNat = 0 by omega]; exact c0.symm) | (rw [show q.toNat = 1 by omega]; exact t1.symm) | (rw [show q.toNat = 2 by omega]; exact t2.symm) | (rw [show q.toNat = 3 by omega]; exact t3.symm) | (rw [show q.toNat = 4 by omega]; exact t4.symm) | (rw [show q.toNat = 5 by omega]; exact t5.symm) | (rw [show q.toNat = 6 by omega]; exact t6.symm))))
def f_book (A : Nat → Int) (i w : Int) : Int := if i = -1 then A 11 else if 0 ≤ i ∧ i < A 11 ∧ 0 ≤ w ∧ w < 4 then (if w = 0 then A (2815 + i.toNat) / 24 else if w = 1 then A (2815 + i.toNat) / 3 % 8 else if w = 2 then A (2815 + i.toNat) % 3 else A (2845 + i.toNat)) else -2
theorem book_at {I : CI} {A : Nat → Int} {i w : Int} (hc : ClW I 1 A) (hi : 0 ≤ i ∧ i < A 11) (hw : 0 ≤ w ∧ w < 4) : f_book A i w = I 11 (i * 4 + w).toNat := by
  have hb := hc.2.2.1 i.toNat (by omega)
  dsimp only [Nat.reduceAdd] at hb
  unfold f_book
  rw [if_neg (by omega), if_pos (by omega)]
  rcases (show w = 0 ∨ w = 1 ∨ w = 2 ∨ w = 3 by omega) with rfl | rfl | rfl | rfl
  · rw [if_pos rfl, show (i * 4 + 0).toNat = 4 * i.toNat by omega]; omega
  · rw [if_neg (by omega), if_pos rfl, show (i * 4 + 1).toNat = 4 * i.toNat + 1 by omega]; omega
  · rw [if_neg (by omega), if_neg (by omega), if_pos rfl, show (i * 4 + 2).toNat = 4 * i.toNat + 2 by omega]; omega
  · rw [if_neg (by omega), if_neg (by omega), if_neg (by omega), show (i * 4 + 3).toNat = 4 * i.toNat + 3 by omega]; omega
theorem dX11_book_0 : decode prog_1_method_17_code 0 = .ok (.iload_n 1, 1) := by decide +kernel
theorem dX11_book_1 : decode prog_1_method_17_code 1 = .ok (.iconst (-1), 1) := by decide +kernel
theorem dX11_book_2 : decode prog_1_method_17_code 2 = .ok (.if_icmp .ne 14, 3) := by decide +kernel
theorem dX11_book_5 : decode prog_1_method_17_code 5 = .ok (.aload_n 0, 1) := by decide +kernel
theorem dX11_book_6 : decode prog_1_method_17_code 6 = .ok (.getfield 10, 3) := by decide +kernel
theorem dX11_book_9 : decode prog_1_method_17_code 9 = .ok (.getfield 127, 3) := by decide +kernel
theorem dX11_book_12 : decode prog_1_method_17_code 12 = .ok (.getfield 202, 3) := by decide +kernel
theorem dX11_book_15 : decode prog_1_method_17_code 15 = .ok (.ireturn, 1) := by decide +kernel
theorem dX11_book_16 : decode prog_1_method_17_code 16 = .ok (.iload_n 1, 1) := by decide +kernel
theorem dX11_book_17 : decode prog_1_method_17_code 17 = .ok (.ifCond .lt 26, 3) := by decide +kernel
theorem dX11_book_20 : decode prog_1_method_17_code 20 = .ok (.iload_n 1, 1) := by decide +kernel
theorem dX11_book_21 : decode prog_1_method_17_code 21 = .ok (.aload_n 0, 1) := by decide +kernel
theorem dX11_book_22 : decode prog_1_method_17_code 22 = .ok (.getfield 10, 3) := by decide +kernel
theorem dX11_book_25 : decode prog_1_method_17_code 25 = .ok (.getfield 127, 3) := by decide +kernel
theorem dX11_book_28 : decode prog_1_method_17_code 28 = .ok (.getfield 202, 3) := by decide +kernel
theorem dX11_book_31 : decode prog_1_method_17_code 31 = .ok (.if_icmp .ge 12, 3) := by decide +kernel
theorem dX11_book_34 : decode prog_1_method_17_code 34 = .ok (.iload_n 2, 1) := by decide +kernel
theorem dX11_book_35 : decode prog_1_method_17_code 35 = .ok (.ifCond .lt 8, 3) := by decide +kernel
theorem dX11_book_38 : decode prog_1_method_17_code 38 = .ok (.iload_n 2, 1) := by decide +kernel
theorem dX11_book_39 : decode prog_1_method_17_code 39 = .ok (.iconst 4, 1) := by decide +kernel
theorem dX11_book_40 : decode prog_1_method_17_code 40 = .ok (.if_icmp .lt 6, 3) := by decide +kernel
theorem dX11_book_43 : decode prog_1_method_17_code 43 = .ok (.bipush (-2), 2) := by decide +kernel
theorem dX11_book_45 : decode prog_1_method_17_code 45 = .ok (.ireturn, 1) := by decide +kernel
theorem dX11_book_46 : decode prog_1_method_17_code 46 = .ok (.aload_n 0, 1) := by decide +kernel
theorem dX11_book_47 : decode prog_1_method_17_code 47 = .ok (.getfield 10, 3) := by decide +kernel
theorem dX11_book_50 : decode prog_1_method_17_code 50 = .ok (.getfield 205, 3) := by decide +kernel
theorem dX11_book_53 : decode prog_1_method_17_code 53 = .ok (.iload_n 1, 1) := by decide +kernel
theorem dX11_book_54 : decode prog_1_method_17_code 54 = .ok (.iconst 4, 1) := by decide +kernel
theorem dX11_book_55 : decode prog_1_method_17_code 55 = .ok (.imul, 1) := by decide +kernel
theorem dX11_book_56 : decode prog_1_method_17_code 56 = .ok (.iload_n 2, 1) := by decide +kernel
theorem dX11_book_57 : decode prog_1_method_17_code 57 = .ok (.iadd, 1) := by decide +kernel
theorem dX11_book_58 : decode prog_1_method_17_code 58 = .ok (.iaload, 1) := by decide +kernel
theorem dX11_book_59 : decode prog_1_method_17_code 59 = .ok (.ireturn, 1) := by decide +kernel
theorem sp_X11_book {q w : Int} (cs : CS S R) (hc : ClW I 1 A) (hb : BA A) (hq : Rg q) (hw : Rg w) (hp : Post (some (.int (iI (f_book A q w)))) S I R) : Call n 0 0 mX11_book [.ref (S.2.1 0), .int (iI q), .int (iI w)] S I R Post := by
  obtain ⟨⟨⟨c0, c7, c8, c9, c10, c11⟩, cq⟩, ⟨⟨t1, t2, t3, t4, t5, t6, t7, t8, t9⟩, tq, th, tb, ts, td⟩, cb, cp⟩ := id hc
  dsimp only [Nat.reduceAdd] at c0 c7 c8 c9 c10 c11 cq t1 t2 t3 t4 t5 t6 t7 t8 t9 tq th tb ts td
  obtain ⟨⟨b0, b1, b2, b3, b4, bq, bl⟩, ⟨d1, d2, d3, d4, d5, d6, d7⟩, dq, dh, db, ds, dd, dp⟩ := id hb
  have b7 : 0 ≤ A 7 ∧ A 7 ≤ 9999 := b1
  have b8 : 0 ≤ A 8 ∧ A 8 ≤ 30870 := b2
  have b9 : 0 ≤ A 9 ∧ A 9 ≤ 9999 := b3
  have b10 : 0 ≤ A 10 ∧ A 10 ≤ 1 := b4
  have b11 : 0 ≤ A 11 ∧ A 11 ≤ 16 := by have h1 := lns_b (fun q => A (6 + 6 + 3 * q)) (A 0).toNat; have h2 : A 11 = _ := bl; omega
  refine Call.of (by decide +kernel) (Nat.le_of_ble_eq_true rfl) ?_
  show WP _ _ _ _ _ 0 [(0, _), (1, _), (2, _)] [] 0 0 _ _ _
  refine x_iload_n dX11_book_0 rfl ?_
  refine x_iconst dX11_book_1 ?_
  refine x_icmp_ne 16 dX11_book_2 (by decide) ⟨(by omega), (by omega)⟩ (fun w2 => ?_) (fun w2 => ?_)
  · refine x_iload_n dX11_book_16 rfl ?_
    refine x_if_lt 43 dX11_book_17 (by decide) (by omega) (fun w17 => ?_) (fun w17 => ?_)
    · refine x_bipush dX11_book_43 (by decide) ?_
      exact x_ireturn dX11_book_45 rfl (by omega) (by omega) (by first | (rw [show f_book A q w = I 6 8 from (if_pos (by omega)).trans c11] at hp; exact hp) | (rw [show f_book A q w = -2 from (if_neg (by omega)).trans (if_neg (by omega))] at hp; exact hp) | (rw [book_at hc (by omega) (by omega)] at hp; exact hp))
    · refine x_iload_n dX11_book_20 rfl ?_
      refine x_aload_n dX11_book_21 rfl ?_
      refine x_getR (b := 1) dX11_book_22 gf_RX11_10 (k_ob_0 cs) (fun _ _ => rfl) (k_r_0_0 cs) ?_
      refine x_getR (b := 6) dX11_book_25 gf_RX11_127 (k_ob_1 cs) (fun _ _ => rfl) (k_r_1_4 cs) ?_
      refine x_getI dX11_book_28 gf_RX11_202 (k_ob_6 cs) (fun _ _ => rfl) ?_
      refine x_icmp_ge 43 dX11_book_31 (by decide) ⟨(by omega), (by omega)⟩ (fun w31 => ?_) (fun w31 => ?_)
      · refine x_bipush dX11_book_43 (by decide) ?_
        exact x_ireturn dX11_book_45 rfl (by omega) (by omega) (by first | (rw [show f_book A q w = I 6 8 from (if_pos (by omega)).trans c11] at hp; exact hp) | (rw [show f_book A q w = -2 from (if_neg (by omega)).trans (if_neg (by omega))] at hp; exact hp) | (rw [book_at hc (by omega) (by omega)] at hp; exact hp))
      · refine x_iload_n dX11_book_34 rfl ?_
        refine x_if_lt 43 dX11_book_35 (by decide) (by omega) (fun w35 => ?_) (fun w35 => ?_)
        · refine x_bipush dX11_book_43 (by decide) ?_
          exact x_ireturn dX11_book_45 rfl (by omega) (by omega) (by first | (rw [show f_book A q w = I 6 8 from (if_pos (by omega)).trans c11] at hp; exact hp) | (rw [show f_book A q w = -2 from (if_neg (by omega)).trans (if_neg (by omega))] at hp; exact hp) | (rw [book_at hc (by omega) (by omega)] at hp; exact hp))
        · refine x_iload_n dX11_book_38 rfl ?_
          refine x_iconst dX11_book_39 ?_
          refine x_icmp_lt 46 dX11_book_40 (by decide) ⟨(by omega), (by omega)⟩ (fun w40 => ?_) (fun w40 => ?_)
          · refine x_aload_n dX11_book_46 rfl ?_
            refine x_getR (b := 1) dX11_book_47 gf_RX11_10 (k_ob_0 cs) (fun _ _ => rfl) (k_r_0_0 cs) ?_
            refine x_getR (b := 11) dX11_book_50 gf_RX11_205 (k_ob_1 cs) (fun _ _ => rfl) (k_r_1_6 cs) ?_
            refine x_iload_n dX11_book_53 rfl ?_
            refine x_iconst dX11_book_54 ?_
            refine x_imul dX11_book_55 ?_
            refine x_iload_n dX11_book_56 rfl ?_
            refine x_iadd dX11_book_57 ?_
            refine x_iaload dX11_book_58 (k_ar_11 cs) (by omega) (by omega) ?_
            exact x_ireturn dX11_book_59 rfl (by omega) (by omega) (by first | (rw [show f_book A q w = I 6 8 from (if_pos (by omega)).trans c11] at hp; exact hp) | (rw [show f_book A q w = -2 from (if_neg (by omega)).trans (if_neg (by omega))] at hp; exact hp) | (rw [book_at hc (by omega) (by omega)] at hp; exact hp))
          · refine x_bipush dX11_book_43 (by decide) ?_
            exact x_ireturn dX11_book_45 rfl (by omega) (by omega) (by first | (rw [show f_book A q w = I 6 8 from (if_pos (by omega)).trans c11] at hp; exact hp) | (rw [show f_book A q w = -2 from (if_neg (by omega)).trans (if_neg (by omega))] at hp; exact hp) | (rw [book_at hc (by omega) (by omega)] at hp; exact hp))
  · refine x_aload_n dX11_book_5 rfl ?_
    refine x_getR (b := 1) dX11_book_6 gf_RX11_10 (k_ob_0 cs) (fun _ _ => rfl) (k_r_0_0 cs) ?_
    refine x_getR (b := 6) dX11_book_9 gf_RX11_127 (k_ob_1 cs) (fun _ _ => rfl) (k_r_1_4 cs) ?_
    refine x_getI dX11_book_12 gf_RX11_202 (k_ob_6 cs) (fun _ _ => rfl) ?_
    exact x_ireturn dX11_book_15 rfl (by omega) (by omega) (by first | (rw [show f_book A q w = I 6 8 from (if_pos (by omega)).trans c11] at hp; exact hp) | (rw [show f_book A q w = -2 from (if_neg (by omega)).trans (if_neg (by omega))] at hp; exact hp) | (rw [book_at hc (by omega) (by omega)] at hp; exact hp))
def ldg (A : Nat → Int) (w : Int) : Nat → Int
  | 0 => 0
  | n + 1 => ldg A w n + (if A (2815 + n) % 3 = w then 1 else 0)
theorem ldg_b (A : Nat → Int) (w : Int) : ∀ n : Nat, 0 ≤ ldg A w n ∧ ldg A w n ≤ n := by
  intro n
  induction n with
  | zero => simp [ldg]
  | succ n ih => simp only [ldg]; split <;> omega
theorem dX10_countLines_0 : decode prog_12_method_6_code 0 = .ok (.iconst 0, 1) := by decide +kernel
theorem dX10_countLines_1 : decode prog_12_method_6_code 1 = .ok (.istore_n 2, 1) := by decide +kernel
theorem dX10_countLines_2 : decode prog_12_method_6_code 2 = .ok (.iconst 0, 1) := by decide +kernel
theorem dX10_countLines_3 : decode prog_12_method_6_code 3 = .ok (.istore_n 3, 1) := by decide +kernel
theorem dX10_countLines_4 : decode prog_12_method_6_code 4 = .ok (.iload_n 3, 1) := by decide +kernel
theorem dX10_countLines_5 : decode prog_12_method_6_code 5 = .ok (.aload_n 0, 1) := by decide +kernel
theorem dX10_countLines_6 : decode prog_12_method_6_code 6 = .ok (.getfield 27, 3) := by decide +kernel
theorem dX10_countLines_9 : decode prog_12_method_6_code 9 = .ok (.getfield 88, 3) := by decide +kernel
theorem dX10_countLines_12 : decode prog_12_method_6_code 12 = .ok (.if_icmp .ge 26, 3) := by decide +kernel
theorem dX10_countLines_15 : decode prog_12_method_6_code 15 = .ok (.aload_n 0, 1) := by decide +kernel
theorem dX10_countLines_16 : decode prog_12_method_6_code 16 = .ok (.getfield 35, 3) := by decide +kernel
theorem dX10_countLines_19 : decode prog_12_method_6_code 19 = .ok (.iload_n 3, 1) := by decide +kernel
theorem dX10_countLines_20 : decode prog_12_method_6_code 20 = .ok (.iconst 4, 1) := by decide +kernel
theorem dX10_countLines_21 : decode prog_12_method_6_code 21 = .ok (.imul, 1) := by decide +kernel
theorem dX10_countLines_22 : decode prog_12_method_6_code 22 = .ok (.iconst 2, 1) := by decide +kernel
theorem dX10_countLines_23 : decode prog_12_method_6_code 23 = .ok (.iadd, 1) := by decide +kernel
theorem dX10_countLines_24 : decode prog_12_method_6_code 24 = .ok (.iaload, 1) := by decide +kernel
theorem dX10_countLines_25 : decode prog_12_method_6_code 25 = .ok (.iload_n 1, 1) := by decide +kernel
theorem dX10_countLines_26 : decode prog_12_method_6_code 26 = .ok (.if_icmp .ne 6, 3) := by decide +kernel
theorem dX10_countLines_29 : decode prog_12_method_6_code 29 = .ok (.iinc 2 1, 3) := by decide +kernel
theorem dX10_countLines_32 : decode prog_12_method_6_code 32 = .ok (.iinc 3 1, 3) := by decide +kernel
theorem dX10_countLines_35 : decode prog_12_method_6_code 35 = .ok (.goto (-31), 3) := by decide +kernel
theorem dX10_countLines_38 : decode prog_12_method_6_code 38 = .ok (.iload_n 2, 1) := by decide +kernel
theorem dX10_countLines_39 : decode prog_12_method_6_code 39 = .ok (.ireturn, 1) := by decide +kernel
theorem lp_X10_countLines {w : Int} (cs : CS S R) (hc : ClW I 1 A) (hb : BA A) (hw : Rg w) (hp : Post (some (.int (iI (ldg A w (A 11).toNat)))) S I R) : ∀ (m : Nat) (i c : Int), 0 ≤ i → i ≤ A 11 → (A 11 - i).toNat = m → c = ldg A w i.toNat → WP n 0 0 mX10_countLines Post 4 [(0, .ref (S.2.1 1)), (1, .int (iI w)), (2, .int (iI c)), (3, .int (iI i))] [] 0 0 S I R := by
  obtain ⟨⟨⟨c0, c7, c8, c9, c10, c11⟩, cq⟩, ⟨⟨t1, t2, t3, t4, t5, t6, t7, t8, t9⟩, tq, th, tb, ts, td⟩, cb, cp⟩ := id hc
  dsimp only [Nat.reduceAdd] at c0 c7 c8 c9 c10 c11 cq t1 t2 t3 t4 t5 t6 t7 t8 t9 tq th tb ts td
  obtain ⟨⟨b0, b1, b2, b3, b4, bq, bl⟩, ⟨d1, d2, d3, d4, d5, d6, d7⟩, dq, dh, db, ds, dd, dp⟩ := id hb
  have b7 : 0 ≤ A 7 ∧ A 7 ≤ 9999 := b1
  have b8 : 0 ≤ A 8 ∧ A 8 ≤ 30870 := b2
  have b9 : 0 ≤ A 9 ∧ A 9 ≤ 9999 := b3
  have b10 : 0 ≤ A 10 ∧ A 10 ≤ 1 := b4
  have b11 : 0 ≤ A 11 ∧ A 11 ≤ 16 := by have h1 := lns_b (fun q => A (6 + 6 + 3 * q)) (A 0).toNat; have h2 : A 11 = _ := bl; omega
  intro m
  induction m using Nat.strongRecOn with
  | ind m ih =>
    intro i c i0 i1 i2 ic
    refine x_iload_n dX10_countLines_4 rfl ?_
    refine x_aload_n dX10_countLines_5 rfl ?_
    refine x_getR (b := 6) dX10_countLines_6 gf_RX10_27 (k_ob_1 cs) (fun _ _ => rfl) (k_r_1_4 cs) ?_
    refine x_getI dX10_countLines_9 gf_RX10_88 (k_ob_6 cs) (fun _ _ => rfl) ?_
    refine x_icmp_ge 38 dX10_countLines_12 (by decide) ⟨(by omega), (by omega)⟩ (fun w12 => ?_) (fun w12 => ?_)
    · refine x_iload_n dX10_countLines_38 rfl ?_
      exact x_ireturn dX10_countLines_39 rfl (by omega) (by omega) (by rw [ic, show i = A 11 by omega]; exact hp)
    · have g1 := cb i.toNat (by omega)
      dsimp only [Nat.reduceAdd] at g1
      rw [show 4 * i.toNat + 2 = (i * 4 + 2).toNat by omega] at g1
      refine x_aload_n dX10_countLines_15 rfl ?_
      refine x_getR (b := 11) dX10_countLines_16 gf_RX10_35 (k_ob_1 cs) (fun _ _ => rfl) (k_r_1_6 cs) ?_
      refine x_iload_n dX10_countLines_19 rfl ?_
      refine x_iconst dX10_countLines_20 ?_
      refine x_imul dX10_countLines_21 ?_
      refine x_iconst dX10_countLines_22 ?_
      refine x_iadd dX10_countLines_23 ?_
      refine x_iaload dX10_countLines_24 (k_ar_11 cs) (by omega) (by omega) ?_
      refine x_iload_n dX10_countLines_25 rfl ?_
      refine x_icmp_ne 32 dX10_countLines_26 (by decide) ⟨(by omega), (by omega)⟩ (fun w26 => ?_) (fun w26 => ?_)
      · refine x_iinc (lv2 := [(3, _), (0, _), (1, _), (2, _)]) dX10_countLines_32 rfl (by decide) rfl ?_
        refine x_goto 4 dX10_countLines_35 (by decide) ?_
        refine x_sub [1, 2, 3, 0] rfl ?_
        exact ih _ (by omega) _ _ (by omega) (by omega) rfl (by rw [show (i + 1).toNat = i.toNat + 1 by omega]; simp only [ldg]; first | (rw [if_pos (by omega)]; omega) | (rw [if_neg (by omega)]; omega))
      · refine x_iinc (lv2 := [(2, _), (0, _), (1, _), (3, _)]) dX10_countLines_29 rfl (by decide) rfl ?_
        refine x_iinc (lv2 := [(3, _), (2, _), (0, _), (1, _)]) dX10_countLines_32 rfl (by decide) rfl ?_
        refine x_goto 4 dX10_countLines_35 (by decide) ?_
        refine x_sub [2, 3, 1, 0] rfl ?_
        exact ih _ (by omega) _ _ (by omega) (by omega) rfl (by rw [show (i + 1).toNat = i.toNat + 1 by omega]; simp only [ldg]; first | (rw [if_pos (by omega)]; omega) | (rw [if_neg (by omega)]; omega))
theorem sp_X10_countLines {w : Int} (cs : CS S R) (hc : ClW I 1 A) (hb : BA A) (hw : Rg w) (hp : Post (some (.int (iI (ldg A w (A 11).toNat)))) S I R) : Call n 0 0 mX10_countLines [.ref (S.2.1 1), .int (iI w)] S I R Post := by
  obtain ⟨⟨⟨c0, c7, c8, c9, c10, c11⟩, cq⟩, ⟨⟨t1, t2, t3, t4, t5, t6, t7, t8, t9⟩, tq, th, tb, ts, td⟩, cb, cp⟩ := id hc
  dsimp only [Nat.reduceAdd] at c0 c7 c8 c9 c10 c11 cq t1 t2 t3 t4 t5 t6 t7 t8 t9 tq th tb ts td
  obtain ⟨⟨b0, b1, b2, b3, b4, bq, bl⟩, ⟨d1, d2, d3, d4, d5, d6, d7⟩, dq, dh, db, ds, dd, dp⟩ := id hb
  have b7 : 0 ≤ A 7 ∧ A 7 ≤ 9999 := b1
  have b8 : 0 ≤ A 8 ∧ A 8 ≤ 30870 := b2
  have b9 : 0 ≤ A 9 ∧ A 9 ≤ 9999 := b3
  have b10 : 0 ≤ A 10 ∧ A 10 ≤ 1 := b4
  have b11 : 0 ≤ A 11 ∧ A 11 ≤ 16 := by have h1 := lns_b (fun q => A (6 + 6 + 3 * q)) (A 0).toNat; have h2 : A 11 = _ := bl; omega
  refine Call.of (by decide +kernel) (Nat.le_of_ble_eq_true rfl) ?_
  show WP _ _ _ _ _ 0 [(0, _), (1, _)] [] 0 0 _ _ _
  refine x_iconst dX10_countLines_0 ?_
  refine x_istore_n (lv2 := [(2, _), (0, _), (1, _)]) dX10_countLines_1 (by decide) rfl ?_
  refine x_iconst dX10_countLines_2 ?_
  refine x_istore_n (lv2 := [(3, _), (2, _), (0, _), (1, _)]) dX10_countLines_3 (by decide) rfl ?_
  refine x_sub [2, 3, 1, 0] rfl ?_
  exact lp_X10_countLines cs hc hb hw hp _ 0 0 (by omega) (by omega) rfl rfl
def f_ledger (A : Nat → Int) (w : Int) : Int := if 0 ≤ w ∧ w ≤ 2 then ldg A w (A 11).toNat else -2
theorem dX11_ledger_0 : decode prog_1_method_44_code 0 = .ok (.iload_n 1, 1) := by decide +kernel
theorem dX11_ledger_1 : decode prog_1_method_44_code 1 = .ok (.ifCond .lt 8, 3) := by decide +kernel
theorem dX11_ledger_4 : decode prog_1_method_44_code 4 = .ok (.iload_n 1, 1) := by decide +kernel
theorem dX11_ledger_5 : decode prog_1_method_44_code 5 = .ok (.iconst 2, 1) := by decide +kernel
theorem dX11_ledger_6 : decode prog_1_method_44_code 6 = .ok (.if_icmp .le 8, 3) := by decide +kernel
theorem dX11_ledger_9 : decode prog_1_method_44_code 9 = .ok (.bipush (-2), 2) := by decide +kernel
theorem dX11_ledger_11 : decode prog_1_method_44_code 11 = .ok (.goto 11, 3) := by decide +kernel
theorem dX11_ledger_14 : decode prog_1_method_44_code 14 = .ok (.aload_n 0, 1) := by decide +kernel
theorem dX11_ledger_15 : decode prog_1_method_44_code 15 = .ok (.getfield 10, 3) := by decide +kernel
theorem dX11_ledger_18 : decode prog_1_method_44_code 18 = .ok (.iload_n 1, 1) := by decide +kernel
theorem dX11_ledger_19 : decode prog_1_method_44_code 19 = .ok (.invokevirtual 351, 3) := by decide +kernel
theorem dX11_ledger_22 : decode prog_1_method_44_code 22 = .ok (.ireturn, 1) := by decide +kernel
theorem sp_X11_ledger {w : Int} (cs : CS S R) (hc : ClW I 1 A) (hb : BA A) (hw : Rg w) (hn : 1 ≤ n) (hp : Post (some (.int (iI (f_ledger A w)))) S I R) : Call n 0 0 mX11_ledger [.ref (S.2.1 0), .int (iI w)] S I R Post := by
  obtain ⟨⟨⟨c0, c7, c8, c9, c10, c11⟩, cq⟩, ⟨⟨t1, t2, t3, t4, t5, t6, t7, t8, t9⟩, tq, th, tb, ts, td⟩, cb, cp⟩ := id hc
  dsimp only [Nat.reduceAdd] at c0 c7 c8 c9 c10 c11 cq t1 t2 t3 t4 t5 t6 t7 t8 t9 tq th tb ts td
  obtain ⟨⟨b0, b1, b2, b3, b4, bq, bl⟩, ⟨d1, d2, d3, d4, d5, d6, d7⟩, dq, dh, db, ds, dd, dp⟩ := id hb
  have b7 : 0 ≤ A 7 ∧ A 7 ≤ 9999 := b1
  have b8 : 0 ≤ A 8 ∧ A 8 ≤ 30870 := b2
  have b9 : 0 ≤ A 9 ∧ A 9 ≤ 9999 := b3
  have b10 : 0 ≤ A 10 ∧ A 10 ≤ 1 := b4
  have b11 : 0 ≤ A 11 ∧ A 11 ≤ 16 := by have h1 := lns_b (fun q => A (6 + 6 + 3 * q)) (A 0).toNat; have h2 : A 11 = _ := bl; omega
  refine Call.of (by decide +kernel) (Nat.le_of_ble_eq_true rfl) ?_
  show WP _ _ _ _ _ 0 [(0, _), (1, _)] [] 0 0 _ _ _
  refine x_iload_n dX11_ledger_0 rfl ?_
  refine x_if_lt 9 dX11_ledger_1 (by decide) (by omega) (fun w1 => ?_) (fun w1 => ?_)
  · refine x_bipush dX11_ledger_9 (by decide) ?_
    refine x_goto 22 dX11_ledger_11 (by decide) ?_
    exact x_ireturn dX11_ledger_22 rfl (by omega) (by omega) (by first | (rw [show f_ledger A w = -2 from if_neg (by omega)] at hp; exact hp) | (rw [show f_ledger A w = ldg A w (A 11).toNat from if_pos (by omega)] at hp; exact hp))
  · refine x_iload_n dX11_ledger_4 rfl ?_
    refine x_iconst dX11_ledger_5 ?_
    refine x_icmp_le 14 dX11_ledger_6 (by decide) ⟨(by omega), (by omega)⟩ (fun w6 => ?_) (fun w6 => ?_)
    · refine x_aload_n dX11_ledger_14 rfl ?_
      refine x_getR (b := 1) dX11_ledger_15 gf_RX11_10 (k_ob_0 cs) (fun _ _ => rfl) (k_r_0_0 cs) ?_
      refine x_iload_n dX11_ledger_18 rfl ?_
      refine x_callV1 (mc1 := 0) (ms1 := 0) dX11_ledger_19 cv_RX11_351 (ci := 10) (k_ob_1 cs) rfl (Nat.le_of_ble_eq_true rfl) (n1 := n - 1) (by omega) (by omega) (by omega) ?_
      refine sp_X10_countLines cs (by assumption) (by assumption) (by omega) ?_
      exact x_ireturn dX11_ledger_22 rfl (by omega) (by omega) (by first | (rw [show f_ledger A w = -2 from if_neg (by omega)] at hp; exact hp) | (rw [show f_ledger A w = ldg A w (A 11).toNat from if_pos (by omega)] at hp; exact hp))
    · refine x_bipush dX11_ledger_9 (by decide) ?_
      refine x_goto 22 dX11_ledger_11 (by decide) ?_
      exact x_ireturn dX11_ledger_22 rfl (by omega) (by omega) (by first | (rw [show f_ledger A w = -2 from if_neg (by omega)] at hp; exact hp) | (rw [show f_ledger A w = ldg A w (A 11).toNat from if_pos (by omega)] at hp; exact hp))
def hotL (f g : Nat → Int) : Nat → Int × Int
  | 0 => (-1, -1)
  | n + 1 => if f n = 0 ∧ (hotL f g n).2 < g n then ((n : Int), g n) else hotL f g n
theorem dX11_hottest_0 : decode prog_1_method_42_code 0 = .ok (.aload_n 0, 1) := by decide +kernel
theorem dX11_hottest_1 : decode prog_1_method_42_code 1 = .ok (.getfield 10, 3) := by decide +kernel
theorem dX11_hottest_4 : decode prog_1_method_42_code 4 = .ok (.getfield 127, 3) := by decide +kernel
theorem dX11_hottest_7 : decode prog_1_method_42_code 7 = .ok (.astore_n 1, 1) := by decide +kernel
theorem dX11_hottest_8 : decode prog_1_method_42_code 8 = .ok (.iconst (-1), 1) := by decide +kernel
theorem dX11_hottest_9 : decode prog_1_method_42_code 9 = .ok (.istore_n 2, 1) := by decide +kernel
theorem dX11_hottest_10 : decode prog_1_method_42_code 10 = .ok (.iconst (-1), 1) := by decide +kernel
theorem dX11_hottest_11 : decode prog_1_method_42_code 11 = .ok (.istore_n 3, 1) := by decide +kernel
theorem dX11_hottest_12 : decode prog_1_method_42_code 12 = .ok (.iconst 0, 1) := by decide +kernel
theorem dX11_hottest_13 : decode prog_1_method_42_code 13 = .ok (.istore 4, 2) := by decide +kernel
theorem dX11_hottest_15 : decode prog_1_method_42_code 15 = .ok (.iload 4, 2) := by decide +kernel
theorem dX11_hottest_17 : decode prog_1_method_42_code 17 = .ok (.aload_n 1, 1) := by decide +kernel
theorem dX11_hottest_18 : decode prog_1_method_42_code 18 = .ok (.getfield 345, 3) := by decide +kernel
theorem dX11_hottest_21 : decode prog_1_method_42_code 21 = .ok (.if_icmp .ge 41, 3) := by decide +kernel
theorem dX11_hottest_24 : decode prog_1_method_42_code 24 = .ok (.aload_n 1, 1) := by decide +kernel
theorem dX11_hottest_25 : decode prog_1_method_42_code 25 = .ok (.getfield 181, 3) := by decide +kernel
theorem dX11_hottest_28 : decode prog_1_method_42_code 28 = .ok (.iload 4, 2) := by decide +kernel
theorem dX11_hottest_30 : decode prog_1_method_42_code 30 = .ok (.iaload, 1) := by decide +kernel
theorem dX11_hottest_31 : decode prog_1_method_42_code 31 = .ok (.ifCond .ne 25, 3) := by decide +kernel
theorem dX11_hottest_34 : decode prog_1_method_42_code 34 = .ok (.aload_n 1, 1) := by decide +kernel
theorem dX11_hottest_35 : decode prog_1_method_42_code 35 = .ok (.getfield 178, 3) := by decide +kernel
theorem dX11_hottest_38 : decode prog_1_method_42_code 38 = .ok (.iload 4, 2) := by decide +kernel
theorem dX11_hottest_40 : decode prog_1_method_42_code 40 = .ok (.iaload, 1) := by decide +kernel
theorem dX11_hottest_41 : decode prog_1_method_42_code 41 = .ok (.iload_n 3, 1) := by decide +kernel
theorem dX11_hottest_42 : decode prog_1_method_42_code 42 = .ok (.if_icmp .le 14, 3) := by decide +kernel
theorem dX11_hottest_45 : decode prog_1_method_42_code 45 = .ok (.aload_n 1, 1) := by decide +kernel
theorem dX11_hottest_46 : decode prog_1_method_42_code 46 = .ok (.getfield 178, 3) := by decide +kernel
theorem dX11_hottest_49 : decode prog_1_method_42_code 49 = .ok (.iload 4, 2) := by decide +kernel
theorem dX11_hottest_51 : decode prog_1_method_42_code 51 = .ok (.iaload, 1) := by decide +kernel
theorem dX11_hottest_52 : decode prog_1_method_42_code 52 = .ok (.istore_n 3, 1) := by decide +kernel
theorem dX11_hottest_53 : decode prog_1_method_42_code 53 = .ok (.iload 4, 2) := by decide +kernel
theorem dX11_hottest_55 : decode prog_1_method_42_code 55 = .ok (.istore_n 2, 1) := by decide +kernel
theorem dX11_hottest_56 : decode prog_1_method_42_code 56 = .ok (.iinc 4 1, 3) := by decide +kernel
theorem dX11_hottest_59 : decode prog_1_method_42_code 59 = .ok (.goto (-44), 3) := by decide +kernel
theorem dX11_hottest_62 : decode prog_1_method_42_code 62 = .ok (.iload_n 2, 1) := by decide +kernel
theorem dX11_hottest_63 : decode prog_1_method_42_code 63 = .ok (.ireturn, 1) := by decide +kernel
theorem lp_X11_hottest (cs : CS S R) (hc : ClW I 1 A) (hb : BA A) (hp : Post (some (.int (iI (hotL (I 7) (I 9) (A 0).toNat).1))) S I R) : ∀ (m : Nat) (i c t : Int), 0 ≤ i → i ≤ A 0 → (A 0 - i).toNat = m → (c, t) = hotL (I 7) (I 9) i.toNat → (-1 ≤ t ∧ t ≤ 9) → WP n 0 0 mX11_hottest Post 15 [(1, .ref (S.2.1 6)), (2, .int (iI c)), (3, .int (iI t)), (4, .int (iI i))] [] 0 0 S I R := by
  obtain ⟨⟨⟨c0, c7, c8, c9, c10, c11⟩, cq⟩, ⟨⟨t1, t2, t3, t4, t5, t6, t7, t8, t9⟩, tq, th, tb, ts, td⟩, cb, cp⟩ := id hc
  dsimp only [Nat.reduceAdd] at c0 c7 c8 c9 c10 c11 cq t1 t2 t3 t4 t5 t6 t7 t8 t9 tq th tb ts td
  obtain ⟨⟨b0, b1, b2, b3, b4, bq, bl⟩, ⟨d1, d2, d3, d4, d5, d6, d7⟩, dq, dh, db, ds, dd, dp⟩ := id hb
  have b7 : 0 ≤ A 7 ∧ A 7 ≤ 9999 := b1
  have b8 : 0 ≤ A 8 ∧ A 8 ≤ 30870 := b2
  have b9 : 0 ≤ A 9 ∧ A 9 ≤ 9999 := b3
  have b10 : 0 ≤ A 10 ∧ A 10 ≤ 1 := b4
  have b11 : 0 ≤ A 11 ∧ A 11 ≤ 16 := by have h1 := lns_b (fun q => A (6 + 6 + 3 * q)) (A 0).toNat; have h2 : A 11 = _ := bl; omega
  have hsb : SB I 6 := SB_now hc hb
  obtain ⟨-, -, -, -, -, -, sh, ss, st⟩ := hsb
  dsimp only [Nat.reduceAdd] at sh st
  intro m
  induction m using Nat.strongRecOn with
  | ind m ih =>
    intro i c t i0 i1 i2 ic it
    refine x_iload dX11_hottest_15 rfl ?_
    refine x_aload_n dX11_hottest_17 rfl ?_
    refine x_getI dX11_hottest_18 gf_RX11_345 (k_ob_6 cs) (fun _ _ => rfl) ?_
    refine x_icmp_ge 62 dX11_hottest_21 (by decide) ⟨(by omega), (by omega)⟩ (fun w21 => ?_) (fun w21 => ?_)
    · refine x_iload_n dX11_hottest_62 rfl ?_
      exact x_ireturn dX11_hottest_63 rfl (by omega) (by omega) (by rw [show i = A 0 by omega] at ic; rw [← ic] at hp; exact hp)
    · have g1 := sh i.toNat (by omega)
      have g2 := st i.toNat (by omega)
      refine x_aload_n dX11_hottest_24 rfl ?_
      refine x_getR (b := 7) dX11_hottest_25 gf_RX11_181 (k_ob_6 cs) (fun _ _ => rfl) (k_r_6_0 cs) ?_
      refine x_iload dX11_hottest_28 rfl ?_
      refine x_iaload dX11_hottest_30 (k_ar_7 cs) (by omega) (by omega) ?_
      refine x_if_ne 56 dX11_hottest_31 (by decide) (by omega) (fun w31 => ?_) (fun w31 => ?_)
      · refine x_iinc (lv2 := [(4, _), (1, _), (2, _), (3, _)]) dX11_hottest_56 rfl (by decide) rfl ?_
        refine x_goto 15 dX11_hottest_59 (by decide) ?_
        refine x_sub [1, 2, 3, 0] rfl ?_
        exact ih _ (by omega) _ _ _ (by omega) (by omega) rfl (by rw [show (i + 1).toNat = i.toNat + 1 by omega]; simp only [hotL]; first | (rw [if_pos ⟨by omega, by rw [← ic]; show t < _; omega⟩, show ((i.toNat : Nat) : Int) = i by omega]) | (rw [if_neg (fun z => by have z2 := z.2; rw [← ic] at z2; have z3 : t < _ := z2; omega)]; exact ic)) (by omega)
      · refine x_aload_n dX11_hottest_34 rfl ?_
        refine x_getR (b := 9) dX11_hottest_35 gf_RX11_178 (k_ob_6 cs) (fun _ _ => rfl) (k_r_6_2 cs) ?_
        refine x_iload dX11_hottest_38 rfl ?_
        refine x_iaload dX11_hottest_40 (k_ar_9 cs) (by omega) (by omega) ?_
        refine x_iload_n dX11_hottest_41 rfl ?_
        refine x_icmp_le 56 dX11_hottest_42 (by decide) ⟨(by omega), (by omega)⟩ (fun w42 => ?_) (fun w42 => ?_)
        · refine x_iinc (lv2 := [(4, _), (1, _), (2, _), (3, _)]) dX11_hottest_56 rfl (by decide) rfl ?_
          refine x_goto 15 dX11_hottest_59 (by decide) ?_
          refine x_sub [1, 2, 3, 0] rfl ?_
          exact ih _ (by omega) _ _ _ (by omega) (by omega) rfl (by rw [show (i + 1).toNat = i.toNat + 1 by omega]; simp only [hotL]; first | (rw [if_pos ⟨by omega, by rw [← ic]; show t < _; omega⟩, show ((i.toNat : Nat) : Int) = i by omega]) | (rw [if_neg (fun z => by have z2 := z.2; rw [← ic] at z2; have z3 : t < _ := z2; omega)]; exact ic)) (by omega)
        · refine x_aload_n dX11_hottest_45 rfl ?_
          refine x_getR (b := 9) dX11_hottest_46 gf_RX11_178 (k_ob_6 cs) (fun _ _ => rfl) (k_r_6_2 cs) ?_
          refine x_iload dX11_hottest_49 rfl ?_
          refine x_iaload dX11_hottest_51 (k_ar_9 cs) (by omega) (by omega) ?_
          refine x_istore_n (lv2 := [(3, _), (1, _), (2, _), (4, _)]) dX11_hottest_52 (by decide) rfl ?_
          refine x_iload dX11_hottest_53 rfl ?_
          refine x_istore_n (lv2 := [(2, _), (3, _), (1, _), (4, _)]) dX11_hottest_55 (by decide) rfl ?_
          refine x_iinc (lv2 := [(4, _), (2, _), (3, _), (1, _)]) dX11_hottest_56 rfl (by decide) rfl ?_
          refine x_goto 15 dX11_hottest_59 (by decide) ?_
          refine x_sub [3, 1, 2, 0] rfl ?_
          exact ih _ (by omega) _ _ _ (by omega) (by omega) rfl (by rw [show (i + 1).toNat = i.toNat + 1 by omega]; simp only [hotL]; first | (rw [if_pos ⟨by omega, by rw [← ic]; show t < _; omega⟩, show ((i.toNat : Nat) : Int) = i by omega]) | (rw [if_neg (fun z => by have z2 := z.2; rw [← ic] at z2; have z3 : t < _ := z2; omega)]; exact ic)) (by omega)
theorem sp_X11_hottest  (cs : CS S R) (hc : ClW I 1 A) (hb : BA A) (hp : Post (some (.int (iI (hotL (I 7) (I 9) (A 0).toNat).1))) S I R) : Call n 0 0 mX11_hottest [.ref (S.2.1 0)] S I R Post := by
  obtain ⟨⟨⟨c0, c7, c8, c9, c10, c11⟩, cq⟩, ⟨⟨t1, t2, t3, t4, t5, t6, t7, t8, t9⟩, tq, th, tb, ts, td⟩, cb, cp⟩ := id hc
  dsimp only [Nat.reduceAdd] at c0 c7 c8 c9 c10 c11 cq t1 t2 t3 t4 t5 t6 t7 t8 t9 tq th tb ts td
  obtain ⟨⟨b0, b1, b2, b3, b4, bq, bl⟩, ⟨d1, d2, d3, d4, d5, d6, d7⟩, dq, dh, db, ds, dd, dp⟩ := id hb
  have b7 : 0 ≤ A 7 ∧ A 7 ≤ 9999 := b1
  have b8 : 0 ≤ A 8 ∧ A 8 ≤ 30870 := b2
  have b9 : 0 ≤ A 9 ∧ A 9 ≤ 9999 := b3
  have b10 : 0 ≤ A 10 ∧ A 10 ≤ 1 := b4
  have b11 : 0 ≤ A 11 ∧ A 11 ≤ 16 := by have h1 := lns_b (fun q => A (6 + 6 + 3 * q)) (A 0).toNat; have h2 : A 11 = _ := bl; omega
  refine Call.of (by decide +kernel) (Nat.le_of_ble_eq_true rfl) ?_
  show WP _ _ _ _ _ 0 [(0, _)] [] 0 0 _ _ _
  refine x_aload_n dX11_hottest_0 rfl ?_
  refine x_getR (b := 1) dX11_hottest_1 gf_RX11_10 (k_ob_0 cs) (fun _ _ => rfl) (k_r_0_0 cs) ?_
  refine x_getR (b := 6) dX11_hottest_4 gf_RX11_127 (k_ob_1 cs) (fun _ _ => rfl) (k_r_1_4 cs) ?_
  refine x_astore_n (lv2 := [(1, _), (0, _)]) dX11_hottest_7 (by decide) rfl ?_
  refine x_iconst dX11_hottest_8 ?_
  refine x_istore_n (lv2 := [(2, _), (1, _), (0, _)]) dX11_hottest_9 (by decide) rfl ?_
  refine x_iconst dX11_hottest_10 ?_
  refine x_istore_n (lv2 := [(3, _), (2, _), (1, _), (0, _)]) dX11_hottest_11 (by decide) rfl ?_
  refine x_iconst dX11_hottest_12 ?_
  refine x_istore (lv2 := [(4, _), (3, _), (2, _), (1, _), (0, _)]) dX11_hottest_13 (by decide) rfl ?_
  refine x_sub [3, 2, 1, 0] rfl ?_
  exact lp_X11_hottest cs hc hb hp _ 0 _ _ (by omega) (by omega) rfl rfl (by omega)
end Cls2
