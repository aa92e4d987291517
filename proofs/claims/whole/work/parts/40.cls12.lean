section Cls12
variable {n : Nat} {Post : PT} {S : Sh} {I : CI} {R : CR} {A : Nat → Int} {tx : Nat → Nat → Int}
def Ff (I I' : CI) : Prop := ∀ c, (c = 0 ∨ 140 ≤ c) → c ≠ 280 → c ≠ 281 → (c < 283 ∨ 286 < c) → I' c = I c
theorem foL_ok (h : BA A) : ∀ k, BA (foL A tx k) → NOn A (foL A tx k) → BA (foL A tx (k + 1)) → NOn A (foL A tx (k + 1)) := by
  intro k hb hN _
  show NOn A (if foL A tx k 7 < 9999 then (passA (foL A tx k) tx).1 else foL A tx k)
  split
  · exact hN.tr (NOn_pass hb)
  · exact hN
theorem dX0_foretell_0 : decode prog_2_method_9_code 0 = .ok (.aload_n 0, 1) := by decide +kernel
theorem dX0_foretell_1 : decode prog_2_method_9_code 1 = .ok (.getfield 18, 3) := by decide +kernel
theorem dX0_foretell_4 : decode prog_2_method_9_code 4 = .ok (.getfield 26, 3) := by decide +kernel
theorem dX0_foretell_7 : decode prog_2_method_9_code 7 = .ok (.astore 4, 2) := by decide +kernel
theorem dX0_foretell_9 : decode prog_2_method_9_code 9 = .ok (.aload_n 0, 1) := by decide +kernel
theorem dX0_foretell_10 : decode prog_2_method_9_code 10 = .ok (.getfield 12, 3) := by decide +kernel
theorem dX0_foretell_13 : decode prog_2_method_9_code 13 = .ok (.aload 4, 2) := by decide +kernel
theorem dX0_foretell_15 : decode prog_2_method_9_code 15 = .ok (.invokevirtual 100, 3) := by decide +kernel
theorem dX0_foretell_18 : decode prog_2_method_9_code 18 = .ok (.iconst 0, 1) := by decide +kernel
theorem dX0_foretell_19 : decode prog_2_method_9_code 19 = .ok (.istore 5, 2) := by decide +kernel
theorem dX0_foretell_21 : decode prog_2_method_9_code 21 = .ok (.iload 5, 2) := by decide +kernel
theorem dX0_foretell_23 : decode prog_2_method_9_code 23 = .ok (.iload_n 1, 1) := by decide +kernel
theorem dX0_foretell_24 : decode prog_2_method_9_code 24 = .ok (.if_icmp .ge 25, 3) := by decide +kernel
theorem dX0_foretell_27 : decode prog_2_method_9_code 27 = .ok (.aload 4, 2) := by decide +kernel
theorem dX0_foretell_29 : decode prog_2_method_9_code 29 = .ok (.getfield 84, 3) := by decide +kernel
theorem dX0_foretell_32 : decode prog_2_method_9_code 32 = .ok (.sipush 9999, 3) := by decide +kernel
theorem dX0_foretell_35 : decode prog_2_method_9_code 35 = .ok (.if_icmp .ge 14, 3) := by decide +kernel
theorem dX0_foretell_38 : decode prog_2_method_9_code 38 = .ok (.aload_n 0, 1) := by decide +kernel
theorem dX0_foretell_39 : decode prog_2_method_9_code 39 = .ok (.invokevirtual 58, 3) := by decide +kernel
theorem dX0_foretell_42 : decode prog_2_method_9_code 42 = .ok (.pop, 1) := by decide +kernel
theorem dX0_foretell_43 : decode prog_2_method_9_code 43 = .ok (.iinc 5 1, 3) := by decide +kernel
theorem dX0_foretell_46 : decode prog_2_method_9_code 46 = .ok (.goto (-25), 3) := by decide +kernel
theorem dX0_foretell_49 : decode prog_2_method_9_code 49 = .ok (.iload_n 3, 1) := by decide +kernel
theorem dX0_foretell_50 : decode prog_2_method_9_code 50 = .ok (.ifCond .ne 13, 3) := by decide +kernel
theorem dX0_foretell_53 : decode prog_2_method_9_code 53 = .ok (.aload 4, 2) := by decide +kernel
theorem dX0_foretell_55 : decode prog_2_method_9_code 55 = .ok (.getfield 96, 3) := by decide +kernel
theorem dX0_foretell_58 : decode prog_2_method_9_code 58 = .ok (.iload_n 2, 1) := by decide +kernel
theorem dX0_foretell_59 : decode prog_2_method_9_code 59 = .ok (.iaload, 1) := by decide +kernel
theorem dX0_foretell_60 : decode prog_2_method_9_code 60 = .ok (.goto 26, 3) := by decide +kernel
theorem dX0_foretell_63 : decode prog_2_method_9_code 63 = .ok (.iload_n 3, 1) := by decide +kernel
theorem dX0_foretell_64 : decode prog_2_method_9_code 64 = .ok (.iconst 1, 1) := by decide +kernel
theorem dX0_foretell_65 : decode prog_2_method_9_code 65 = .ok (.if_icmp .ne 13, 3) := by decide +kernel
theorem dX0_foretell_68 : decode prog_2_method_9_code 68 = .ok (.aload 4, 2) := by decide +kernel
theorem dX0_foretell_70 : decode prog_2_method_9_code 70 = .ok (.getfield 104, 3) := by decide +kernel
theorem dX0_foretell_73 : decode prog_2_method_9_code 73 = .ok (.iload_n 2, 1) := by decide +kernel
theorem dX0_foretell_74 : decode prog_2_method_9_code 74 = .ok (.iaload, 1) := by decide +kernel
theorem dX0_foretell_75 : decode prog_2_method_9_code 75 = .ok (.goto 11, 3) := by decide +kernel
theorem dX0_foretell_78 : decode prog_2_method_9_code 78 = .ok (.aload_n 0, 1) := by decide +kernel
theorem dX0_foretell_79 : decode prog_2_method_9_code 79 = .ok (.getfield 22, 3) := by decide +kernel
theorem dX0_foretell_82 : decode prog_2_method_9_code 82 = .ok (.iload_n 2, 1) := by decide +kernel
theorem dX0_foretell_83 : decode prog_2_method_9_code 83 = .ok (.invokevirtual 107, 3) := by decide +kernel
theorem dX0_foretell_86 : decode prog_2_method_9_code 86 = .ok (.istore 5, 2) := by decide +kernel
theorem dX0_foretell_88 : decode prog_2_method_9_code 88 = .ok (.aload 4, 2) := by decide +kernel
theorem dX0_foretell_90 : decode prog_2_method_9_code 90 = .ok (.aload_n 0, 1) := by decide +kernel
theorem dX0_foretell_91 : decode prog_2_method_9_code 91 = .ok (.getfield 12, 3) := by decide +kernel
theorem dX0_foretell_94 : decode prog_2_method_9_code 94 = .ok (.invokevirtual 100, 3) := by decide +kernel
theorem dX0_foretell_97 : decode prog_2_method_9_code 97 = .ok (.iload 5, 2) := by decide +kernel
theorem dX0_foretell_99 : decode prog_2_method_9_code 99 = .ok (.ireturn, 1) := by decide +kernel
theorem lp_X0_foretell {m q w : Int} (cs : CS S R) (hv0 : CIv S R I A tx) (hm : 1 ≤ m ∧ m ≤ 60) (hq : 0 ≤ q ∧ q < A 0) (hw2 : 0 ≤ w ∧ w ≤ 2) (hn : 5 ≤ n) (hp : ∀ I', CIv S R I' A tx → Ff I I' → Post (some (.int (iI (f_fore (foL A tx m.toNat) tx q.toNat w)))) S I' R) : ∀ (d k : Nat) (J : CI), k ≤ m.toNat → m.toNat - k = d → CIv S R J (foL A tx k) tx → NOn A (foL A tx k) → (∀ c, (c = 0 ∨ 140 ≤ c) → c ≠ 280 → c ≠ 281 → J c = stCp I 283 6 c) → WP n 0 0 mX0_foretell Post 21 [(0, .ref (S.2.1 282)), (1, .int (iI m)), (2, .int (iI q)), (3, .int (iI w)), (4, .ref (S.2.1 6)), (5, .int (iI (k : Int)))] [] 0 0 S J R := by
  intro d
  induction d using Nat.strongRecOn with
  | ind d ih =>
    intro k J k1 k2 hv hN hF
    generalize hB : foL A tx k = B at *
    obtain ⟨hc, hb, hw, hk⟩ := id hv
    obtain ⟨⟨⟨c0, c7, c8, c9, c10, c11⟩, cq⟩, ⟨⟨t1, t2, t3, t4, t5, t6, t7, t8, t9⟩, tq, th, tb, ts, td⟩, cb, cp⟩ := id hc
    dsimp only [Nat.reduceAdd] at c0 c7 c8 c9 c10 c11 cq t1 t2 t3 t4 t5 t6 t7 t8 t9 tq th tb ts td
    obtain ⟨⟨b0, b1, b2, b3, b4, bq, bl⟩, ⟨d1, d2, d3, d4, d5, d6, d7⟩, dq, dh, db, ds, dd, dp⟩ := id hb
    have b7 : 0 ≤ B 7 ∧ B 7 ≤ 9999 := b1
    have b8 : 0 ≤ B 8 ∧ B 8 ≤ 30870 := b2
    have b9 : 0 ≤ B 9 ∧ B 9 ≤ 9999 := b3
    have b10 : 0 ≤ B 10 ∧ B 10 ≤ 1 := b4
    have b11 : 0 ≤ B 11 ∧ B 11 ≤ 16 := by have h1 := lns_b (fun q => B (6 + 6 + 3 * q)) (B 0).toNat; have h2 : B 11 = _ := bl; omega
    have e0 := hN.1 0 (by omega)
    have n2 := hN.1 2 (by omega)
    have wq := cq q.toNat (by omega)
    have wb := bq q.toNat (by omega)
    have fin : k = m.toNat ∨ ¬ B 7 < 9999 → foL A tx m.toNat = B := fun h => by
      rcases h with h | h
      · rw [← h]; exact hB
      · have := foL_stop (A := A) (tx := tx) (k := k) (by rw [hB]; exact h) (m.toNat - k)
        rw [show k + (m.toNat - k) = m.toNat by omega, hB] at this
        exact this
    have done : ∀ (K : CI) (v : Int), ClW K 1 B → SK K → (∀ c, (c = 0 ∨ 140 ≤ c) → c ≠ 280 → c ≠ 281 → K c = J c) → (k = m.toNat ∨ ¬ B 7 < 9999) → v = f_fore B tx q.toNat w → Post (some (.int (iI v))) S (stCp K 6 283) R := by
      intro K v hK hS hKJ hfin hv2
      have hKI : ∀ c, (c = 0 ∨ 140 ≤ c) → c ≠ 280 → c ≠ 281 → K c = stCp I 283 6 c := fun c h1 h2 h3 => (hKJ c h1 h2 h3).trans (hF c h1 h2 h3)
      rw [fin hfin] at hp
      rw [hv2]
      refine hp _ ⟨ClW_back (by have := hv0.2.1.2.1.2.2.1; omega) hv0.1 hK hN (fun i h1 h2 => ?_) (fun z i h1 h2 h3 => ?_), hv0.2.1, WTx_fr (fun c h => ?_) hv0.2.2.1, ?_⟩ (fun c h1 h2 h3 h4 => ?_)
      · rw [hKI 283 (by omega) (by omega) (by omega)]; exact stCp_h ⟨h1, h2⟩
      · rw [hKI (283 + z) (by omega) (by omega) (by omega)]; exact stCp_r ⟨h1, h2⟩ h3
      · rw [stCp_row (by omega), hKI c (by omega) (by omega) (by omega), stCp_row (by omega)]
      · unfold SK; rw [stCp_row (by omega)]; exact hS
      · rw [stCp_row (by omega), hKI c h1 h2 h3, stCp_row (by omega)]
    refine x_iload dX0_foretell_21 rfl ?_
    refine x_iload_n dX0_foretell_23 rfl ?_
    refine x_icmp_ge 49 dX0_foretell_24 (by decide) ⟨(by omega), (by omega)⟩ (fun w24 => ?_) (fun w24 => ?_)
    · refine x_iload_n dX0_foretell_49 rfl ?_
      refine x_if_ne 63 dX0_foretell_50 (by decide) (by omega) (fun w50 => ?_) (fun w50 => ?_)
      · refine x_iload_n dX0_foretell_63 rfl ?_
        refine x_iconst dX0_foretell_64 ?_
        refine x_icmp_ne 78 dX0_foretell_65 (by decide) ⟨(by omega), (by omega)⟩ (fun w65 => ?_) (fun w65 => ?_)
        · refine x_aload_n dX0_foretell_78 rfl ?_
          refine x_getR (b := 279) dX0_foretell_79 gf_RX0_22 (k_ob_282 cs) (fun _ _ => rfl) (k_r_282_1 cs) ?_
          refine x_iload_n dX0_foretell_82 rfl ?_
          refine x_callV1 (mc1 := 0) (ms1 := 0) dX0_foretell_83 cv_RX0_107 (ci := 3) (k_ob_279 cs) rfl (Nat.le_of_ble_eq_true rfl) (n1 := n - 1) (by omega) (by omega) (by omega) ?_
          refine sp_X3_dues cs hc hb hw hk (by omega) (by omega) (fun I83 hF83 hS83 => ?_)
          refine x_istore (lv2 := [(5, _), (0, _), (1, _), (2, _), (3, _), (4, _)]) dX0_foretell_86 (by decide) rfl ?_
          refine x_aload dX0_foretell_88 rfl ?_
          refine x_aload_n dX0_foretell_90 rfl ?_
          refine x_getR (b := 283) dX0_foretell_91 gf_RX0_12 (k_ob_282 cs) (fun _ _ => rfl) (k_r_282_2 cs) ?_
          refine x_callV1 (mc1 := 0) (ms1 := 0) dX0_foretell_94 cv_RX0_100 (ci := 6) (k_ob_6 cs) rfl (Nat.le_of_ble_eq_true rfl) (n1 := n - 1) (by omega) (by omega) (by omega) ?_
          refine sp_X6_take (k_st_6 cs) (k_st_283 cs) (by omega) (by omega) ?_
          refine x_iload dX0_foretell_97 rfl ?_
          exact x_ireturn dX0_foretell_99 rfl (by omega) (by omega) (by first | exact done _ _ hc hk (fun _ _ _ _ => rfl) (by omega) (by unfold f_fore; first | rw [if_pos (by omega)] | rw [if_neg (by omega), if_pos (by omega)]) | exact done _ _ (hF83.W hc) hS83 (fun c _ h2 h3 => hF83 c h2 h3) (by omega) (by unfold f_fore; rw [if_neg (by omega), if_neg (by omega)]))
        · refine x_aload dX0_foretell_68 rfl ?_
          refine x_getR (b := 9) dX0_foretell_70 gf_RX0_104 (k_ob_6 cs) (fun _ _ => rfl) (k_r_6_2 cs) ?_
          refine x_iload_n dX0_foretell_73 rfl ?_
          refine x_iaload dX0_foretell_74 (k_ar_9 cs) (by omega) (by omega) ?_
          rw [← wq.2.2]
          refine x_goto 86 dX0_foretell_75 (by decide) ?_
          refine x_istore (lv2 := [(5, _), (0, _), (1, _), (2, _), (3, _), (4, _)]) dX0_foretell_86 (by decide) rfl ?_
          refine x_aload dX0_foretell_88 rfl ?_
          refine x_aload_n dX0_foretell_90 rfl ?_
          refine x_getR (b := 283) dX0_foretell_91 gf_RX0_12 (k_ob_282 cs) (fun _ _ => rfl) (k_r_282_2 cs) ?_
          refine x_callV1 (mc1 := 0) (ms1 := 0) dX0_foretell_94 cv_RX0_100 (ci := 6) (k_ob_6 cs) rfl (Nat.le_of_ble_eq_true rfl) (n1 := n - 1) (by omega) (by omega) (by omega) ?_
          refine sp_X6_take (k_st_6 cs) (k_st_283 cs) (by omega) (by omega) ?_
          refine x_iload dX0_foretell_97 rfl ?_
          exact x_ireturn dX0_foretell_99 rfl (by omega) (by omega) (by first | exact done _ _ hc hk (fun _ _ _ _ => rfl) (by omega) (by unfold f_fore; first | rw [if_pos (by omega)] | rw [if_neg (by omega), if_pos (by omega)]) | exact done _ _ (hF83.W hc) hS83 (fun c _ h2 h3 => hF83 c h2 h3) (by omega) (by unfold f_fore; rw [if_neg (by omega), if_neg (by omega)]))
      · refine x_aload dX0_foretell_53 rfl ?_
        refine x_getR (b := 7) dX0_foretell_55 gf_RX0_96 (k_ob_6 cs) (fun _ _ => rfl) (k_r_6_0 cs) ?_
        refine x_iload_n dX0_foretell_58 rfl ?_
        refine x_iaload dX0_foretell_59 (k_ar_7 cs) (by omega) (by omega) ?_
        rw [← wq.1]
        refine x_goto 86 dX0_foretell_60 (by decide) ?_
        refine x_istore (lv2 := [(5, _), (0, _), (1, _), (2, _), (3, _), (4, _)]) dX0_foretell_86 (by decide) rfl ?_
        refine x_aload dX0_foretell_88 rfl ?_
        refine x_aload_n dX0_foretell_90 rfl ?_
        refine x_getR (b := 283) dX0_foretell_91 gf_RX0_12 (k_ob_282 cs) (fun _ _ => rfl) (k_r_282_2 cs) ?_
        refine x_callV1 (mc1 := 0) (ms1 := 0) dX0_foretell_94 cv_RX0_100 (ci := 6) (k_ob_6 cs) rfl (Nat.le_of_ble_eq_true rfl) (n1 := n - 1) (by omega) (by omega) (by omega) ?_
        refine sp_X6_take (k_st_6 cs) (k_st_283 cs) (by omega) (by omega) ?_
        refine x_iload dX0_foretell_97 rfl ?_
        exact x_ireturn dX0_foretell_99 rfl (by omega) (by omega) (by first | exact done _ _ hc hk (fun _ _ _ _ => rfl) (by omega) (by unfold f_fore; first | rw [if_pos (by omega)] | rw [if_neg (by omega), if_pos (by omega)]) | exact done _ _ (hF83.W hc) hS83 (fun c _ h2 h3 => hF83 c h2 h3) (by omega) (by unfold f_fore; rw [if_neg (by omega), if_neg (by omega)]))
    · refine x_aload dX0_foretell_27 rfl ?_
      refine x_getI dX0_foretell_29 gf_RX0_84 (k_ob_6 cs) (fun _ _ => rfl) ?_
      refine x_sipush dX0_foretell_32 (by decide) ?_
      refine x_icmp_ge 49 dX0_foretell_35 (by decide) ⟨(by omega), (by omega)⟩ (fun w35 => ?_) (fun w35 => ?_)
      · refine x_iload_n dX0_foretell_49 rfl ?_
        refine x_if_ne 63 dX0_foretell_50 (by decide) (by omega) (fun w50 => ?_) (fun w50 => ?_)
        · refine x_iload_n dX0_foretell_63 rfl ?_
          refine x_iconst dX0_foretell_64 ?_
          refine x_icmp_ne 78 dX0_foretell_65 (by decide) ⟨(by omega), (by omega)⟩ (fun w65 => ?_) (fun w65 => ?_)
          · refine x_aload_n dX0_foretell_78 rfl ?_
            refine x_getR (b := 279) dX0_foretell_79 gf_RX0_22 (k_ob_282 cs) (fun _ _ => rfl) (k_r_282_1 cs) ?_
            refine x_iload_n dX0_foretell_82 rfl ?_
            refine x_callV1 (mc1 := 0) (ms1 := 0) dX0_foretell_83 cv_RX0_107 (ci := 3) (k_ob_279 cs) rfl (Nat.le_of_ble_eq_true rfl) (n1 := n - 1) (by omega) (by omega) (by omega) ?_
            refine sp_X3_dues cs hc hb hw hk (by omega) (by omega) (fun I83 hF83 hS83 => ?_)
            refine x_istore (lv2 := [(5, _), (0, _), (1, _), (2, _), (3, _), (4, _)]) dX0_foretell_86 (by decide) rfl ?_
            refine x_aload dX0_foretell_88 rfl ?_
            refine x_aload_n dX0_foretell_90 rfl ?_
            refine x_getR (b := 283) dX0_foretell_91 gf_RX0_12 (k_ob_282 cs) (fun _ _ => rfl) (k_r_282_2 cs) ?_
            refine x_callV1 (mc1 := 0) (ms1 := 0) dX0_foretell_94 cv_RX0_100 (ci := 6) (k_ob_6 cs) rfl (Nat.le_of_ble_eq_true rfl) (n1 := n - 1) (by omega) (by omega) (by omega) ?_
            refine sp_X6_take (k_st_6 cs) (k_st_283 cs) (by omega) (by omega) ?_
            refine x_iload dX0_foretell_97 rfl ?_
            exact x_ireturn dX0_foretell_99 rfl (by omega) (by omega) (by first | exact done _ _ hc hk (fun _ _ _ _ => rfl) (by omega) (by unfold f_fore; first | rw [if_pos (by omega)] | rw [if_neg (by omega), if_pos (by omega)]) | exact done _ _ (hF83.W hc) hS83 (fun c _ h2 h3 => hF83 c h2 h3) (by omega) (by unfold f_fore; rw [if_neg (by omega), if_neg (by omega)]))
          · refine x_aload dX0_foretell_68 rfl ?_
            refine x_getR (b := 9) dX0_foretell_70 gf_RX0_104 (k_ob_6 cs) (fun _ _ => rfl) (k_r_6_2 cs) ?_
            refine x_iload_n dX0_foretell_73 rfl ?_
            refine x_iaload dX0_foretell_74 (k_ar_9 cs) (by omega) (by omega) ?_
            rw [← wq.2.2]
            refine x_goto 86 dX0_foretell_75 (by decide) ?_
            refine x_istore (lv2 := [(5, _), (0, _), (1, _), (2, _), (3, _), (4, _)]) dX0_foretell_86 (by decide) rfl ?_
            refine x_aload dX0_foretell_88 rfl ?_
            refine x_aload_n dX0_foretell_90 rfl ?_
            refine x_getR (b := 283) dX0_foretell_91 gf_RX0_12 (k_ob_282 cs) (fun _ _ => rfl) (k_r_282_2 cs) ?_
            refine x_callV1 (mc1 := 0) (ms1 := 0) dX0_foretell_94 cv_RX0_100 (ci := 6) (k_ob_6 cs) rfl (Nat.le_of_ble_eq_true rfl) (n1 := n - 1) (by omega) (by omega) (by omega) ?_
            refine sp_X6_take (k_st_6 cs) (k_st_283 cs) (by omega) (by omega) ?_
            refine x_iload dX0_foretell_97 rfl ?_
            exact x_ireturn dX0_foretell_99 rfl (by omega) (by omega) (by first | exact done _ _ hc hk (fun _ _ _ _ => rfl) (by omega) (by unfold f_fore; first | rw [if_pos (by omega)] | rw [if_neg (by omega), if_pos (by omega)]) | exact done _ _ (hF83.W hc) hS83 (fun c _ h2 h3 => hF83 c h2 h3) (by omega) (by unfold f_fore; rw [if_neg (by omega), if_neg (by omega)]))
        · refine x_aload dX0_foretell_53 rfl ?_
          refine x_getR (b := 7) dX0_foretell_55 gf_RX0_96 (k_ob_6 cs) (fun _ _ => rfl) (k_r_6_0 cs) ?_
          refine x_iload_n dX0_foretell_58 rfl ?_
          refine x_iaload dX0_foretell_59 (k_ar_7 cs) (by omega) (by omega) ?_
          rw [← wq.1]
          refine x_goto 86 dX0_foretell_60 (by decide) ?_
          refine x_istore (lv2 := [(5, _), (0, _), (1, _), (2, _), (3, _), (4, _)]) dX0_foretell_86 (by decide) rfl ?_
          refine x_aload dX0_foretell_88 rfl ?_
          refine x_aload_n dX0_foretell_90 rfl ?_
          refine x_getR (b := 283) dX0_foretell_91 gf_RX0_12 (k_ob_282 cs) (fun _ _ => rfl) (k_r_282_2 cs) ?_
          refine x_callV1 (mc1 := 0) (ms1 := 0) dX0_foretell_94 cv_RX0_100 (ci := 6) (k_ob_6 cs) rfl (Nat.le_of_ble_eq_true rfl) (n1 := n - 1) (by omega) (by omega) (by omega) ?_
          refine sp_X6_take (k_st_6 cs) (k_st_283 cs) (by omega) (by omega) ?_
          refine x_iload dX0_foretell_97 rfl ?_
          exact x_ireturn dX0_foretell_99 rfl (by omega) (by omega) (by first | exact done _ _ hc hk (fun _ _ _ _ => rfl) (by omega) (by unfold f_fore; first | rw [if_pos (by omega)] | rw [if_neg (by omega), if_pos (by omega)]) | exact done _ _ (hF83.W hc) hS83 (fun c _ h2 h3 => hF83 c h2 h3) (by omega) (by unfold f_fore; rw [if_neg (by omega), if_neg (by omega)]))
      · refine x_aload_n dX0_foretell_38 rfl ?_
        refine x_callV0 (mc1 := 0) (ms1 := 0) dX0_foretell_39 cv_RX0_58 (ci := 0) (k_ob_282 cs) rfl (Nat.le_of_ble_eq_true rfl) (n1 := n - 1) (by omega) (by omega) (by omega) ?_
        refine sp_X0_passDay cs hv (by omega) (by omega) (fun I39 hv39 hF39 => ?_)
        refine x_pop dX0_foretell_42 rfl ?_
        refine x_iinc (lv2 := [(5, _), (0, _), (1, _), (2, _), (3, _), (4, _)]) dX0_foretell_43 rfl (by decide) rfl ?_
        refine x_goto 21 dX0_foretell_46 (by decide) ?_
        refine x_sub [1, 2, 3, 4, 5, 0] rfl ?_
        have e1 : foL A tx (k + 1) = (passA B tx).1 := by show (if foL A tx k 7 < 9999 then (passA (foL A tx k) tx).1 else foL A tx k) = _; rw [hB, if_pos (by omega)]
        rw [← e1] at hv39
        refine ih _ (by omega) (k + 1) I39 (by omega) rfl hv39 (by rw [e1]; exact hN.tr (NOn_pass hb)) (fun c h1 h2 h3 => (hF39 c h1 h2 h3).trans (hF c h1 h2 h3))
theorem sp_X0_foretell {m q w : Int} (cs : CS S R) (hv0 : CIv S R I A tx) (hm : 1 ≤ m ∧ m ≤ 60) (hq : 0 ≤ q ∧ q < A 0) (hw2 : 0 ≤ w ∧ w ≤ 2) (hn : 5 ≤ n) (hp : ∀ I', CIv S R I' A tx → Ff I I' → Post (some (.int (iI (f_fore (foL A tx m.toNat) tx q.toNat w)))) S I' R) : Call n 0 0 mX0_foretell [.ref (S.2.1 282), .int (iI m), .int (iI q), .int (iI w)] S I R Post := by
  refine Call.of (by decide +kernel) (Nat.le_of_ble_eq_true rfl) ?_
  show WP _ _ _ _ _ 0 [(0, _), (1, _), (2, _), (3, _)] [] 0 0 _ _ _
  refine x_aload_n dX0_foretell_0 rfl ?_
  refine x_getR (b := 1) dX0_foretell_1 gf_RX0_18 (k_ob_282 cs) (fun _ _ => rfl) (k_r_282_0 cs) ?_
  refine x_getR (b := 6) dX0_foretell_4 gf_RX0_26 (k_ob_1 cs) (fun _ _ => rfl) (k_r_1_4 cs) ?_
  refine x_astore (lv2 := [(4, _), (0, _), (1, _), (2, _), (3, _)]) dX0_foretell_7 (by decide) rfl ?_
  refine x_aload_n dX0_foretell_9 rfl ?_
  refine x_getR (b := 283) dX0_foretell_10 gf_RX0_12 (k_ob_282 cs) (fun _ _ => rfl) (k_r_282_2 cs) ?_
  refine x_aload dX0_foretell_13 rfl ?_
  refine x_callV1 (mc1 := 0) (ms1 := 0) dX0_foretell_15 cv_RX0_100 (ci := 6) (k_ob_283 cs) rfl (Nat.le_of_ble_eq_true rfl) (n1 := n - 1) (by omega) (by omega) (by omega) ?_
  refine sp_X6_take (k_st_283 cs) (k_st_6 cs) (by omega) (by omega) ?_
  refine x_iconst dX0_foretell_18 ?_
  refine x_istore (lv2 := [(5, _), (4, _), (0, _), (1, _), (2, _), (3, _)]) dX0_foretell_19 (by decide) rfl ?_
  refine x_sub [2, 3, 4, 5, 1, 0] rfl ?_
  exact lp_X0_foretell cs hv0 hm hq hw2 hn hp _ 0 _ (by omega) rfl ⟨ClW_fr (fun c h1 h2 => stCp_row (by omega)) hv0.1, hv0.2.1, WTx_fr (fun c h => stCp_row (by omega)) hv0.2.2.1, by unfold SK; rw [stCp_row (by omega)]; exact hv0.2.2.2⟩ NOn.rf (fun _ _ _ _ => rfl)
theorem dX11_foretold_0 : decode prog_1_method_18_code 0 = .ok (.iload_n 1, 1) := by decide +kernel
theorem dX11_foretold_1 : decode prog_1_method_18_code 1 = .ok (.iconst 1, 1) := by decide +kernel
theorem dX11_foretold_2 : decode prog_1_method_18_code 2 = .ok (.if_icmp .lt 32, 3) := by decide +kernel
theorem dX11_foretold_5 : decode prog_1_method_18_code 5 = .ok (.iload_n 1, 1) := by decide +kernel
theorem dX11_foretold_6 : decode prog_1_method_18_code 6 = .ok (.bipush 60, 2) := by decide +kernel
theorem dX11_foretold_8 : decode prog_1_method_18_code 8 = .ok (.if_icmp .gt 26, 3) := by decide +kernel
theorem dX11_foretold_11 : decode prog_1_method_18_code 11 = .ok (.aload_n 0, 1) := by decide +kernel
theorem dX11_foretold_12 : decode prog_1_method_18_code 12 = .ok (.getfield 10, 3) := by decide +kernel
theorem dX11_foretold_15 : decode prog_1_method_18_code 15 = .ok (.getfield 127, 3) := by decide +kernel
theorem dX11_foretold_18 : decode prog_1_method_18_code 18 = .ok (.iload_n 2, 1) := by decide +kernel
theorem dX11_foretold_19 : decode prog_1_method_18_code 19 = .ok (.invokevirtual 165, 3) := by decide +kernel
theorem dX11_foretold_22 : decode prog_1_method_18_code 22 = .ok (.ifCond .eq 12, 3) := by decide +kernel
theorem dX11_foretold_25 : decode prog_1_method_18_code 25 = .ok (.iload_n 3, 1) := by decide +kernel
theorem dX11_foretold_26 : decode prog_1_method_18_code 26 = .ok (.ifCond .lt 8, 3) := by decide +kernel
theorem dX11_foretold_29 : decode prog_1_method_18_code 29 = .ok (.iload_n 3, 1) := by decide +kernel
theorem dX11_foretold_30 : decode prog_1_method_18_code 30 = .ok (.iconst 2, 1) := by decide +kernel
theorem dX11_foretold_31 : decode prog_1_method_18_code 31 = .ok (.if_icmp .le 6, 3) := by decide +kernel
theorem dX11_foretold_34 : decode prog_1_method_18_code 34 = .ok (.bipush (-2), 2) := by decide +kernel
theorem dX11_foretold_36 : decode prog_1_method_18_code 36 = .ok (.ireturn, 1) := by decide +kernel
theorem dX11_foretold_37 : decode prog_1_method_18_code 37 = .ok (.aload_n 0, 1) := by decide +kernel
theorem dX11_foretold_38 : decode prog_1_method_18_code 38 = .ok (.getfield 33, 3) := by decide +kernel
theorem dX11_foretold_41 : decode prog_1_method_18_code 41 = .ok (.iload_n 1, 1) := by decide +kernel
theorem dX11_foretold_42 : decode prog_1_method_18_code 42 = .ok (.iload_n 2, 1) := by decide +kernel
theorem dX11_foretold_43 : decode prog_1_method_18_code 43 = .ok (.iload_n 3, 1) := by decide +kernel
theorem dX11_foretold_44 : decode prog_1_method_18_code 44 = .ok (.invokevirtual 208, 3) := by decide +kernel
theorem dX11_foretold_47 : decode prog_1_method_18_code 47 = .ok (.ireturn, 1) := by decide +kernel
theorem sp_X11_foretold {m q w : Int} (cs : CS S R) (hv : CIv S R I A tx) (hm : Rg m) (hq : Rg q) (hw2 : Rg w) (hn : 6 ≤ n) (hp : ∀ I', CIv S R I' A tx → Ff I I' → Post (some (.int (iI (f_foretold A tx m q w)))) S I' R) : Call n 0 0 mX11_foretold [.ref (S.2.1 0), .int (iI m), .int (iI q), .int (iI w)] S I R Post := by
  obtain ⟨hc, hb, hw, hk⟩ := id hv
  obtain ⟨⟨⟨c0, c7, c8, c9, c10, c11⟩, cq⟩, ⟨⟨t1, t2, t3, t4, t5, t6, t7, t8, t9⟩, tq, th, tb, ts, td⟩, cb, cp⟩ := id hc
  dsimp only [Nat.reduceAdd] at c0 c7 c8 c9 c10 c11 cq t1 t2 t3 t4 t5 t6 t7 t8 t9 tq th tb ts td
  obtain ⟨⟨b0, b1, b2, b3, b4, bq, bl⟩, ⟨d1, d2, d3, d4, d5, d6, d7⟩, dq, dh, db, ds, dd, dp⟩ := id hb
  have b7 : 0 ≤ A 7 ∧ A 7 ≤ 9999 := b1
  have b8 : 0 ≤ A 8 ∧ A 8 ≤ 30870 := b2
  have b9 : 0 ≤ A 9 ∧ A 9 ≤ 9999 := b3
  have b10 : 0 ≤ A 10 ∧ A 10 ≤ 1 := b4
  have b11 : 0 ≤ A 11 ∧ A 11 ≤ 16 := by have h1 := lns_b (fun q => A (6 + 6 + 3 * q)) (A 0).toNat; have h2 : A 11 = _ := bl; omega
  have hsb : SB I 6 := SB_now hc hb
  unfold f_foretold at hp
  refine Call.of (by decide +kernel) (Nat.le_of_ble_eq_true rfl) ?_
  show WP _ _ _ _ _ 0 [(0, _), (1, _), (2, _), (3, _)] [] 0 0 _ _ _
  refine x_iload_n dX11_foretold_0 rfl ?_
  refine x_iconst dX11_foretold_1 ?_
  refine x_icmp_lt 34 dX11_foretold_2 (by decide) ⟨(by omega), (by omega)⟩ (fun w2 => ?_) (fun w2 => ?_)
  · refine x_bipush dX11_foretold_34 (by decide) ?_
    exact x_ireturn dX11_foretold_36 rfl (by omega) (by omega) (by first | (rw [if_neg (by omega)] at hp; exact hp _ hv (fun _ _ _ _ _ => rfl)) | (rw [if_pos (by omega)] at hp; exact hp _ hv44 hF44))
  · refine x_iload_n dX11_foretold_5 rfl ?_
    refine x_bipush dX11_foretold_6 (by decide) ?_
    refine x_icmp_gt 34 dX11_foretold_8 (by decide) ⟨(by omega), (by omega)⟩ (fun w8 => ?_) (fun w8 => ?_)
    · refine x_bipush dX11_foretold_34 (by decide) ?_
      exact x_ireturn dX11_foretold_36 rfl (by omega) (by omega) (by first | (rw [if_neg (by omega)] at hp; exact hp _ hv (fun _ _ _ _ _ => rfl)) | (rw [if_pos (by omega)] at hp; exact hp _ hv44 hF44))
    · refine x_aload_n dX11_foretold_11 rfl ?_
      refine x_getR (b := 1) dX11_foretold_12 gf_RX11_10 (k_ob_0 cs) (fun _ _ => rfl) (k_r_0_0 cs) ?_
      refine x_getR (b := 6) dX11_foretold_15 gf_RX11_127 (k_ob_1 cs) (fun _ _ => rfl) (k_r_1_4 cs) ?_
      refine x_iload_n dX11_foretold_18 rfl ?_
      refine x_callV1 (mc1 := 0) (ms1 := 0) dX11_foretold_19 cv_RX11_165 (ci := 6) (k_ob_6 cs) rfl (Nat.le_of_ble_eq_true rfl) (n1 := n - 1) (by omega) (by omega) (by omega) ?_
      refine sp_X6_has (k_st_6 cs) (by omega) hsb (fun r19 hr19 => ?_)
      refine x_if_eq 34 dX11_foretold_22 (by decide) (by omega) (fun w22 => ?_) (fun w22 => ?_)
      · refine x_bipush dX11_foretold_34 (by decide) ?_
        exact x_ireturn dX11_foretold_36 rfl (by omega) (by omega) (by first | (rw [if_neg (by omega)] at hp; exact hp _ hv (fun _ _ _ _ _ => rfl)) | (rw [if_pos (by omega)] at hp; exact hp _ hv44 hF44))
      · refine x_iload_n dX11_foretold_25 rfl ?_
        refine x_if_lt 34 dX11_foretold_26 (by decide) (by omega) (fun w26 => ?_) (fun w26 => ?_)
        · refine x_bipush dX11_foretold_34 (by decide) ?_
          exact x_ireturn dX11_foretold_36 rfl (by omega) (by omega) (by first | (rw [if_neg (by omega)] at hp; exact hp _ hv (fun _ _ _ _ _ => rfl)) | (rw [if_pos (by omega)] at hp; exact hp _ hv44 hF44))
        · refine x_iload_n dX11_foretold_29 rfl ?_
          refine x_iconst dX11_foretold_30 ?_
          refine x_icmp_le 37 dX11_foretold_31 (by decide) ⟨(by omega), (by omega)⟩ (fun w31 => ?_) (fun w31 => ?_)
          · refine x_aload_n dX11_foretold_37 rfl ?_
            refine x_getR (b := 282) dX11_foretold_38 gf_RX11_33 (k_ob_0 cs) (fun _ _ => rfl) (k_r_0_3 cs) ?_
            refine x_iload_n dX11_foretold_41 rfl ?_
            refine x_iload_n dX11_foretold_42 rfl ?_
            refine x_iload_n dX11_foretold_43 rfl ?_
            refine x_callV3 (mc1 := 0) (ms1 := 0) dX11_foretold_44 cv_RX11_208 (ci := 0) (k_ob_282 cs) rfl (Nat.le_of_ble_eq_true rfl) (n1 := n - 1) (by omega) (by omega) (by omega) ?_
            refine sp_X0_foretell cs hv (by omega) (by omega) (by omega) (by omega) (fun I44 hv44 hF44 => ?_)
            exact x_ireturn dX11_foretold_47 rfl (by omega) (by omega) (by first | (rw [if_neg (by omega)] at hp; exact hp _ hv (fun _ _ _ _ _ => rfl)) | (rw [if_pos (by omega)] at hp; exact hp _ hv44 hF44))
          · refine x_bipush dX11_foretold_34 (by decide) ?_
            exact x_ireturn dX11_foretold_36 rfl (by omega) (by omega) (by first | (rw [if_neg (by omega)] at hp; exact hp _ hv (fun _ _ _ _ _ => rfl)) | (rw [if_pos (by omega)] at hp; exact hp _ hv44 hF44))
theorem dX8_clausePart_0 : decode prog_10_method_4_code 0 = .ok (.aload_n 0, 1) := by decide +kernel
theorem dX8_clausePart_1 : decode prog_10_method_4_code 1 = .ok (.getfield 34, 3) := by decide +kernel
theorem dX8_clausePart_4 : decode prog_10_method_4_code 4 = .ok (.iload_n 1, 1) := by decide +kernel
theorem dX8_clausePart_5 : decode prog_10_method_4_code 5 = .ok (.iconst 4, 1) := by decide +kernel
theorem dX8_clausePart_6 : decode prog_10_method_4_code 6 = .ok (.imul, 1) := by decide +kernel
theorem dX8_clausePart_7 : decode prog_10_method_4_code 7 = .ok (.iload_n 2, 1) := by decide +kernel
theorem dX8_clausePart_8 : decode prog_10_method_4_code 8 = .ok (.iadd, 1) := by decide +kernel
theorem dX8_clausePart_9 : decode prog_10_method_4_code 9 = .ok (.iaload, 1) := by decide +kernel
theorem dX8_clausePart_10 : decode prog_10_method_4_code 10 = .ok (.ireturn, 1) := by decide +kernel
theorem sp_X8_clausePart {id i p : Nat} {x : Nat → Int} (ho : OB S id 8) (hr : R id 1 = some (id + 2)) (ha : AR S (id + 2) 13 (4 * (x 0).toNat)) (hx : 0 ≤ x 0 ∧ x 0 ≤ 24) (he : ∀ i : Nat, (i : Int) < 4 * x 0 → I (id + 2) i = x (6 + i)) (hi : (i : Int) < x 0) (hp4 : p < 4) {z : Int} (hz : z = (p : Int)) (hp : Post (some (.int (iI (x (6 + (4 * i + p)))))) S I R) : Call n 0 0 mX8_clausePart [.ref (S.2.1 id), .int (iI (i : Int)), .int (iI z)] S I R Post := by
  subst hz
  refine Call.of (by decide +kernel) (Nat.le_of_ble_eq_true rfl) ?_
  show WP _ _ _ _ _ 0 [(0, _), (1, _), (2, _)] [] 0 0 _ _ _
  refine x_aload_n dX8_clausePart_0 rfl ?_
  refine x_getR dX8_clausePart_1 gf_RX8_34 ho (fun _ _ => rfl) hr ?_
  refine x_iload_n dX8_clausePart_4 rfl ?_
  refine x_iconst dX8_clausePart_5 ?_
  refine x_imul dX8_clausePart_6 ?_
  refine x_iload_n dX8_clausePart_7 rfl ?_
  refine x_iadd dX8_clausePart_8 ?_
  refine x_iaload dX8_clausePart_9 ha (by omega) (by omega) ?_
  rw [show ((i : Int) * 4 + (p : Int)).toNat = 4 * i + p by omega, he (4 * i + p) (by omega)]
  exact x_ireturn dX8_clausePart_10 rfl (by omega) (by omega) (hp)
def f_clause (A : Nat → Int) (tx : Nat → Nat → Int) (x : Nat → Int) (i : Nat) : Int × (Nat → Int) :=
  if x (6 + (4 * i + 0)) = 138 then (if (f_quarrel A (x (6 + (4 * i + 1))) (x (6 + (4 * i + 2))) (x (6 + (4 * i + 3))) 0).1 = -1 then 0 else 1, (f_quarrel A (x (6 + (4 * i + 1))) (x (6 + (4 * i + 2))) (x (6 + (4 * i + 3))) 0).2)
  else if x (6 + (4 * i + 0)) = 140 then f_pawn A (x (6 + (4 * i + 1)))
  else if x (6 + (4 * i + 0)) = 141 then (if (f_redeem A tx (x (6 + (4 * i + 1)))).1 = -1 then 0 else 1, (f_redeem A tx (x (6 + (4 * i + 1)))).2)
  else if x (6 + (4 * i + 0)) = 142 then f_earn A (x (6 + (4 * i + 1)))
  else if x (6 + (4 * i + 0)) = 128 then ((pdA A tx (x (6 + (4 * i + 1))).toNat).2, (pdA A tx (x (6 + (4 * i + 1))).toNat).1)
  else (1, A)
/-- a text's clauses played from the i-th on -/
def plL (tx : Nat → Nat → Int) (x : Nat → Int) : Nat → Nat → (Nat → Int) → Int × (Nat → Int)
  | 0, _, A => (-1, A)
  | f + 1, i, A => if (f_clause A tx x i).1 = 0 then (i, (f_clause A tx x i).2) else plL tx x f (i + 1) (f_clause A tx x i).2
def f_played (A : Nat → Int) (tx : Nat → Nat → Int) (t : Int) : Int × (Nat → Int) := if 0 ≤ t ∧ t < A 1 then plL tx (tx t.toNat) (tx t.toNat 0).toNat 0 A else (-2, A)
theorem f_redeem_b {q : Int} (hb : BA A) : -1 ≤ (f_redeem A tx q).1 ∧ (f_redeem A tx q).1 ≤ 9999 := by
  have h9 : 0 ≤ A 9 ∧ A 9 ≤ 9999 := hb.1.2.2.2.1
  have hq := duesP_b A tx (A 2) q.toNat 0 (A 9)
  unfold f_redeem priceP
  (repeat' split) <;> (dsimp only; omega)
theorem pdA_2 (k : Nat) : (pdA A tx k).2 = 0 ∨ (pdA A tx k).2 = 1 := by
  cases k with
  | zero => exact Or.inr rfl
  | succ k => simp only [pdA]; split <;> simp
theorem f_quarrel_1 {a b w h : Int} (hb : BA A) : -1 ≤ (f_quarrel A a b w h).1 ∧ (f_quarrel A a b w h).1 ≤ 8 := by
  have := hb.1.1
  unfold f_quarrel; split <;> (dsimp only; omega)
theorem f_quarrel_t {a b w h : Int} (hb : BA A) : (f_quarrel A a b w h).2 1 = A 1 := by
  have := hb.1.1
  unfold f_quarrel; split
  · dsimp only; rw [upA_o (by omega), upA_o (by omega), upA_o (by omega), upA_o (by omega), upA_o (by omega), upA_o (by omega), upA_o (by omega), upA_o (by omega)]
  · rfl
theorem f_pawn_t {q : Int} (hb : BA A) : (f_pawn A q).2 1 = A 1 := by
  have h11 := BA_11 hb
  unfold f_pawn; split
  · dsimp only; unfold pawnA wrA; rw [upA_o (by omega), upA_o (by omega), upA_o (by omega), upA_o (by omega), upA_o (by omega), upA_o (by omega)]; exact kp_lo (by omega) (by omega)
  · rfl
theorem f_earn_t {q : Int} : (f_earn A q).2 1 = A 1 := by
  unfold f_earn; split
  · dsimp only; rw [upA_o (by omega)]; exact kp_lo (by omega) (by omega)
  · rfl
theorem dX0_playClause_0 : decode prog_2_method_6_code 0 = .ok (.aload_n 1, 1) := by decide +kernel
theorem dX0_playClause_1 : decode prog_2_method_6_code 1 = .ok (.iload_n 2, 1) := by decide +kernel
theorem dX0_playClause_2 : decode prog_2_method_6_code 2 = .ok (.iconst 1, 1) := by decide +kernel
theorem dX0_playClause_3 : decode prog_2_method_6_code 3 = .ok (.invokevirtual 62, 3) := by decide +kernel
theorem dX0_playClause_6 : decode prog_2_method_6_code 6 = .ok (.istore_n 3, 1) := by decide +kernel
theorem dX0_playClause_7 : decode prog_2_method_6_code 7 = .ok (.aload_n 1, 1) := by decide +kernel
theorem dX0_playClause_8 : decode prog_2_method_6_code 8 = .ok (.iload_n 2, 1) := by decide +kernel
theorem dX0_playClause_9 : decode prog_2_method_6_code 9 = .ok (.iconst 0, 1) := by decide +kernel
theorem dX0_playClause_10 : decode prog_2_method_6_code 10 = .ok (.invokevirtual 62, 3) := by decide +kernel
theorem dX0_playClause_13 : decode prog_2_method_6_code 13 = .ok (.tableswitch 139 128 142 #[133, 139, 139, 139, 139, 139, 139, 139, 139, 139, 75, 139, 106, 112, 127], 75) := by decide +kernel
theorem dX0_playClause_88 : decode prog_2_method_6_code 88 = .ok (.aload_n 0, 1) := by decide +kernel
theorem dX0_playClause_89 : decode prog_2_method_6_code 89 = .ok (.getfield 18, 3) := by decide +kernel
theorem dX0_playClause_92 : decode prog_2_method_6_code 92 = .ok (.iload_n 3, 1) := by decide +kernel
theorem dX0_playClause_93 : decode prog_2_method_6_code 93 = .ok (.aload_n 1, 1) := by decide +kernel
theorem dX0_playClause_94 : decode prog_2_method_6_code 94 = .ok (.iload_n 2, 1) := by decide +kernel
theorem dX0_playClause_95 : decode prog_2_method_6_code 95 = .ok (.iconst 2, 1) := by decide +kernel
theorem dX0_playClause_96 : decode prog_2_method_6_code 96 = .ok (.invokevirtual 62, 3) := by decide +kernel
theorem dX0_playClause_99 : decode prog_2_method_6_code 99 = .ok (.aload_n 1, 1) := by decide +kernel
theorem dX0_playClause_100 : decode prog_2_method_6_code 100 = .ok (.iload_n 2, 1) := by decide +kernel
theorem dX0_playClause_101 : decode prog_2_method_6_code 101 = .ok (.iconst 3, 1) := by decide +kernel
theorem dX0_playClause_102 : decode prog_2_method_6_code 102 = .ok (.invokevirtual 62, 3) := by decide +kernel
theorem dX0_playClause_105 : decode prog_2_method_6_code 105 = .ok (.iconst 0, 1) := by decide +kernel
theorem dX0_playClause_106 : decode prog_2_method_6_code 106 = .ok (.invokevirtual 68, 3) := by decide +kernel
theorem dX0_playClause_109 : decode prog_2_method_6_code 109 = .ok (.iconst (-1), 1) := by decide +kernel
theorem dX0_playClause_110 : decode prog_2_method_6_code 110 = .ok (.if_icmp .eq 7, 3) := by decide +kernel
theorem dX0_playClause_113 : decode prog_2_method_6_code 113 = .ok (.iconst 1, 1) := by decide +kernel
theorem dX0_playClause_114 : decode prog_2_method_6_code 114 = .ok (.goto 4, 3) := by decide +kernel
theorem dX0_playClause_117 : decode prog_2_method_6_code 117 = .ok (.iconst 0, 1) := by decide +kernel
theorem dX0_playClause_118 : decode prog_2_method_6_code 118 = .ok (.ireturn, 1) := by decide +kernel
theorem dX0_playClause_119 : decode prog_2_method_6_code 119 = .ok (.aload_n 0, 1) := by decide +kernel
theorem dX0_playClause_120 : decode prog_2_method_6_code 120 = .ok (.iload_n 3, 1) := by decide +kernel
theorem dX0_playClause_121 : decode prog_2_method_6_code 121 = .ok (.invokevirtual 72, 3) := by decide +kernel
theorem dX0_playClause_124 : decode prog_2_method_6_code 124 = .ok (.ireturn, 1) := by decide +kernel
theorem dX0_playClause_125 : decode prog_2_method_6_code 125 = .ok (.aload_n 0, 1) := by decide +kernel
theorem dX0_playClause_126 : decode prog_2_method_6_code 126 = .ok (.iload_n 3, 1) := by decide +kernel
theorem dX0_playClause_127 : decode prog_2_method_6_code 127 = .ok (.invokevirtual 75, 3) := by decide +kernel
theorem dX0_playClause_130 : decode prog_2_method_6_code 130 = .ok (.iconst (-1), 1) := by decide +kernel
theorem dX0_playClause_131 : decode prog_2_method_6_code 131 = .ok (.if_icmp .eq 7, 3) := by decide +kernel
theorem dX0_playClause_134 : decode prog_2_method_6_code 134 = .ok (.iconst 1, 1) := by decide +kernel
theorem dX0_playClause_135 : decode prog_2_method_6_code 135 = .ok (.goto 4, 3) := by decide +kernel
theorem dX0_playClause_138 : decode prog_2_method_6_code 138 = .ok (.iconst 0, 1) := by decide +kernel
theorem dX0_playClause_139 : decode prog_2_method_6_code 139 = .ok (.ireturn, 1) := by decide +kernel
theorem dX0_playClause_140 : decode prog_2_method_6_code 140 = .ok (.aload_n 0, 1) := by decide +kernel
theorem dX0_playClause_141 : decode prog_2_method_6_code 141 = .ok (.iload_n 3, 1) := by decide +kernel
theorem dX0_playClause_142 : decode prog_2_method_6_code 142 = .ok (.invokevirtual 78, 3) := by decide +kernel
theorem dX0_playClause_145 : decode prog_2_method_6_code 145 = .ok (.ireturn, 1) := by decide +kernel
theorem dX0_playClause_146 : decode prog_2_method_6_code 146 = .ok (.aload_n 0, 1) := by decide +kernel
theorem dX0_playClause_147 : decode prog_2_method_6_code 147 = .ok (.iload_n 3, 1) := by decide +kernel
theorem dX0_playClause_148 : decode prog_2_method_6_code 148 = .ok (.invokevirtual 81, 3) := by decide +kernel
theorem dX0_playClause_151 : decode prog_2_method_6_code 151 = .ok (.ireturn, 1) := by decide +kernel
theorem dX0_playClause_152 : decode prog_2_method_6_code 152 = .ok (.iconst 1, 1) := by decide +kernel
theorem dX0_playClause_153 : decode prog_2_method_6_code 153 = .ok (.ireturn, 1) := by decide +kernel

theorem sp_X0_playClause {id i : Nat} {x : Nat → Int} (cs : CS S R) (hv : CIv S R I A tx) (hid : 325 ≤ id) (ho : OB S id 8) (hr : R id 1 = some (id + 2)) (ha : AR S (id + 2) 13 (4 * (x 0).toNat)) (hx : 0 ≤ x 0 ∧ x 0 ≤ 24) (he : ∀ i : Nat, (i : Int) < 4 * x 0 → I (id + 2) i = x (6 + i)) (hi : (i : Int) < x 0) (hB : ∀ i : Nat, (i : Int) < 4 * x 0 → 0 ≤ x (6 + i) ∧ x (6 + i) ≤ 9999) (hn : 6 ≤ n) (hp : ∀ I', CIv S R I' (f_clause A tx x i).2 tx → Fc I I' → Post (some (.int (iI (f_clause A tx x i).1))) S I' R) : Call n 0 0 mX0_playClause [.ref (S.2.1 282), .ref (S.2.1 id), .int (iI (i : Int))] S I R Post := by
  have hv2 := hv
  obtain ⟨hc, hb, hw, hk⟩ := hv2
  have g0 := hB (4 * i + 0) (by omega)
  have g1 := hB (4 * i + 1) (by omega)
  have g2 := hB (4 * i + 2) (by omega)
  have g3 := hB (4 * i + 3) (by omega)
  have w0 : Rg (x (6 + (4 * i + 0))) := by omega
  have w1 : Rg (x (6 + (4 * i + 1))) := by omega
  have w2 : Rg (x (6 + (4 * i + 2))) := by omega
  have w3 : Rg (x (6 + (4 * i + 3))) := by omega
  unfold f_clause at hp
  generalize hx0 : x (6 + (4 * i + 0)) = x0 at *
  generalize hx1 : x (6 + (4 * i + 1)) = x1 at *
  generalize hx2 : x (6 + (4 * i + 2)) = x2 at *
  generalize hx3 : x (6 + (4 * i + 3)) = x3 at *
  refine Call.of (by decide +kernel) (Nat.le_of_ble_eq_true rfl) ?_
  show WP _ _ _ _ _ 0 [(0, _), (1, _), (2, _)] [] 0 0 _ _ _
  refine x_aload_n dX0_playClause_0 rfl ?_
  refine x_iload_n dX0_playClause_1 rfl ?_
  refine x_iconst dX0_playClause_2 ?_
  refine x_callV2 (mc1 := 0) (ms1 := 0) dX0_playClause_3 cv_RX0_62 (ci := 8) ho rfl (Nat.le_of_ble_eq_true rfl) (n1 := n - 1) (by omega) (by omega) (by omega) ?_
  refine sp_X8_clausePart (x := x) (p := 1) ho hr ha hx he hi (by decide) rfl ?_
  rw [hx1]
  refine x_istore_n (lv2 := [(3, _), (0, _), (1, _), (2, _)]) dX0_playClause_6 (by decide) rfl ?_
  refine x_aload_n dX0_playClause_7 rfl ?_
  refine x_iload_n dX0_playClause_8 rfl ?_
  refine x_iconst dX0_playClause_9 ?_
  refine x_callV2 (mc1 := 0) (ms1 := 0) dX0_playClause_10 cv_RX0_62 (ci := 8) ho rfl (Nat.le_of_ble_eq_true rfl) (n1 := n - 1) (by omega) (by omega) (by omega) ?_
  refine sp_X8_clausePart (x := x) (p := 0) ho hr ha hx he hi (by decide) rfl ?_
  rw [hx0]
  by_cases t13_0 : x0 = 128
  · refine x_tableIn 146 dX0_playClause_13 (by omega) (by omega) (by rw [t13_0]; rfl) (by decide) ?_
    refine x_aload_n dX0_playClause_146 rfl ?_
    refine x_iload_n dX0_playClause_147 rfl ?_
    refine x_callV1 (mc1 := 0) (ms1 := 0) dX0_playClause_148 cv_RX0_81 (ci := 0) (k_ob_282 cs) rfl (Nat.le_of_ble_eq_true rfl) (n1 := n - 1) (by omega) (by omega) (by omega) ?_
    refine sp_X0_playDays cs hv w1 (by omega) (fun I148 h148 hF148 => ?_)
    have q148 : (pdA A tx x1.toNat).2 = 0 ∨ (pdA A tx x1.toNat).2 = 1 := pdA_2 _
    exact x_zreturn (by omega) dX0_playClause_151 rfl (by omega) (by omega) (by first | (rw [if_pos (by omega)] at hp; first | (rw [if_pos (by omega)] at hp; exact hp _ h106 F106) | (rw [if_neg (by omega)] at hp; exact hp _ h106 F106)) | (rw [if_neg (by omega), if_pos (by omega)] at hp; exact hp _ h121 hF121.c) | (rw [if_neg (by omega), if_neg (by omega), if_pos (by omega)] at hp; first | (rw [if_pos (by omega)] at hp; exact hp _ h127 hF127) | (rw [if_neg (by omega)] at hp; exact hp _ h127 hF127)) | (rw [if_neg (by omega), if_neg (by omega), if_neg (by omega), if_pos (by omega)] at hp; exact hp _ h142 hF142.c) | (rw [if_neg (by omega), if_neg (by omega), if_neg (by omega), if_neg (by omega), if_pos (by omega)] at hp; exact hp _ h148 hF148) | (rw [if_neg (by omega), if_neg (by omega), if_neg (by omega), if_neg (by omega), if_neg (by omega)] at hp; exact hp _ hv Fc.rf))
  by_cases t13_1 : x0 = 129
  · refine x_tableIn 152 dX0_playClause_13 (by omega) (by omega) (by rw [t13_1]; rfl) (by decide) ?_
    refine x_iconst dX0_playClause_152 ?_
    exact x_zreturn (by omega) dX0_playClause_153 rfl (by omega) (by omega) (by first | (rw [if_pos (by omega)] at hp; first | (rw [if_pos (by omega)] at hp; exact hp _ h106 F106) | (rw [if_neg (by omega)] at hp; exact hp _ h106 F106)) | (rw [if_neg (by omega), if_pos (by omega)] at hp; exact hp _ h121 hF121.c) | (rw [if_neg (by omega), if_neg (by omega), if_pos (by omega)] at hp; first | (rw [if_pos (by omega)] at hp; exact hp _ h127 hF127) | (rw [if_neg (by omega)] at hp; exact hp _ h127 hF127)) | (rw [if_neg (by omega), if_neg (by omega), if_neg (by omega), if_pos (by omega)] at hp; exact hp _ h142 hF142.c) | (rw [if_neg (by omega), if_neg (by omega), if_neg (by omega), if_neg (by omega), if_pos (by omega)] at hp; exact hp _ h148 hF148) | (rw [if_neg (by omega), if_neg (by omega), if_neg (by omega), if_neg (by omega), if_neg (by omega)] at hp; exact hp _ hv Fc.rf))
  by_cases t13_2 : x0 = 130
  · refine x_tableIn 152 dX0_playClause_13 (by omega) (by omega) (by rw [t13_2]; rfl) (by decide) ?_
    refine x_iconst dX0_playClause_152 ?_
    exact x_zreturn (by omega) dX0_playClause_153 rfl (by omega) (by omega) (by first | (rw [if_pos (by omega)] at hp; first | (rw [if_pos (by omega)] at hp; exact hp _ h106 F106) | (rw [if_neg (by omega)] at hp; exact hp _ h106 F106)) | (rw [if_neg (by omega), if_pos (by omega)] at hp; exact hp _ h121 hF121.c) | (rw [if_neg (by omega), if_neg (by omega), if_pos (by omega)] at hp; first | (rw [if_pos (by omega)] at hp; exact hp _ h127 hF127) | (rw [if_neg (by omega)] at hp; exact hp _ h127 hF127)) | (rw [if_neg (by omega), if_neg (by omega), if_neg (by omega), if_pos (by omega)] at hp; exact hp _ h142 hF142.c) | (rw [if_neg (by omega), if_neg (by omega), if_neg (by omega), if_neg (by omega), if_pos (by omega)] at hp; exact hp _ h148 hF148) | (rw [if_neg (by omega), if_neg (by omega), if_neg (by omega), if_neg (by omega), if_neg (by omega)] at hp; exact hp _ hv Fc.rf))
  by_cases t13_3 : x0 = 131
  · refine x_tableIn 152 dX0_playClause_13 (by omega) (by omega) (by rw [t13_3]; rfl) (by decide) ?_
    refine x_iconst dX0_playClause_152 ?_
    exact x_zreturn (by omega) dX0_playClause_153 rfl (by omega) (by omega) (by first | (rw [if_pos (by omega)] at hp; first | (rw [if_pos (by omega)] at hp; exact hp _ h106 F106) | (rw [if_neg (by omega)] at hp; exact hp _ h106 F106)) | (rw [if_neg (by omega), if_pos (by omega)] at hp; exact hp _ h121 hF121.c) | (rw [if_neg (by omega), if_neg (by omega), if_pos (by omega)] at hp; first | (rw [if_pos (by omega)] at hp; exact hp _ h127 hF127) | (rw [if_neg (by omega)] at hp; exact hp _ h127 hF127)) | (rw [if_neg (by omega), if_neg (by omega), if_neg (by omega), if_pos (by omega)] at hp; exact hp _ h142 hF142.c) | (rw [if_neg (by omega), if_neg (by omega), if_neg (by omega), if_neg (by omega), if_pos (by omega)] at hp; exact hp _ h148 hF148) | (rw [if_neg (by omega), if_neg (by omega), if_neg (by omega), if_neg (by omega), if_neg (by omega)] at hp; exact hp _ hv Fc.rf))
  by_cases t13_4 : x0 = 132
  · refine x_tableIn 152 dX0_playClause_13 (by omega) (by omega) (by rw [t13_4]; rfl) (by decide) ?_
    refine x_iconst dX0_playClause_152 ?_
    exact x_zreturn (by omega) dX0_playClause_153 rfl (by omega) (by omega) (by first | (rw [if_pos (by omega)] at hp; first | (rw [if_pos (by omega)] at hp; exact hp _ h106 F106) | (rw [if_neg (by omega)] at hp; exact hp _ h106 F106)) | (rw [if_neg (by omega), if_pos (by omega)] at hp; exact hp _ h121 hF121.c) | (rw [if_neg (by omega), if_neg (by omega), if_pos (by omega)] at hp; first | (rw [if_pos (by omega)] at hp; exact hp _ h127 hF127) | (rw [if_neg (by omega)] at hp; exact hp _ h127 hF127)) | (rw [if_neg (by omega), if_neg (by omega), if_neg (by omega), if_pos (by omega)] at hp; exact hp _ h142 hF142.c) | (rw [if_neg (by omega), if_neg (by omega), if_neg (by omega), if_neg (by omega), if_pos (by omega)] at hp; exact hp _ h148 hF148) | (rw [if_neg (by omega), if_neg (by omega), if_neg (by omega), if_neg (by omega), if_neg (by omega)] at hp; exact hp _ hv Fc.rf))
  by_cases t13_5 : x0 = 133
  · refine x_tableIn 152 dX0_playClause_13 (by omega) (by omega) (by rw [t13_5]; rfl) (by decide) ?_
    refine x_iconst dX0_playClause_152 ?_
    exact x_zreturn (by omega) dX0_playClause_153 rfl (by omega) (by omega) (by first | (rw [if_pos (by omega)] at hp; first | (rw [if_pos (by omega)] at hp; exact hp _ h106 F106) | (rw [if_neg (by omega)] at hp; exact hp _ h106 F106)) | (rw [if_neg (by omega), if_pos (by omega)] at hp; exact hp _ h121 hF121.c) | (rw [if_neg (by omega), if_neg (by omega), if_pos (by omega)] at hp; first | (rw [if_pos (by omega)] at hp; exact hp _ h127 hF127) | (rw [if_neg (by omega)] at hp; exact hp _ h127 hF127)) | (rw [if_neg (by omega), if_neg (by omega), if_neg (by omega), if_pos (by omega)] at hp; exact hp _ h142 hF142.c) | (rw [if_neg (by omega), if_neg (by omega), if_neg (by omega), if_neg (by omega), if_pos (by omega)] at hp; exact hp _ h148 hF148) | (rw [if_neg (by omega), if_neg (by omega), if_neg (by omega), if_neg (by omega), if_neg (by omega)] at hp; exact hp _ hv Fc.rf))
  by_cases t13_6 : x0 = 134
  · refine x_tableIn 152 dX0_playClause_13 (by omega) (by omega) (by rw [t13_6]; rfl) (by decide) ?_
    refine x_iconst dX0_playClause_152 ?_
    exact x_zreturn (by omega) dX0_playClause_153 rfl (by omega) (by omega) (by first | (rw [if_pos (by omega)] at hp; first | (rw [if_pos (by omega)] at hp; exact hp _ h106 F106) | (rw [if_neg (by omega)] at hp; exact hp _ h106 F106)) | (rw [if_neg (by omega), if_pos (by omega)] at hp; exact hp _ h121 hF121.c) | (rw [if_neg (by omega), if_neg (by omega), if_pos (by omega)] at hp; first | (rw [if_pos (by omega)] at hp; exact hp _ h127 hF127) | (rw [if_neg (by omega)] at hp; exact hp _ h127 hF127)) | (rw [if_neg (by omega), if_neg (by omega), if_neg (by omega), if_pos (by omega)] at hp; exact hp _ h142 hF142.c) | (rw [if_neg (by omega), if_neg (by omega), if_neg (by omega), if_neg (by omega), if_pos (by omega)] at hp; exact hp _ h148 hF148) | (rw [if_neg (by omega), if_neg (by omega), if_neg (by omega), if_neg (by omega), if_neg (by omega)] at hp; exact hp _ hv Fc.rf))
  by_cases t13_7 : x0 = 135
  · refine x_tableIn 152 dX0_playClause_13 (by omega) (by omega) (by rw [t13_7]; rfl) (by decide) ?_
    refine x_iconst dX0_playClause_152 ?_
    exact x_zreturn (by omega) dX0_playClause_153 rfl (by omega) (by omega) (by first | (rw [if_pos (by omega)] at hp; first | (rw [if_pos (by omega)] at hp; exact hp _ h106 F106) | (rw [if_neg (by omega)] at hp; exact hp _ h106 F106)) | (rw [if_neg (by omega), if_pos (by omega)] at hp; exact hp _ h121 hF121.c) | (rw [if_neg (by omega), if_neg (by omega), if_pos (by omega)] at hp; first | (rw [if_pos (by omega)] at hp; exact hp _ h127 hF127) | (rw [if_neg (by omega)] at hp; exact hp _ h127 hF127)) | (rw [if_neg (by omega), if_neg (by omega), if_neg (by omega), if_pos (by omega)] at hp; exact hp _ h142 hF142.c) | (rw [if_neg (by omega), if_neg (by omega), if_neg (by omega), if_neg (by omega), if_pos (by omega)] at hp; exact hp _ h148 hF148) | (rw [if_neg (by omega), if_neg (by omega), if_neg (by omega), if_neg (by omega), if_neg (by omega)] at hp; exact hp _ hv Fc.rf))
  by_cases t13_8 : x0 = 136
  · refine x_tableIn 152 dX0_playClause_13 (by omega) (by omega) (by rw [t13_8]; rfl) (by decide) ?_
    refine x_iconst dX0_playClause_152 ?_
    exact x_zreturn (by omega) dX0_playClause_153 rfl (by omega) (by omega) (by first | (rw [if_pos (by omega)] at hp; first | (rw [if_pos (by omega)] at hp; exact hp _ h106 F106) | (rw [if_neg (by omega)] at hp; exact hp _ h106 F106)) | (rw [if_neg (by omega), if_pos (by omega)] at hp; exact hp _ h121 hF121.c) | (rw [if_neg (by omega), if_neg (by omega), if_pos (by omega)] at hp; first | (rw [if_pos (by omega)] at hp; exact hp _ h127 hF127) | (rw [if_neg (by omega)] at hp; exact hp _ h127 hF127)) | (rw [if_neg (by omega), if_neg (by omega), if_neg (by omega), if_pos (by omega)] at hp; exact hp _ h142 hF142.c) | (rw [if_neg (by omega), if_neg (by omega), if_neg (by omega), if_neg (by omega), if_pos (by omega)] at hp; exact hp _ h148 hF148) | (rw [if_neg (by omega), if_neg (by omega), if_neg (by omega), if_neg (by omega), if_neg (by omega)] at hp; exact hp _ hv Fc.rf))
  by_cases t13_9 : x0 = 137
  · refine x_tableIn 152 dX0_playClause_13 (by omega) (by omega) (by rw [t13_9]; rfl) (by decide) ?_
    refine x_iconst dX0_playClause_152 ?_
    exact x_zreturn (by omega) dX0_playClause_153 rfl (by omega) (by omega) (by first | (rw [if_pos (by omega)] at hp; first | (rw [if_pos (by omega)] at hp; exact hp _ h106 F106) | (rw [if_neg (by omega)] at hp; exact hp _ h106 F106)) | (rw [if_neg (by omega), if_pos (by omega)] at hp; exact hp _ h121 hF121.c) | (rw [if_neg (by omega), if_neg (by omega), if_pos (by omega)] at hp; first | (rw [if_pos (by omega)] at hp; exact hp _ h127 hF127) | (rw [if_neg (by omega)] at hp; exact hp _ h127 hF127)) | (rw [if_neg (by omega), if_neg (by omega), if_neg (by omega), if_pos (by omega)] at hp; exact hp _ h142 hF142.c) | (rw [if_neg (by omega), if_neg (by omega), if_neg (by omega), if_neg (by omega), if_pos (by omega)] at hp; exact hp _ h148 hF148) | (rw [if_neg (by omega), if_neg (by omega), if_neg (by omega), if_neg (by omega), if_neg (by omega)] at hp; exact hp _ hv Fc.rf))
  by_cases t13_10 : x0 = 138
  · refine x_tableIn 88 dX0_playClause_13 (by omega) (by omega) (by rw [t13_10]; rfl) (by decide) ?_
    refine x_aload_n dX0_playClause_88 rfl ?_
    refine x_getR (b := 1) dX0_playClause_89 gf_RX0_18 (k_ob_282 cs) (fun _ _ => rfl) (k_r_282_0 cs) ?_
    refine x_iload_n dX0_playClause_92 rfl ?_
    refine x_aload_n dX0_playClause_93 rfl ?_
    refine x_iload_n dX0_playClause_94 rfl ?_
    refine x_iconst dX0_playClause_95 ?_
    refine x_callV2 (mc1 := 0) (ms1 := 0) dX0_playClause_96 cv_RX0_62 (ci := 8) ho rfl (Nat.le_of_ble_eq_true rfl) (n1 := n - 1) (by omega) (by omega) (by omega) ?_
    refine sp_X8_clausePart (x := x) (p := 2) ho hr ha hx he hi (by decide) rfl ?_
    rw [hx2]
    refine x_aload_n dX0_playClause_99 rfl ?_
    refine x_iload_n dX0_playClause_100 rfl ?_
    refine x_iconst dX0_playClause_101 ?_
    refine x_callV2 (mc1 := 0) (ms1 := 0) dX0_playClause_102 cv_RX0_62 (ci := 8) ho rfl (Nat.le_of_ble_eq_true rfl) (n1 := n - 1) (by omega) (by omega) (by omega) ?_
    refine sp_X8_clausePart (x := x) (p := 3) ho hr ha hx he hi (by decide) rfl ?_
    rw [hx3]
    refine x_iconst dX0_playClause_105 ?_
    refine x_callV4 (mc1 := 0) (ms1 := 0) dX0_playClause_106 cv_RX0_68 (ci := 10) (k_ob_1 cs) rfl (Nat.le_of_ble_eq_true rfl) (n1 := n - 1) (by omega) (by omega) (by omega) ?_
    refine sp_X10_tell cs hc hb w1 w2 w3 (by omega) (by omega) (fun I106 hI106 hF106 => ?_)
    have h106 := hv.w hF106 hI106 (BA_quarrel hb) (f_quarrel_t hb)
    have r106 := f_quarrel_1 (a := x1) (b := x2) (w := x3) (h := 0) hb
    have F106 := hF106.c
    generalize hf : f_quarrel A x1 x2 x3 0 = f at *
    refine x_iconst dX0_playClause_109 ?_
    refine x_icmp_eq 117 dX0_playClause_110 (by decide) ⟨(by omega), (by omega)⟩ (fun w110 => ?_) (fun w110 => ?_)
    · refine x_iconst dX0_playClause_117 ?_
      exact x_zreturn (by omega) dX0_playClause_118 rfl (by omega) (by omega) (by first | (rw [if_pos (by omega)] at hp; first | (rw [if_pos (by omega)] at hp; exact hp _ h106 F106) | (rw [if_neg (by omega)] at hp; exact hp _ h106 F106)) | (rw [if_neg (by omega), if_pos (by omega)] at hp; exact hp _ h121 hF121.c) | (rw [if_neg (by omega), if_neg (by omega), if_pos (by omega)] at hp; first | (rw [if_pos (by omega)] at hp; exact hp _ h127 hF127) | (rw [if_neg (by omega)] at hp; exact hp _ h127 hF127)) | (rw [if_neg (by omega), if_neg (by omega), if_neg (by omega), if_pos (by omega)] at hp; exact hp _ h142 hF142.c) | (rw [if_neg (by omega), if_neg (by omega), if_neg (by omega), if_neg (by omega), if_pos (by omega)] at hp; exact hp _ h148 hF148) | (rw [if_neg (by omega), if_neg (by omega), if_neg (by omega), if_neg (by omega), if_neg (by omega)] at hp; exact hp _ hv Fc.rf))
    · refine x_iconst dX0_playClause_113 ?_
      refine x_goto 118 dX0_playClause_114 (by decide) ?_
      exact x_zreturn (by omega) dX0_playClause_118 rfl (by omega) (by omega) (by first | (rw [if_pos (by omega)] at hp; first | (rw [if_pos (by omega)] at hp; exact hp _ h106 F106) | (rw [if_neg (by omega)] at hp; exact hp _ h106 F106)) | (rw [if_neg (by omega), if_pos (by omega)] at hp; exact hp _ h121 hF121.c) | (rw [if_neg (by omega), if_neg (by omega), if_pos (by omega)] at hp; first | (rw [if_pos (by omega)] at hp; exact hp _ h127 hF127) | (rw [if_neg (by omega)] at hp; exact hp _ h127 hF127)) | (rw [if_neg (by omega), if_neg (by omega), if_neg (by omega), if_pos (by omega)] at hp; exact hp _ h142 hF142.c) | (rw [if_neg (by omega), if_neg (by omega), if_neg (by omega), if_neg (by omega), if_pos (by omega)] at hp; exact hp _ h148 hF148) | (rw [if_neg (by omega), if_neg (by omega), if_neg (by omega), if_neg (by omega), if_neg (by omega)] at hp; exact hp _ hv Fc.rf))
  by_cases t13_11 : x0 = 139
  · refine x_tableIn 152 dX0_playClause_13 (by omega) (by omega) (by rw [t13_11]; rfl) (by decide) ?_
    refine x_iconst dX0_playClause_152 ?_
    exact x_zreturn (by omega) dX0_playClause_153 rfl (by omega) (by omega) (by first | (rw [if_pos (by omega)] at hp; first | (rw [if_pos (by omega)] at hp; exact hp _ h106 F106) | (rw [if_neg (by omega)] at hp; exact hp _ h106 F106)) | (rw [if_neg (by omega), if_pos (by omega)] at hp; exact hp _ h121 hF121.c) | (rw [if_neg (by omega), if_neg (by omega), if_pos (by omega)] at hp; first | (rw [if_pos (by omega)] at hp; exact hp _ h127 hF127) | (rw [if_neg (by omega)] at hp; exact hp _ h127 hF127)) | (rw [if_neg (by omega), if_neg (by omega), if_neg (by omega), if_pos (by omega)] at hp; exact hp _ h142 hF142.c) | (rw [if_neg (by omega), if_neg (by omega), if_neg (by omega), if_neg (by omega), if_pos (by omega)] at hp; exact hp _ h148 hF148) | (rw [if_neg (by omega), if_neg (by omega), if_neg (by omega), if_neg (by omega), if_neg (by omega)] at hp; exact hp _ hv Fc.rf))
  by_cases t13_12 : x0 = 140
  · refine x_tableIn 119 dX0_playClause_13 (by omega) (by omega) (by rw [t13_12]; rfl) (by decide) ?_
    refine x_aload_n dX0_playClause_119 rfl ?_
    refine x_iload_n dX0_playClause_120 rfl ?_
    refine x_callV1 (mc1 := 0) (ms1 := 0) dX0_playClause_121 cv_RX0_72 (ci := 0) (k_ob_282 cs) rfl (Nat.le_of_ble_eq_true rfl) (n1 := n - 1) (by omega) (by omega) (by omega) ?_
    refine sp_X0_pawnByHand cs hc hb w1 (by omega) (fun I121 hI121 hF121 => ?_)
    have h121 := hv.w hF121 hI121 (BA_fpawn hb) (f_pawn_t hb)
    have q121 : (f_pawn A x1).1 = 0 ∨ (f_pawn A x1).1 = 1 := by unfold f_pawn; split <;> simp
    exact x_zreturn (by omega) dX0_playClause_124 rfl (by omega) (by omega) (by first | (rw [if_pos (by omega)] at hp; first | (rw [if_pos (by omega)] at hp; exact hp _ h106 F106) | (rw [if_neg (by omega)] at hp; exact hp _ h106 F106)) | (rw [if_neg (by omega), if_pos (by omega)] at hp; exact hp _ h121 hF121.c) | (rw [if_neg (by omega), if_neg (by omega), if_pos (by omega)] at hp; first | (rw [if_pos (by omega)] at hp; exact hp _ h127 hF127) | (rw [if_neg (by omega)] at hp; exact hp _ h127 hF127)) | (rw [if_neg (by omega), if_neg (by omega), if_neg (by omega), if_pos (by omega)] at hp; exact hp _ h142 hF142.c) | (rw [if_neg (by omega), if_neg (by omega), if_neg (by omega), if_neg (by omega), if_pos (by omega)] at hp; exact hp _ h148 hF148) | (rw [if_neg (by omega), if_neg (by omega), if_neg (by omega), if_neg (by omega), if_neg (by omega)] at hp; exact hp _ hv Fc.rf))
  by_cases t13_13 : x0 = 141
  · refine x_tableIn 125 dX0_playClause_13 (by omega) (by omega) (by rw [t13_13]; rfl) (by decide) ?_
    refine x_aload_n dX0_playClause_125 rfl ?_
    refine x_iload_n dX0_playClause_126 rfl ?_
    refine x_callV1 (mc1 := 0) (ms1 := 0) dX0_playClause_127 cv_RX0_75 (ci := 0) (k_ob_282 cs) rfl (Nat.le_of_ble_eq_true rfl) (n1 := n - 1) (by omega) (by omega) (by omega) ?_
    refine sp_X0_redeemByHand cs hv w1 (by omega) (fun I127 h127 hF127 => ?_)
    have q127 : -1 ≤ (f_redeem A tx x1).1 ∧ (f_redeem A tx x1).1 ≤ 9999 := f_redeem_b hb
    generalize hf : f_redeem A tx x1 = f at *
    refine x_iconst dX0_playClause_130 ?_
    refine x_icmp_eq 138 dX0_playClause_131 (by decide) ⟨(by omega), (by omega)⟩ (fun w131 => ?_) (fun w131 => ?_)
    · refine x_iconst dX0_playClause_138 ?_
      exact x_zreturn (by omega) dX0_playClause_139 rfl (by omega) (by omega) (by first | (rw [if_pos (by omega)] at hp; first | (rw [if_pos (by omega)] at hp; exact hp _ h106 F106) | (rw [if_neg (by omega)] at hp; exact hp _ h106 F106)) | (rw [if_neg (by omega), if_pos (by omega)] at hp; exact hp _ h121 hF121.c) | (rw [if_neg (by omega), if_neg (by omega), if_pos (by omega)] at hp; first | (rw [if_pos (by omega)] at hp; exact hp _ h127 hF127) | (rw [if_neg (by omega)] at hp; exact hp _ h127 hF127)) | (rw [if_neg (by omega), if_neg (by omega), if_neg (by omega), if_pos (by omega)] at hp; exact hp _ h142 hF142.c) | (rw [if_neg (by omega), if_neg (by omega), if_neg (by omega), if_neg (by omega), if_pos (by omega)] at hp; exact hp _ h148 hF148) | (rw [if_neg (by omega), if_neg (by omega), if_neg (by omega), if_neg (by omega), if_neg (by omega)] at hp; exact hp _ hv Fc.rf))
    · refine x_iconst dX0_playClause_134 ?_
      refine x_goto 139 dX0_playClause_135 (by decide) ?_
      exact x_zreturn (by omega) dX0_playClause_139 rfl (by omega) (by omega) (by first | (rw [if_pos (by omega)] at hp; first | (rw [if_pos (by omega)] at hp; exact hp _ h106 F106) | (rw [if_neg (by omega)] at hp; exact hp _ h106 F106)) | (rw [if_neg (by omega), if_pos (by omega)] at hp; exact hp _ h121 hF121.c) | (rw [if_neg (by omega), if_neg (by omega), if_pos (by omega)] at hp; first | (rw [if_pos (by omega)] at hp; exact hp _ h127 hF127) | (rw [if_neg (by omega)] at hp; exact hp _ h127 hF127)) | (rw [if_neg (by omega), if_neg (by omega), if_neg (by omega), if_pos (by omega)] at hp; exact hp _ h142 hF142.c) | (rw [if_neg (by omega), if_neg (by omega), if_neg (by omega), if_neg (by omega), if_pos (by omega)] at hp; exact hp _ h148 hF148) | (rw [if_neg (by omega), if_neg (by omega), if_neg (by omega), if_neg (by omega), if_neg (by omega)] at hp; exact hp _ hv Fc.rf))
  by_cases t13_14 : x0 = 142
  · refine x_tableIn 140 dX0_playClause_13 (by omega) (by omega) (by rw [t13_14]; rfl) (by decide) ?_
    refine x_aload_n dX0_playClause_140 rfl ?_
    refine x_iload_n dX0_playClause_141 rfl ?_
    refine x_callV1 (mc1 := 0) (ms1 := 0) dX0_playClause_142 cv_RX0_78 (ci := 0) (k_ob_282 cs) rfl (Nat.le_of_ble_eq_true rfl) (n1 := n - 1) (by omega) (by omega) (by omega) ?_
    refine sp_X0_earnByHand cs hc hb w1 (by omega) (fun I142 hI142 hF142 => ?_)
    have h142 := hv.w hF142 hI142 (BA_earn hb) f_earn_t
    have q142 : (f_earn A x1).1 = 0 ∨ (f_earn A x1).1 = 1 := by unfold f_earn; split <;> simp
    exact x_zreturn (by omega) dX0_playClause_145 rfl (by omega) (by omega) (by first | (rw [if_pos (by omega)] at hp; first | (rw [if_pos (by omega)] at hp; exact hp _ h106 F106) | (rw [if_neg (by omega)] at hp; exact hp _ h106 F106)) | (rw [if_neg (by omega), if_pos (by omega)] at hp; exact hp _ h121 hF121.c) | (rw [if_neg (by omega), if_neg (by omega), if_pos (by omega)] at hp; first | (rw [if_pos (by omega)] at hp; exact hp _ h127 hF127) | (rw [if_neg (by omega)] at hp; exact hp _ h127 hF127)) | (rw [if_neg (by omega), if_neg (by omega), if_neg (by omega), if_pos (by omega)] at hp; exact hp _ h142 hF142.c) | (rw [if_neg (by omega), if_neg (by omega), if_neg (by omega), if_neg (by omega), if_pos (by omega)] at hp; exact hp _ h148 hF148) | (rw [if_neg (by omega), if_neg (by omega), if_neg (by omega), if_neg (by omega), if_neg (by omega)] at hp; exact hp _ hv Fc.rf))
  refine x_tableOut 152 dX0_playClause_13 (by omega) (by omega) (by decide) ?_
  refine x_iconst dX0_playClause_152 ?_
  exact x_zreturn (by omega) dX0_playClause_153 rfl (by omega) (by omega) (by first | (rw [if_pos (by omega)] at hp; first | (rw [if_pos (by omega)] at hp; exact hp _ h106 F106) | (rw [if_neg (by omega)] at hp; exact hp _ h106 F106)) | (rw [if_neg (by omega), if_pos (by omega)] at hp; exact hp _ h121 hF121.c) | (rw [if_neg (by omega), if_neg (by omega), if_pos (by omega)] at hp; first | (rw [if_pos (by omega)] at hp; exact hp _ h127 hF127) | (rw [if_neg (by omega)] at hp; exact hp _ h127 hF127)) | (rw [if_neg (by omega), if_neg (by omega), if_neg (by omega), if_pos (by omega)] at hp; exact hp _ h142 hF142.c) | (rw [if_neg (by omega), if_neg (by omega), if_neg (by omega), if_neg (by omega), if_pos (by omega)] at hp; exact hp _ h148 hF148) | (rw [if_neg (by omega), if_neg (by omega), if_neg (by omega), if_neg (by omega), if_neg (by omega)] at hp; exact hp _ hv Fc.rf))
theorem dX11_played_0 : decode prog_1_method_12_code 0 = .ok (.aload_n 0, 1) := by decide +kernel
theorem dX11_played_1 : decode prog_1_method_12_code 1 = .ok (.getfield 10, 3) := by decide +kernel
theorem dX11_played_4 : decode prog_1_method_12_code 4 = .ok (.iload_n 1, 1) := by decide +kernel
theorem dX11_played_5 : decode prog_1_method_12_code 5 = .ok (.invokevirtual 110, 3) := by decide +kernel
theorem dX11_played_8 : decode prog_1_method_12_code 8 = .ok (.ifCond .ne 6, 3) := by decide +kernel
theorem dX11_played_11 : decode prog_1_method_12_code 11 = .ok (.bipush (-2), 2) := by decide +kernel
theorem dX11_played_13 : decode prog_1_method_12_code 13 = .ok (.ireturn, 1) := by decide +kernel
theorem dX11_played_14 : decode prog_1_method_12_code 14 = .ok (.aload_n 0, 1) := by decide +kernel
theorem dX11_played_15 : decode prog_1_method_12_code 15 = .ok (.getfield 10, 3) := by decide +kernel
theorem dX11_played_18 : decode prog_1_method_12_code 18 = .ok (.getfield 100, 3) := by decide +kernel
theorem dX11_played_21 : decode prog_1_method_12_code 21 = .ok (.iload_n 1, 1) := by decide +kernel
theorem dX11_played_22 : decode prog_1_method_12_code 22 = .ok (.aaload, 1) := by decide +kernel
theorem dX11_played_23 : decode prog_1_method_12_code 23 = .ok (.astore_n 2, 1) := by decide +kernel
theorem dX11_played_24 : decode prog_1_method_12_code 24 = .ok (.iconst 0, 1) := by decide +kernel
theorem dX11_played_25 : decode prog_1_method_12_code 25 = .ok (.istore_n 3, 1) := by decide +kernel
theorem dX11_played_26 : decode prog_1_method_12_code 26 = .ok (.iload_n 3, 1) := by decide +kernel
theorem dX11_played_27 : decode prog_1_method_12_code 27 = .ok (.aload_n 2, 1) := by decide +kernel
theorem dX11_played_28 : decode prog_1_method_12_code 28 = .ok (.getfield 140, 3) := by decide +kernel
theorem dX11_played_31 : decode prog_1_method_12_code 31 = .ok (.if_icmp .ge 23, 3) := by decide +kernel
theorem dX11_played_34 : decode prog_1_method_12_code 34 = .ok (.aload_n 0, 1) := by decide +kernel
theorem dX11_played_35 : decode prog_1_method_12_code 35 = .ok (.getfield 33, 3) := by decide +kernel
theorem dX11_played_38 : decode prog_1_method_12_code 38 = .ok (.aload_n 2, 1) := by decide +kernel
theorem dX11_played_39 : decode prog_1_method_12_code 39 = .ok (.iload_n 3, 1) := by decide +kernel
theorem dX11_played_40 : decode prog_1_method_12_code 40 = .ok (.invokevirtual 145, 3) := by decide +kernel
theorem dX11_played_43 : decode prog_1_method_12_code 43 = .ok (.ifCond .ne 5, 3) := by decide +kernel
theorem dX11_played_46 : decode prog_1_method_12_code 46 = .ok (.iload_n 3, 1) := by decide +kernel
theorem dX11_played_47 : decode prog_1_method_12_code 47 = .ok (.ireturn, 1) := by decide +kernel
theorem dX11_played_48 : decode prog_1_method_12_code 48 = .ok (.iinc 3 1, 3) := by decide +kernel
theorem dX11_played_51 : decode prog_1_method_12_code 51 = .ok (.goto (-25), 3) := by decide +kernel
theorem dX11_played_54 : decode prog_1_method_12_code 54 = .ok (.iconst (-1), 1) := by decide +kernel
theorem dX11_played_55 : decode prog_1_method_12_code 55 = .ok (.ireturn, 1) := by decide +kernel
def TB (A : Nat → Int) (tx : Nat → Nat → Int) : Prop := ∀ t : Nat, (t : Int) < A 1 → ∀ i : Nat, (i : Int) < 4 * tx t 0 → 0 ≤ tx t (6 + i) ∧ tx t (6 + i) ≤ 9999
theorem f_clause_01 {x : Nat → Int} {i : Nat} : (f_clause A tx x i).1 = 0 ∨ (f_clause A tx x i).1 = 1 := by
  unfold f_clause f_pawn f_earn
  have := pdA_2 (A := A) (tx := tx) (x (6 + (4 * i + 1))).toNat
  (repeat' split) <;> first | exact this | simp
theorem lp_X11_played {t : Int} {id : Nat} {x : Nat → Int} (cs : CS S R) (hid : 325 ≤ id) (ho : OB S id 8) (hr : R id 1 = some (id + 2)) (ha : AR S (id + 2) 13 (4 * (x 0).toNat)) (hx : 0 ≤ x 0 ∧ x 0 ≤ 24) (he : ∀ i : Nat, (i : Int) < 4 * x 0 → I (id + 2) i = x (6 + i)) (h2 : I id 2 = x 0) (hB : ∀ i : Nat, (i : Int) < 4 * x 0 → 0 ≤ x (6 + i) ∧ x (6 + i) ≤ 9999) (hn : 7 ≤ n) (hp : ∀ I', CIv S R I' (plL tx x (x 0).toNat 0 A).2 tx → Fc I I' → Post (some (.int (iI (plL tx x (x 0).toNat 0 A).1))) S I' R) : ∀ (d i : Nat) (B : Nat → Int) (J : CI), (i : Int) + (d : Int) = x 0 → CIv S R J B tx → Fc I J → plL tx x d i B = plL tx x (x 0).toNat 0 A → WP n 0 0 mX11_played Post 26 [(0, .ref (S.2.1 0)), (1, .int (iI t)), (2, .ref (S.2.1 id)), (3, .int (iI (i : Int)))] [] 0 0 S J R := by
  intro d
  induction d with
  | zero =>
    intro i B J k1 hv hF hpl
    have e2 : J id 2 = x 0 := by rw [hF id (by omega) (by omega) (by omega)]; exact h2
    rw [← hpl] at hp
    refine x_iload_n dX11_played_26 rfl ?_
    refine x_aload_n dX11_played_27 rfl ?_
    refine x_getIv (z := x 0) dX11_played_28 gf_RX11_140 ho (fun _ _ => rfl) e2 ?_
    refine x_icmp_ge 54 dX11_played_31 (by decide) ⟨(by omega), (by omega)⟩ (fun w31 => ?_) (fun w31 => ?_)
    · refine x_iconst dX11_played_54 ?_
      exact x_ireturn dX11_played_55 rfl (by omega) (by omega) (hp _ hv hF)
    · exfalso; omega
  | succ d ih =>
    intro i B J k1 hv hF hpl
    have e2 : J id 2 = x 0 := by rw [hF id (by omega) (by omega) (by omega)]; exact h2
    simp only [plL] at hpl
    have q01 := f_clause_01 (A := B) (tx := tx) (x := x) (i := i)
    refine x_iload_n dX11_played_26 rfl ?_
    refine x_aload_n dX11_played_27 rfl ?_
    refine x_getIv (z := x 0) dX11_played_28 gf_RX11_140 ho (fun _ _ => rfl) e2 ?_
    refine x_icmp_ge 54 dX11_played_31 (by decide) ⟨(by omega), (by omega)⟩ (fun w31 => ?_) (fun w31 => ?_)
    · exfalso; omega
    · refine x_aload_n dX11_played_34 rfl ?_
      refine x_getR (b := 282) dX11_played_35 gf_RX11_33 (k_ob_0 cs) (fun _ _ => rfl) (k_r_0_3 cs) ?_
      refine x_aload_n dX11_played_38 rfl ?_
      refine x_iload_n dX11_played_39 rfl ?_
      refine x_callV2 (mc1 := 0) (ms1 := 0) dX11_played_40 cv_RX11_145 (ci := 0) (k_ob_282 cs) rfl (Nat.le_of_ble_eq_true rfl) (n1 := n - 1) (by omega) (by omega) (by omega) ?_
      refine sp_X0_playClause cs hv hid ho hr ha hx (fun z hz => by rw [hF (id + 2) (by omega) (by omega) (by omega)]; exact he z hz) (by omega) hB (by omega) (fun I40 hv40 hF40 => ?_)
      refine x_if_ne 48 dX11_played_43 (by decide) (by omega) (fun w43 => ?_) (fun w43 => ?_)
      · refine x_iinc (lv2 := [(3, _), (0, _), (1, _), (2, _)]) dX11_played_48 rfl (by decide) rfl ?_
        refine x_goto 26 dX11_played_51 (by decide) ?_
        refine x_sub [1, 2, 3, 0] rfl ?_
        rw [if_neg (by omega)] at hpl
        exact ih (i + 1) _ I40 (by omega) hv40 (hF.tr hF40) hpl
      · refine x_iload_n dX11_played_46 rfl ?_
        exact x_ireturn dX11_played_47 rfl (by omega) (by omega) (by rw [if_pos (by omega)] at hpl; rw [← hpl] at hp; exact hp _ hv40 (hF.tr hF40))
theorem sp_X11_played {t : Int} (cs : CS S R) (hv : CIv S R I A tx) (hTB : TB A tx) (ht : Rg t) (hn : 7 ≤ n) (hp : ∀ I', CIv S R I' (f_played A tx t).2 tx → Fc I I' → Post (some (.int (iI (f_played A tx t).1))) S I' R) : Call n 0 0 mX11_played [.ref (S.2.1 0), .int (iI t)] S I R Post := by
  obtain ⟨hc, hb, hw, hk⟩ := id hv
  obtain ⟨⟨⟨c0, c7, c8, c9, c10, c11⟩, cq⟩, ⟨⟨t1, t2, t3, t4, t5, t6, t7, t8, t9⟩, tq, th, tb, ts, td⟩, cb, cp⟩ := id hc
  dsimp only [Nat.reduceAdd] at c0 c7 c8 c9 c10 c11 cq t1 t2 t3 t4 t5 t6 t7 t8 t9 tq th tb ts td
  obtain ⟨⟨b0, b1, b2, b3, b4, bq, bl⟩, ⟨d1, d2, d3, d4, d5, d6, d7⟩, dq, dh, db, ds, dd, dp⟩ := id hb
  have b7 : 0 ≤ A 7 ∧ A 7 ≤ 9999 := b1
  have b8 : 0 ≤ A 8 ∧ A 8 ≤ 30870 := b2
  have b9 : 0 ≤ A 9 ∧ A 9 ≤ 9999 := b3
  have b10 : 0 ≤ A 10 ∧ A 10 ≤ 1 := b4
  have b11 : 0 ≤ A 11 ∧ A 11 ≤ 16 := by have h1 := lns_b (fun q => A (6 + 6 + 3 * q)) (A 0).toNat; have h2 : A 11 = _ := bl; omega
  refine Call.of (by decide +kernel) (Nat.le_of_ble_eq_true rfl) ?_
  show WP _ _ _ _ _ 0 [(0, _), (1, _)] [] 0 0 _ _ _
  refine x_aload_n dX11_played_0 rfl ?_
  refine x_getR (b := 1) dX11_played_1 gf_RX11_10 (k_ob_0 cs) (fun _ _ => rfl) (k_r_0_0 cs) ?_
  refine x_iload_n dX11_played_4 rfl ?_
  refine x_callV1 (mc1 := 0) (ms1 := 0) dX11_played_5 cv_RX11_110 (ci := 10) (k_ob_1 cs) rfl (Nat.le_of_ble_eq_true rfl) (n1 := n - 1) (by omega) (by omega) (by omega) ?_
  refine sp_X10_hasText cs hc hb hw ht (fun r5 hr5 => ?_)
  refine x_if_ne 14 dX11_played_8 (by decide) (by omega) (fun w8 => ?_) (fun w8 => ?_)
  · obtain ⟨id, hi12, hX, hTV⟩ := hw t.toNat (by omega)
    refine x_aload_n dX11_played_14 rfl ?_
    refine x_getR (b := 1) dX11_played_15 gf_RX11_10 (k_ob_0 cs) (fun _ _ => rfl) (k_r_0_0 cs) ?_
    refine x_getR (b := 12) dX11_played_18 gf_RX11_100 (k_ob_1 cs) (fun _ _ => rfl) (k_r_1_7 cs) ?_
    refine x_iload_n dX11_played_21 rfl ?_
    refine x_aaload_t dX11_played_22 (k_ar_12 cs) (by omega) (v := .ref (S.2.1 id)) (by rw [hi12]; rfl) (by omega) ?_
    refine x_astore_n (lv2 := [(2, _), (0, _), (1, _)]) dX11_played_23 (by decide) rfl ?_
    refine x_iconst dX11_played_24 ?_
    refine x_istore_n (lv2 := [(3, _), (2, _), (0, _), (1, _)]) dX11_played_25 (by decide) rfl ?_
    refine x_sub [2, 3, 1, 0] rfl ?_
    obtain ⟨x0, x5, x6, x7, x8, x9, xa, xb, ⟨xc, -⟩, xe, xf⟩ := hX
    rw [show f_played A tx t = plL tx (tx t.toNat) (tx t.toNat 0).toNat 0 A from if_pos (by omega)] at hp
    exact lp_X11_played cs x0 x5 x7 xb x8 xf xc (hTB t.toNat (by omega)) hn hp (tx t.toNat 0).toNat 0 A I (by omega) hv Fc.rf rfl
  · refine x_bipush dX11_played_11 (by decide) ?_
    exact x_ireturn dX11_played_13 rfl (by omega) (by omega) (by rw [show f_played A tx t = (-2, A) from if_neg (by omega)] at hp; exact hp _ hv Fc.rf)
end Cls12
