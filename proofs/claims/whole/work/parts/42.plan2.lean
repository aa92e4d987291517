section Plan2
variable {n : Nat} {Post : PT} {S : Sh} {I : CI} {R : CR} {A : Nat → Int} {tx : Nat → Nat → Int}
/-- the best yet: days, paid; the order tried, the best order -/
abbrev PSt : Type := Int × Int × (Nat → Int) × (Nat → Int)
def puP (A : Nat → Int) (d : Int) (paid : Int) : Int := A 9 + A 114 * d - paid
theorem puP_b (hb : BA A) {d paid : Int} (hd : 0 ≤ d ∧ d ≤ 60) (hp : 0 ≤ paid ∧ paid ≤ 60000) : -60000 ≤ puP A d paid ∧ puP A d paid ≤ 16000 := by
  have h9 : 0 ≤ A 9 ∧ A 9 ≤ 9999 := hb.1.2.2.2.1
  have h14 := hb.2.1.2.2.2.2.2.2
  have m1 : 0 ≤ A 114 * d := Int.mul_nonneg h14.1 hd.1
  have m2 : A 114 * d ≤ 99 * 60 := Int.mul_le_mul h14.2 hd.2 hd.1 (by omega)
  unfold puP
  omega
def fdL (A : Nat → Int) (tx : Nat → Nat → Int) (q : Nat) (paid bd : Int) : Nat → Int → Int
  | 0, _ => -1
  | f + 1, d => if d ≤ bd then (if duesP A tx (A 2) q d (puP A d paid) ≤ puP A d paid then d else fdL A tx q paid bd f (d + 1)) else -1
theorem fdL_b {q : Nat} {paid bd : Int} : ∀ (f : Nat) (d : Int), 0 ≤ d → fdL A tx q paid bd f d = -1 ∨ (d ≤ fdL A tx q paid bd f d ∧ fdL A tx q paid bd f d < d + f) := by
  intro f
  induction f with
  | zero => intro d _; exact Or.inl rfl
  | succ f ih =>
    intro d hd
    simp only [fdL]
    split
    · split
      · right; omega
      · have := ih (d + 1) (by omega); omega
    · exact Or.inl rfl
def keepB (s : PSt) (cnt : Nat) (days paid : Int) : PSt := if days < s.1 ∨ (days = s.1 ∧ paid < s.2.1) then (days, paid, s.2.2.1, fun k => if k < cnt then s.2.2.1 k else s.2.2.2 k) else s
def itS (g : PSt → Nat → PSt) : Nat → PSt → PSt
  | 0, s => s
  | k + 1, s => g (itS g k s) k
def tryN (A : Nat → Int) (tx : Nat → Nat → Int) : Nat → Nat → Nat → Int → Int → PSt → PSt
  | 0, dep, left, days, paid, s => if left = 0 then keepB s dep days paid else s
  | f + 1, dep, left, days, paid, s => if left = 0 then keepB s dep days paid else itS (fun s i => if left.testBit i then (if fdL A tx i paid s.1 (61 - days).toNat days = -1 then s else tryN A tx f (dep + 1) (sdN left (2 ^ i)) (fdL A tx i paid s.1 (61 - days).toNat days) (paid + duesP A tx (A 2) i (fdL A tx i paid s.1 (61 - days).toNat days) (puP A (fdL A tx i paid s.1 (61 - days).toNat days) paid)) (s.1, s.2.1, upA s.2.2.1 dep i, s.2.2.2)) else s) 8 s
def PRel (I : CI) (s : PSt) : Prop := (I 295 1 = s.1 ∧ I 295 2 = s.2.1 ∧ I 297 = s.2.2.1 ∧ I 296 = s.2.2.2) ∧ (0 ≤ s.1 ∧ s.1 ≤ 61) ∧ (0 ≤ s.2.1 ∧ s.2.1 ≤ 60000)
theorem PRel.l {I I' : CI} {s : PSt} (h : PRel I s) (hF : Fl I I') : PRel I' s := by
  unfold PRel at *
  rw [hF 295 (by omega) (by omega), hF 296 (by omega) (by omega), hF 297 (by omega) (by omega)]
  exact h
theorem dX4_purseOn_0 : decode prog_6_method_13_code 0 = .ok (.aload_n 0, 1) := by decide +kernel
theorem dX4_purseOn_1 : decode prog_6_method_13_code 1 = .ok (.getfield 21, 3) := by decide +kernel
theorem dX4_purseOn_4 : decode prog_6_method_13_code 4 = .ok (.getfield 33, 3) := by decide +kernel
theorem dX4_purseOn_7 : decode prog_6_method_13_code 7 = .ok (.getfield 53, 3) := by decide +kernel
theorem dX4_purseOn_10 : decode prog_6_method_13_code 10 = .ok (.aload_n 0, 1) := by decide +kernel
theorem dX4_purseOn_11 : decode prog_6_method_13_code 11 = .ok (.getfield 21, 3) := by decide +kernel
theorem dX4_purseOn_14 : decode prog_6_method_13_code 14 = .ok (.getfield 113, 3) := by decide +kernel
theorem dX4_purseOn_17 : decode prog_6_method_13_code 17 = .ok (.getfield 117, 3) := by decide +kernel
theorem dX4_purseOn_20 : decode prog_6_method_13_code 20 = .ok (.iload_n 1, 1) := by decide +kernel
theorem dX4_purseOn_21 : decode prog_6_method_13_code 21 = .ok (.imul, 1) := by decide +kernel
theorem dX4_purseOn_22 : decode prog_6_method_13_code 22 = .ok (.iadd, 1) := by decide +kernel
theorem dX4_purseOn_23 : decode prog_6_method_13_code 23 = .ok (.iload_n 2, 1) := by decide +kernel
theorem dX4_purseOn_24 : decode prog_6_method_13_code 24 = .ok (.isub, 1) := by decide +kernel
theorem dX4_purseOn_25 : decode prog_6_method_13_code 25 = .ok (.ireturn, 1) := by decide +kernel
theorem sp_X4_purseOn {d p : Int} (cs : CS S R) (hc : ClW I 1 A) (hp : Post (some (.int (iI (puP A d p)))) S I R) : Call n 0 0 mX4_purseOn [.ref (S.2.1 295), .int (iI d), .int (iI p)] S I R Post := by
  have c9 : A 9 = I 6 4 := hc.1.1.2.2.2.1
  have t7 : A 114 = I 13 6 := hc.2.1.1.2.2.2.2.2.2.1
  unfold puP at hp
  refine Call.of (by decide +kernel) (Nat.le_of_ble_eq_true rfl) ?_
  show WP _ _ _ _ _ 0 [(0, _), (1, _), (2, _)] [] 0 0 _ _ _
  refine x_aload_n dX4_purseOn_0 rfl ?_
  refine x_getR (b := 1) dX4_purseOn_1 gf_RX4_21 (k_ob_295 cs) (fun _ _ => rfl) (k_r_295_3 cs) ?_
  refine x_getR (b := 6) dX4_purseOn_4 gf_RX4_33 (k_ob_1 cs) (fun _ _ => rfl) (k_r_1_4 cs) ?_
  refine x_getIv (z := A 9) dX4_purseOn_7 gf_RX4_53 (k_ob_6 cs) (fun _ _ => rfl) (by first | exact c9.symm | exact t7.symm) ?_
  refine x_aload_n dX4_purseOn_10 rfl ?_
  refine x_getR (b := 1) dX4_purseOn_11 gf_RX4_21 (k_ob_295 cs) (fun _ _ => rfl) (k_r_295_3 cs) ?_
  refine x_getR (b := 13) dX4_purseOn_14 gf_RX4_113 (k_ob_1 cs) (fun _ _ => rfl) (k_r_1_8 cs) ?_
  refine x_getIv (z := A 114) dX4_purseOn_17 gf_RX4_117 (k_ob_13 cs) (fun _ _ => rfl) (by first | exact c9.symm | exact t7.symm) ?_
  refine x_iload_n dX4_purseOn_20 rfl ?_
  refine x_imul dX4_purseOn_21 ?_
  refine x_iadd dX4_purseOn_22 ?_
  refine x_iload_n dX4_purseOn_23 rfl ?_
  refine x_isub dX4_purseOn_24 ?_
  exact x_ireturn dX4_purseOn_25 rfl (by omega) (by omega) (hp)
theorem dX4_firstDay_0 : decode prog_6_method_12_code 0 = .ok (.iload_n 2, 1) := by decide +kernel
theorem dX4_firstDay_1 : decode prog_6_method_12_code 1 = .ok (.istore 4, 2) := by decide +kernel
theorem dX4_firstDay_3 : decode prog_6_method_12_code 3 = .ok (.iload 4, 2) := by decide +kernel
theorem dX4_firstDay_5 : decode prog_6_method_12_code 5 = .ok (.bipush 60, 2) := by decide +kernel
theorem dX4_firstDay_7 : decode prog_6_method_12_code 7 = .ok (.if_icmp .gt 54, 3) := by decide +kernel
theorem dX4_firstDay_10 : decode prog_6_method_12_code 10 = .ok (.iload 4, 2) := by decide +kernel
theorem dX4_firstDay_12 : decode prog_6_method_12_code 12 = .ok (.aload_n 0, 1) := by decide +kernel
theorem dX4_firstDay_13 : decode prog_6_method_12_code 13 = .ok (.getfield 78, 3) := by decide +kernel
theorem dX4_firstDay_16 : decode prog_6_method_12_code 16 = .ok (.if_icmp .gt 45, 3) := by decide +kernel
theorem dX4_firstDay_19 : decode prog_6_method_12_code 19 = .ok (.aload_n 0, 1) := by decide +kernel
theorem dX4_firstDay_20 : decode prog_6_method_12_code 20 = .ok (.iload 4, 2) := by decide +kernel
theorem dX4_firstDay_22 : decode prog_6_method_12_code 22 = .ok (.iload_n 3, 1) := by decide +kernel
theorem dX4_firstDay_23 : decode prog_6_method_12_code 23 = .ok (.invokevirtual 99, 3) := by decide +kernel
theorem dX4_firstDay_26 : decode prog_6_method_12_code 26 = .ok (.istore 5, 2) := by decide +kernel
theorem dX4_firstDay_28 : decode prog_6_method_12_code 28 = .ok (.iload 5, 2) := by decide +kernel
theorem dX4_firstDay_30 : decode prog_6_method_12_code 30 = .ok (.aload_n 0, 1) := by decide +kernel
theorem dX4_firstDay_31 : decode prog_6_method_12_code 31 = .ok (.getfield 25, 3) := by decide +kernel
theorem dX4_firstDay_34 : decode prog_6_method_12_code 34 = .ok (.aload_n 0, 1) := by decide +kernel
theorem dX4_firstDay_35 : decode prog_6_method_12_code 35 = .ok (.getfield 21, 3) := by decide +kernel
theorem dX4_firstDay_38 : decode prog_6_method_12_code 38 = .ok (.getfield 96, 3) := by decide +kernel
theorem dX4_firstDay_41 : decode prog_6_method_12_code 41 = .ok (.iload_n 1, 1) := by decide +kernel
theorem dX4_firstDay_42 : decode prog_6_method_12_code 42 = .ok (.iload 4, 2) := by decide +kernel
theorem dX4_firstDay_44 : decode prog_6_method_12_code 44 = .ok (.iload 5, 2) := by decide +kernel
theorem dX4_firstDay_46 : decode prog_6_method_12_code 46 = .ok (.invokevirtual 103, 3) := by decide +kernel
theorem dX4_firstDay_49 : decode prog_6_method_12_code 49 = .ok (.if_icmp .lt 6, 3) := by decide +kernel
theorem dX4_firstDay_52 : decode prog_6_method_12_code 52 = .ok (.iload 4, 2) := by decide +kernel
theorem dX4_firstDay_54 : decode prog_6_method_12_code 54 = .ok (.ireturn, 1) := by decide +kernel
theorem dX4_firstDay_55 : decode prog_6_method_12_code 55 = .ok (.iinc 4 1, 3) := by decide +kernel
theorem dX4_firstDay_58 : decode prog_6_method_12_code 58 = .ok (.goto (-55), 3) := by decide +kernel
theorem dX4_firstDay_61 : decode prog_6_method_12_code 61 = .ok (.iconst (-1), 1) := by decide +kernel
theorem dX4_firstDay_62 : decode prog_6_method_12_code 62 = .ok (.ireturn, 1) := by decide +kernel
theorem lp_X4_firstDay {q fr pd bd : Int} (cs : CS S R) (hq : 0 ≤ q ∧ q < 8) (hf : 0 ≤ fr ∧ fr ≤ 60) (hpd : 0 ≤ pd ∧ pd ≤ 60000) (hbd : I 295 1 = bd ∧ 0 ≤ bd ∧ bd ≤ 61) (hn : 4 ≤ n) (hp : ∀ I', Fl I I' → SK I' → Post (some (.int (iI (fdL A tx q.toNat pd bd (61 - fr).toNat fr)))) S I' R) : ∀ (f : Nat) (d : Int) (J : CI), fr ≤ d → d + f = 61 → CIv S R J A tx → Fl I J → fdL A tx q.toNat pd bd f d = fdL A tx q.toNat pd bd (61 - fr).toNat fr → WP n 0 0 mX4_firstDay Post 3 [(0, .ref (S.2.1 295)), (1, .int (iI q)), (2, .int (iI fr)), (3, .int (iI pd)), (4, .int (iI d))] [] 0 0 S J R := by
  intro f
  induction f with
  | zero =>
    intro d J h1 h2 hv hF he
    rw [← he] at hp
    refine x_iload dX4_firstDay_3 rfl ?_
    refine x_bipush dX4_firstDay_5 (by decide) ?_
    refine x_icmp_gt 61 dX4_firstDay_7 (by decide) ⟨(by omega), (by omega)⟩ (fun w7 => ?_) (fun w7 => ?_)
    · refine x_iconst dX4_firstDay_61 ?_
      exact x_ireturn dX4_firstDay_62 rfl (by omega) (by omega) (hp _ hF hv.2.2.2)
    · exfalso; omega
  | succ f ih =>
    intro d J h1 h2 hv hF he
    obtain ⟨hc, hb, hw, hk⟩ := id hv
    obtain ⟨⟨⟨c0, c7, c8, c9, c10, c11⟩, cq⟩, ⟨⟨t1, t2, t3, t4, t5, t6, t7, t8, t9⟩, tq, th, tb, ts, td⟩, cb, cp⟩ := id hc
    dsimp only [Nat.reduceAdd] at c0 c7 c8 c9 c10 c11 cq t1 t2 t3 t4 t5 t6 t7 t8 t9 tq th tb ts td
    obtain ⟨⟨b0, b1, b2, b3, b4, bq, bl⟩, ⟨d1, d2, d3, d4, d5, d6, d7⟩, dq, dh, db, ds, dd, dp⟩ := id hb
    have b7 : 0 ≤ A 7 ∧ A 7 ≤ 9999 := b1
    have b8 : 0 ≤ A 8 ∧ A 8 ≤ 30870 := b2
    have b9 : 0 ≤ A 9 ∧ A 9 ≤ 9999 := b3
    have b10 : 0 ≤ A 10 ∧ A 10 ≤ 1 := b4
    have b11 : 0 ≤ A 11 ∧ A 11 ≤ 16 := by have h1 := lns_b (fun q => A (6 + 6 + 3 * q)) (A 0).toNat; have h2 : A 11 = _ := bl; omega
    have eb : J 295 1 = bd := by rw [hF 295 (by omega) (by omega)]; exact hbd.1
    have hpu := puP_b hb (d := d) (paid := pd) (by omega) hpd
    have hdu := duesP_b A tx (A 2) q.toNat d (puP A d pd)
    simp only [fdL] at he
    refine x_iload dX4_firstDay_3 rfl ?_
    refine x_bipush dX4_firstDay_5 (by decide) ?_
    refine x_icmp_gt 61 dX4_firstDay_7 (by decide) ⟨(by omega), (by omega)⟩ (fun w7 => ?_) (fun w7 => ?_)
    · exfalso; omega
    · refine x_iload dX4_firstDay_10 rfl ?_
      refine x_aload_n dX4_firstDay_12 rfl ?_
      refine x_getIv (z := bd) dX4_firstDay_13 gf_RX4_78 (k_ob_295 cs) (fun _ _ => rfl) (by first | exact eb | exact t2.symm) ?_
      refine x_icmp_gt 61 dX4_firstDay_16 (by decide) ⟨(by omega), (by omega)⟩ (fun w16 => ?_) (fun w16 => ?_)
      · refine x_iconst dX4_firstDay_61 ?_
        exact x_ireturn dX4_firstDay_62 rfl (by omega) (by omega) (by first | (rw [if_neg (by omega)] at he; rw [← he] at hp; exact hp _ hF hk) | (rw [if_pos (by omega), if_pos (by omega)] at he; rw [← he] at hp; exact hp _ (hF.tr hF46) hS46))
      · refine x_aload_n dX4_firstDay_19 rfl ?_
        refine x_iload dX4_firstDay_20 rfl ?_
        refine x_iload_n dX4_firstDay_22 rfl ?_
        refine x_callV2 (mc1 := 0) (ms1 := 0) dX4_firstDay_23 cv_RX4_99 (ci := 4) (k_ob_295 cs) rfl (Nat.le_of_ble_eq_true rfl) (n1 := n - 1) (by omega) (by omega) (by omega) ?_
        refine sp_X4_purseOn cs hc ?_
        refine x_istore (lv2 := [(5, _), (0, _), (1, _), (2, _), (3, _), (4, _)]) dX4_firstDay_26 (by decide) rfl ?_
        refine x_iload dX4_firstDay_28 rfl ?_
        refine x_aload_n dX4_firstDay_30 rfl ?_
        refine x_getR (b := 279) dX4_firstDay_31 gf_RX4_25 (k_ob_295 cs) (fun _ _ => rfl) (k_r_295_4 cs) ?_
        refine x_aload_n dX4_firstDay_34 rfl ?_
        refine x_getR (b := 1) dX4_firstDay_35 gf_RX4_21 (k_ob_295 cs) (fun _ _ => rfl) (k_r_295_3 cs) ?_
        refine x_getIv (z := A 2) dX4_firstDay_38 gf_RX4_96 (k_ob_1 cs) (fun _ _ => rfl) (by first | exact eb | exact t2.symm) ?_
        refine x_iload_n dX4_firstDay_41 rfl ?_
        refine x_iload dX4_firstDay_42 rfl ?_
        refine x_iload dX4_firstDay_44 rfl ?_
        refine x_callV4 (mc1 := 0) (ms1 := 0) dX4_firstDay_46 cv_RX4_103 (ci := 3) (k_ob_279 cs) rfl (Nat.le_of_ble_eq_true rfl) (n1 := n - 1) (by omega) (by omega) (by omega) ?_
        refine sp_X3_duesBy cs hc hb hw hk (by omega) (by omega) (by omega) (by omega) (by omega) (fun I46 hF46 hS46 => ?_)
        refine x_icmp_lt 55 dX4_firstDay_49 (by decide) ⟨(by omega), (by omega)⟩ (fun w49 => ?_) (fun w49 => ?_)
        · refine x_iinc (lv2 := [(4, _), (5, _), (0, _), (1, _), (2, _), (3, _)]) dX4_firstDay_55 rfl (by decide) rfl ?_
          refine x_goto 3 dX4_firstDay_58 (by decide) ?_
          refine x_sub [2, 3, 4, 5, 0] rfl ?_
          rw [if_pos (by omega), if_neg (by omega)] at he
          exact ih (d + 1) I46 (by omega) (by omega) (hv.l hF46 hS46) (hF.tr hF46) he
        · refine x_iload dX4_firstDay_52 rfl ?_
          exact x_ireturn dX4_firstDay_54 rfl (by omega) (by omega) (by first | (rw [if_neg (by omega)] at he; rw [← he] at hp; exact hp _ hF hk) | (rw [if_pos (by omega), if_pos (by omega)] at he; rw [← he] at hp; exact hp _ (hF.tr hF46) hS46))
theorem sp_X4_firstDay {q fr pd bd : Int} (cs : CS S R) (hv : CIv S R I A tx) (hq : 0 ≤ q ∧ q < 8) (hf : 0 ≤ fr ∧ fr ≤ 60) (hpd : 0 ≤ pd ∧ pd ≤ 60000) (hbd : I 295 1 = bd ∧ 0 ≤ bd ∧ bd ≤ 61) (hn : 4 ≤ n) (hp : ∀ I', Fl I I' → SK I' → Post (some (.int (iI (fdL A tx q.toNat pd bd (61 - fr).toNat fr)))) S I' R) : Call n 0 0 mX4_firstDay [.ref (S.2.1 295), .int (iI q), .int (iI fr), .int (iI pd)] S I R Post := by
  refine Call.of (by decide +kernel) (Nat.le_of_ble_eq_true rfl) ?_
  show WP _ _ _ _ _ 0 [(0, _), (1, _), (2, _), (3, _)] [] 0 0 _ _ _
  refine x_iload_n dX4_firstDay_0 rfl ?_
  refine x_istore (lv2 := [(4, _), (0, _), (1, _), (2, _), (3, _)]) dX4_firstDay_1 (by decide) rfl ?_
  refine x_sub [1, 2, 3, 4, 0] rfl ?_
  exact lp_X4_firstDay cs hq hf hpd hbd hn hp _ fr I (by omega) (by omega) hv Fl.rf rfl
theorem cw_X4_107 : Cond.methodLink RX4 107 arraycopyName ∈ bigW ∧ Cond.native arraycopyName ∈ bigW ∧ Cond.static arraycopyName ∈ bigW ∧ Cond.initialized "java/lang/System" ∈ bigW := ⟨bw_in (lwt_5 (List.mem_of_getElem? (i := 215) rfl)) rfl, bw_in (lwt_2 (List.mem_of_getElem? (i := 196) rfl)) rfl, bw_in (lwt_2 (List.mem_of_getElem? (i := 195) rfl)) rfl, bw_in (lwt_1 (List.mem_of_getElem? (i := 12) rfl)) rfl⟩
theorem dX4_keepIfBetter_0 : decode prog_6_method_11_code 0 = .ok (.iload_n 2, 1) := by decide +kernel
theorem dX4_keepIfBetter_1 : decode prog_6_method_11_code 1 = .ok (.aload_n 0, 1) := by decide +kernel
theorem dX4_keepIfBetter_2 : decode prog_6_method_11_code 2 = .ok (.getfield 78, 3) := by decide +kernel
theorem dX4_keepIfBetter_5 : decode prog_6_method_11_code 5 = .ok (.if_icmp .lt 19, 3) := by decide +kernel
theorem dX4_keepIfBetter_8 : decode prog_6_method_11_code 8 = .ok (.iload_n 2, 1) := by decide +kernel
theorem dX4_keepIfBetter_9 : decode prog_6_method_11_code 9 = .ok (.aload_n 0, 1) := by decide +kernel
theorem dX4_keepIfBetter_10 : decode prog_6_method_11_code 10 = .ok (.getfield 78, 3) := by decide +kernel
theorem dX4_keepIfBetter_13 : decode prog_6_method_11_code 13 = .ok (.if_icmp .ne 35, 3) := by decide +kernel
theorem dX4_keepIfBetter_16 : decode prog_6_method_11_code 16 = .ok (.iload_n 3, 1) := by decide +kernel
theorem dX4_keepIfBetter_17 : decode prog_6_method_11_code 17 = .ok (.aload_n 0, 1) := by decide +kernel
theorem dX4_keepIfBetter_18 : decode prog_6_method_11_code 18 = .ok (.getfield 81, 3) := by decide +kernel
theorem dX4_keepIfBetter_21 : decode prog_6_method_11_code 21 = .ok (.if_icmp .ge 27, 3) := by decide +kernel
theorem dX4_keepIfBetter_24 : decode prog_6_method_11_code 24 = .ok (.aload_n 0, 1) := by decide +kernel
theorem dX4_keepIfBetter_25 : decode prog_6_method_11_code 25 = .ok (.iload_n 2, 1) := by decide +kernel
theorem dX4_keepIfBetter_26 : decode prog_6_method_11_code 26 = .ok (.putfield 78, 3) := by decide +kernel
theorem dX4_keepIfBetter_29 : decode prog_6_method_11_code 29 = .ok (.aload_n 0, 1) := by decide +kernel
theorem dX4_keepIfBetter_30 : decode prog_6_method_11_code 30 = .ok (.iload_n 3, 1) := by decide +kernel
theorem dX4_keepIfBetter_31 : decode prog_6_method_11_code 31 = .ok (.putfield 81, 3) := by decide +kernel
theorem dX4_keepIfBetter_34 : decode prog_6_method_11_code 34 = .ok (.aload_n 0, 1) := by decide +kernel
theorem dX4_keepIfBetter_35 : decode prog_6_method_11_code 35 = .ok (.getfield 15, 3) := by decide +kernel
theorem dX4_keepIfBetter_38 : decode prog_6_method_11_code 38 = .ok (.iconst 0, 1) := by decide +kernel
theorem dX4_keepIfBetter_39 : decode prog_6_method_11_code 39 = .ok (.aload_n 0, 1) := by decide +kernel
theorem dX4_keepIfBetter_40 : decode prog_6_method_11_code 40 = .ok (.getfield 9, 3) := by decide +kernel
theorem dX4_keepIfBetter_43 : decode prog_6_method_11_code 43 = .ok (.iconst 0, 1) := by decide +kernel
theorem dX4_keepIfBetter_44 : decode prog_6_method_11_code 44 = .ok (.iload_n 1, 1) := by decide +kernel
theorem dX4_keepIfBetter_45 : decode prog_6_method_11_code 45 = .ok (.invokestatic 107, 3) := by decide +kernel
theorem dX4_keepIfBetter_48 : decode prog_6_method_11_code 48 = .ok (.return_, 1) := by decide +kernel
theorem sp_X4_keepIfBetter {s : PSt} {cnt : Nat} {d pd : Int} (cs : CS S R) (hr : PRel I s) (hcnt : cnt ≤ 5) (hd : 0 ≤ d ∧ d ≤ 60) (hpd : 0 ≤ pd ∧ pd ≤ 60000) (hn : 1 ≤ n) (hp : ∀ I', Fp I I' → (∀ c, c ≠ 295 → c ≠ 296 → I' c = I c) → PRel I' (keepB s cnt d pd) → Post none S I' R) : Call n 0 0 mX4_keepIfBetter [.ref (S.2.1 295), .int (iI (cnt : Int)), .int (iI d), .int (iI pd)] S I R Post := by
  obtain ⟨⟨r1, r2, r3, r4⟩, r5, r6⟩ := id hr
  refine Call.of (by decide +kernel) (Nat.le_of_ble_eq_true rfl) ?_
  show WP _ _ _ _ _ 0 [(0, _), (1, _), (2, _), (3, _)] [] 0 0 _ _ _
  refine x_iload_n dX4_keepIfBetter_0 rfl ?_
  refine x_aload_n dX4_keepIfBetter_1 rfl ?_
  refine x_getIv (z := s.1) dX4_keepIfBetter_2 gf_RX4_78 (k_ob_295 cs) (fun _ _ => rfl) (by first | exact r1 | exact r2) ?_
  refine x_icmp_lt 24 dX4_keepIfBetter_5 (by decide) ⟨(by omega), (by omega)⟩ (fun w5 => ?_) (fun w5 => ?_)
  · refine x_aload_n dX4_keepIfBetter_24 rfl ?_
    refine x_iload_n dX4_keepIfBetter_25 rfl ?_
    refine x_putI dX4_keepIfBetter_26 gf_RX4_78 (k_ob_295 cs) rfl ?_
    refine x_aload_n dX4_keepIfBetter_29 rfl ?_
    refine x_iload_n dX4_keepIfBetter_30 rfl ?_
    refine x_putI dX4_keepIfBetter_31 gf_RX4_81 (k_ob_295 cs) rfl ?_
    refine x_aload_n dX4_keepIfBetter_34 rfl ?_
    refine x_getR (b := 297) dX4_keepIfBetter_35 gf_RX4_15 (k_ob_295 cs) (fun _ _ => rfl) (k_r_295_5 cs) ?_
    refine x_iconst dX4_keepIfBetter_38 ?_
    refine x_aload_n dX4_keepIfBetter_39 rfl ?_
    refine x_getR (b := 296) dX4_keepIfBetter_40 gf_RX4_9 (k_ob_295 cs) (fun _ _ => rfl) (k_r_295_0 cs) ?_
    refine x_iconst dX4_keepIfBetter_43 ?_
    refine x_iload_n dX4_keepIfBetter_44 rfl ?_
    refine x_copyi dX4_keepIfBetter_45 cw_X4_107 (by omega) (Nat.le_of_ble_eq_true rfl) (k_ar_297 cs) (k_ar_296 cs) (by omega) (by omega) (by omega) ?_
    exact x_return dX4_keepIfBetter_48 rfl (by omega) (by omega) (by
    first
      | (refine hp I Fp.rf (fun _ _ _ => rfl) ?_
         rw [show keepB s cnt d pd = s from if_neg (by omega)]; exact hr)
      | (refine hp _ (fun c h1 h2 h3 => by rw [cpI_row (by omega), uI_row (by omega), uI_row (by omega)]) (fun c h1 h2 => by rw [cpI_row h2, uI_row h1, uI_row h1]) ?_
         rw [show keepB s cnt d pd = (d, pd, s.2.2.1, fun k => if k < cnt then s.2.2.1 k else s.2.2.2 k) from if_pos (by omega)]
         refine ⟨⟨?_, ?_, ?_, ?_⟩, by dsimp only; omega, by dsimp only; omega⟩
         · rw [cpI_o (by omega), uI_o (by omega), uI_s]
         · rw [cpI_o (by omega), uI_s]
         · rw [cpI_row (by omega), uI_row (by omega), uI_row (by omega)]; exact r3
         · funext z
           show _ = if z < cnt then s.2.2.1 z else s.2.2.2 z
           by_cases hz : z < cnt
           · rw [if_pos hz, cpI_s (by omega), uI_o (by omega), uI_o (by omega), r3, show Int.toNat 0 + (z - Int.toNat 0) = z from Nat.zero_add z]
           · rw [if_neg hz, cpI_n (by omega), uI_o (by omega), uI_o (by omega), r4]))
  · refine x_iload_n dX4_keepIfBetter_8 rfl ?_
    refine x_aload_n dX4_keepIfBetter_9 rfl ?_
    refine x_getIv (z := s.1) dX4_keepIfBetter_10 gf_RX4_78 (k_ob_295 cs) (fun _ _ => rfl) (by first | exact r1 | exact r2) ?_
    refine x_icmp_ne 48 dX4_keepIfBetter_13 (by decide) ⟨(by omega), (by omega)⟩ (fun w13 => ?_) (fun w13 => ?_)
    · exact x_return dX4_keepIfBetter_48 rfl (by omega) (by omega) (by
    first
      | (refine hp I Fp.rf (fun _ _ _ => rfl) ?_
         rw [show keepB s cnt d pd = s from if_neg (by omega)]; exact hr)
      | (refine hp _ (fun c h1 h2 h3 => by rw [cpI_row (by omega), uI_row (by omega), uI_row (by omega)]) (fun c h1 h2 => by rw [cpI_row h2, uI_row h1, uI_row h1]) ?_
         rw [show keepB s cnt d pd = (d, pd, s.2.2.1, fun k => if k < cnt then s.2.2.1 k else s.2.2.2 k) from if_pos (by omega)]
         refine ⟨⟨?_, ?_, ?_, ?_⟩, by dsimp only; omega, by dsimp only; omega⟩
         · rw [cpI_o (by omega), uI_o (by omega), uI_s]
         · rw [cpI_o (by omega), uI_s]
         · rw [cpI_row (by omega), uI_row (by omega), uI_row (by omega)]; exact r3
         · funext z
           show _ = if z < cnt then s.2.2.1 z else s.2.2.2 z
           by_cases hz : z < cnt
           · rw [if_pos hz, cpI_s (by omega), uI_o (by omega), uI_o (by omega), r3, show Int.toNat 0 + (z - Int.toNat 0) = z from Nat.zero_add z]
           · rw [if_neg hz, cpI_n (by omega), uI_o (by omega), uI_o (by omega), r4]))
    · refine x_iload_n dX4_keepIfBetter_16 rfl ?_
      refine x_aload_n dX4_keepIfBetter_17 rfl ?_
      refine x_getIv (z := s.2.1) dX4_keepIfBetter_18 gf_RX4_81 (k_ob_295 cs) (fun _ _ => rfl) (by first | exact r1 | exact r2) ?_
      refine x_icmp_ge 48 dX4_keepIfBetter_21 (by decide) ⟨(by omega), (by omega)⟩ (fun w21 => ?_) (fun w21 => ?_)
      · exact x_return dX4_keepIfBetter_48 rfl (by omega) (by omega) (by
    first
      | (refine hp I Fp.rf (fun _ _ _ => rfl) ?_
         rw [show keepB s cnt d pd = s from if_neg (by omega)]; exact hr)
      | (refine hp _ (fun c h1 h2 h3 => by rw [cpI_row (by omega), uI_row (by omega), uI_row (by omega)]) (fun c h1 h2 => by rw [cpI_row h2, uI_row h1, uI_row h1]) ?_
         rw [show keepB s cnt d pd = (d, pd, s.2.2.1, fun k => if k < cnt then s.2.2.1 k else s.2.2.2 k) from if_pos (by omega)]
         refine ⟨⟨?_, ?_, ?_, ?_⟩, by dsimp only; omega, by dsimp only; omega⟩
         · rw [cpI_o (by omega), uI_o (by omega), uI_s]
         · rw [cpI_o (by omega), uI_s]
         · rw [cpI_row (by omega), uI_row (by omega), uI_row (by omega)]; exact r3
         · funext z
           show _ = if z < cnt then s.2.2.1 z else s.2.2.2 z
           by_cases hz : z < cnt
           · rw [if_pos hz, cpI_s (by omega), uI_o (by omega), uI_o (by omega), r3, show Int.toNat 0 + (z - Int.toNat 0) = z from Nat.zero_add z]
           · rw [if_neg hz, cpI_n (by omega), uI_o (by omega), uI_o (by omega), r4]))
      · refine x_aload_n dX4_keepIfBetter_24 rfl ?_
        refine x_iload_n dX4_keepIfBetter_25 rfl ?_
        refine x_putI dX4_keepIfBetter_26 gf_RX4_78 (k_ob_295 cs) rfl ?_
        refine x_aload_n dX4_keepIfBetter_29 rfl ?_
        refine x_iload_n dX4_keepIfBetter_30 rfl ?_
        refine x_putI dX4_keepIfBetter_31 gf_RX4_81 (k_ob_295 cs) rfl ?_
        refine x_aload_n dX4_keepIfBetter_34 rfl ?_
        refine x_getR (b := 297) dX4_keepIfBetter_35 gf_RX4_15 (k_ob_295 cs) (fun _ _ => rfl) (k_r_295_5 cs) ?_
        refine x_iconst dX4_keepIfBetter_38 ?_
        refine x_aload_n dX4_keepIfBetter_39 rfl ?_
        refine x_getR (b := 296) dX4_keepIfBetter_40 gf_RX4_9 (k_ob_295 cs) (fun _ _ => rfl) (k_r_295_0 cs) ?_
        refine x_iconst dX4_keepIfBetter_43 ?_
        refine x_iload_n dX4_keepIfBetter_44 rfl ?_
        refine x_copyi dX4_keepIfBetter_45 cw_X4_107 (by omega) (Nat.le_of_ble_eq_true rfl) (k_ar_297 cs) (k_ar_296 cs) (by omega) (by omega) (by omega) ?_
        exact x_return dX4_keepIfBetter_48 rfl (by omega) (by omega) (by
    first
      | (refine hp I Fp.rf (fun _ _ _ => rfl) ?_
         rw [show keepB s cnt d pd = s from if_neg (by omega)]; exact hr)
      | (refine hp _ (fun c h1 h2 h3 => by rw [cpI_row (by omega), uI_row (by omega), uI_row (by omega)]) (fun c h1 h2 => by rw [cpI_row h2, uI_row h1, uI_row h1]) ?_
         rw [show keepB s cnt d pd = (d, pd, s.2.2.1, fun k => if k < cnt then s.2.2.1 k else s.2.2.2 k) from if_pos (by omega)]
         refine ⟨⟨?_, ?_, ?_, ?_⟩, by dsimp only; omega, by dsimp only; omega⟩
         · rw [cpI_o (by omega), uI_o (by omega), uI_s]
         · rw [cpI_o (by omega), uI_s]
         · rw [cpI_row (by omega), uI_row (by omega), uI_row (by omega)]; exact r3
         · funext z
           show _ = if z < cnt then s.2.2.1 z else s.2.2.2 z
           by_cases hz : z < cnt
           · rw [if_pos hz, cpI_s (by omega), uI_o (by omega), uI_o (by omega), r3, show Int.toNat 0 + (z - Int.toNat 0) = z from Nat.zero_add z]
           · rw [if_neg hz, cpI_n (by omega), uI_o (by omega), uI_o (by omega), r4]))
theorem dX4_tryNext_0 : decode prog_6_method_10_code 0 = .ok (.iload_n 2, 1) := by decide +kernel
theorem dX4_tryNext_1 : decode prog_6_method_10_code 1 = .ok (.ifCond .ne 12, 3) := by decide +kernel
theorem dX4_tryNext_4 : decode prog_6_method_10_code 4 = .ok (.aload_n 0, 1) := by decide +kernel
theorem dX4_tryNext_5 : decode prog_6_method_10_code 5 = .ok (.iload_n 1, 1) := by decide +kernel
theorem dX4_tryNext_6 : decode prog_6_method_10_code 6 = .ok (.iload_n 3, 1) := by decide +kernel
theorem dX4_tryNext_7 : decode prog_6_method_10_code 7 = .ok (.iload 4, 2) := by decide +kernel
theorem dX4_tryNext_9 : decode prog_6_method_10_code 9 = .ok (.invokevirtual 88, 3) := by decide +kernel
theorem dX4_tryNext_12 : decode prog_6_method_10_code 12 = .ok (.return_, 1) := by decide +kernel
theorem dX4_tryNext_13 : decode prog_6_method_10_code 13 = .ok (.iload_n 1, 1) := by decide +kernel
theorem dX4_tryNext_14 : decode prog_6_method_10_code 14 = .ok (.iconst 5, 1) := by decide +kernel
theorem dX4_tryNext_15 : decode prog_6_method_10_code 15 = .ok (.if_icmp .lt 4, 3) := by decide +kernel
theorem dX4_tryNext_18 : decode prog_6_method_10_code 18 = .ok (.return_, 1) := by decide +kernel
theorem dX4_tryNext_19 : decode prog_6_method_10_code 19 = .ok (.iconst 0, 1) := by decide +kernel
theorem dX4_tryNext_20 : decode prog_6_method_10_code 20 = .ok (.istore 5, 2) := by decide +kernel
theorem dX4_tryNext_22 : decode prog_6_method_10_code 22 = .ok (.iload 5, 2) := by decide +kernel
theorem dX4_tryNext_24 : decode prog_6_method_10_code 24 = .ok (.bipush 8, 2) := by decide +kernel
theorem dX4_tryNext_26 : decode prog_6_method_10_code 26 = .ok (.if_icmp .ge 98, 3) := by decide +kernel
theorem dX4_tryNext_29 : decode prog_6_method_10_code 29 = .ok (.iload_n 2, 1) := by decide +kernel
theorem dX4_tryNext_30 : decode prog_6_method_10_code 30 = .ok (.iload 5, 2) := by decide +kernel
theorem dX4_tryNext_32 : decode prog_6_method_10_code 32 = .ok (.ishr, 1) := by decide +kernel
theorem dX4_tryNext_33 : decode prog_6_method_10_code 33 = .ok (.iconst 1, 1) := by decide +kernel
theorem dX4_tryNext_34 : decode prog_6_method_10_code 34 = .ok (.iand, 1) := by decide +kernel
theorem dX4_tryNext_35 : decode prog_6_method_10_code 35 = .ok (.iconst 1, 1) := by decide +kernel
theorem dX4_tryNext_36 : decode prog_6_method_10_code 36 = .ok (.if_icmp .ne 15, 3) := by decide +kernel
theorem dX4_tryNext_39 : decode prog_6_method_10_code 39 = .ok (.aload_n 0, 1) := by decide +kernel
theorem dX4_tryNext_40 : decode prog_6_method_10_code 40 = .ok (.iload 5, 2) := by decide +kernel
theorem dX4_tryNext_42 : decode prog_6_method_10_code 42 = .ok (.iload_n 3, 1) := by decide +kernel
theorem dX4_tryNext_43 : decode prog_6_method_10_code 43 = .ok (.iload 4, 2) := by decide +kernel
theorem dX4_tryNext_45 : decode prog_6_method_10_code 45 = .ok (.invokevirtual 92, 3) := by decide +kernel
theorem dX4_tryNext_48 : decode prog_6_method_10_code 48 = .ok (.goto 4, 3) := by decide +kernel
theorem dX4_tryNext_51 : decode prog_6_method_10_code 51 = .ok (.iconst (-1), 1) := by decide +kernel
theorem dX4_tryNext_52 : decode prog_6_method_10_code 52 = .ok (.istore 6, 2) := by decide +kernel
theorem dX4_tryNext_54 : decode prog_6_method_10_code 54 = .ok (.iload 6, 2) := by decide +kernel
theorem dX4_tryNext_56 : decode prog_6_method_10_code 56 = .ok (.iconst (-1), 1) := by decide +kernel
theorem dX4_tryNext_57 : decode prog_6_method_10_code 57 = .ok (.if_icmp .eq 61, 3) := by decide +kernel
theorem dX4_tryNext_60 : decode prog_6_method_10_code 60 = .ok (.aload_n 0, 1) := by decide +kernel
theorem dX4_tryNext_61 : decode prog_6_method_10_code 61 = .ok (.getfield 25, 3) := by decide +kernel
theorem dX4_tryNext_64 : decode prog_6_method_10_code 64 = .ok (.aload_n 0, 1) := by decide +kernel
theorem dX4_tryNext_65 : decode prog_6_method_10_code 65 = .ok (.getfield 21, 3) := by decide +kernel
theorem dX4_tryNext_68 : decode prog_6_method_10_code 68 = .ok (.getfield 96, 3) := by decide +kernel
theorem dX4_tryNext_71 : decode prog_6_method_10_code 71 = .ok (.iload 5, 2) := by decide +kernel
theorem dX4_tryNext_73 : decode prog_6_method_10_code 73 = .ok (.iload 6, 2) := by decide +kernel
theorem dX4_tryNext_75 : decode prog_6_method_10_code 75 = .ok (.aload_n 0, 1) := by decide +kernel
theorem dX4_tryNext_76 : decode prog_6_method_10_code 76 = .ok (.iload 6, 2) := by decide +kernel
theorem dX4_tryNext_78 : decode prog_6_method_10_code 78 = .ok (.iload 4, 2) := by decide +kernel
theorem dX4_tryNext_80 : decode prog_6_method_10_code 80 = .ok (.invokevirtual 99, 3) := by decide +kernel
theorem dX4_tryNext_83 : decode prog_6_method_10_code 83 = .ok (.invokevirtual 103, 3) := by decide +kernel
theorem dX4_tryNext_86 : decode prog_6_method_10_code 86 = .ok (.istore 7, 2) := by decide +kernel
theorem dX4_tryNext_88 : decode prog_6_method_10_code 88 = .ok (.aload_n 0, 1) := by decide +kernel
theorem dX4_tryNext_89 : decode prog_6_method_10_code 89 = .ok (.getfield 15, 3) := by decide +kernel
theorem dX4_tryNext_92 : decode prog_6_method_10_code 92 = .ok (.iload_n 1, 1) := by decide +kernel
theorem dX4_tryNext_93 : decode prog_6_method_10_code 93 = .ok (.iload 5, 2) := by decide +kernel
theorem dX4_tryNext_95 : decode prog_6_method_10_code 95 = .ok (.iastore, 1) := by decide +kernel
theorem dX4_tryNext_96 : decode prog_6_method_10_code 96 = .ok (.aload_n 0, 1) := by decide +kernel
theorem dX4_tryNext_97 : decode prog_6_method_10_code 97 = .ok (.iload_n 1, 1) := by decide +kernel
theorem dX4_tryNext_98 : decode prog_6_method_10_code 98 = .ok (.iconst 1, 1) := by decide +kernel
theorem dX4_tryNext_99 : decode prog_6_method_10_code 99 = .ok (.iadd, 1) := by decide +kernel
theorem dX4_tryNext_100 : decode prog_6_method_10_code 100 = .ok (.iload_n 2, 1) := by decide +kernel
theorem dX4_tryNext_101 : decode prog_6_method_10_code 101 = .ok (.iconst 1, 1) := by decide +kernel
theorem dX4_tryNext_102 : decode prog_6_method_10_code 102 = .ok (.iload 5, 2) := by decide +kernel
theorem dX4_tryNext_104 : decode prog_6_method_10_code 104 = .ok (.ishl, 1) := by decide +kernel
theorem dX4_tryNext_105 : decode prog_6_method_10_code 105 = .ok (.iconst (-1), 1) := by decide +kernel
theorem dX4_tryNext_106 : decode prog_6_method_10_code 106 = .ok (.ixor, 1) := by decide +kernel
theorem dX4_tryNext_107 : decode prog_6_method_10_code 107 = .ok (.iand, 1) := by decide +kernel
theorem dX4_tryNext_108 : decode prog_6_method_10_code 108 = .ok (.iload 6, 2) := by decide +kernel
theorem dX4_tryNext_110 : decode prog_6_method_10_code 110 = .ok (.iload 4, 2) := by decide +kernel
theorem dX4_tryNext_112 : decode prog_6_method_10_code 112 = .ok (.iload 7, 2) := by decide +kernel
theorem dX4_tryNext_114 : decode prog_6_method_10_code 114 = .ok (.iadd, 1) := by decide +kernel
theorem dX4_tryNext_115 : decode prog_6_method_10_code 115 = .ok (.invokevirtual 84, 3) := by decide +kernel
theorem dX4_tryNext_118 : decode prog_6_method_10_code 118 = .ok (.iinc 5 1, 3) := by decide +kernel
theorem dX4_tryNext_121 : decode prog_6_method_10_code 121 = .ok (.goto (-99), 3) := by decide +kernel
theorem dX4_tryNext_124 : decode prog_6_method_10_code 124 = .ok (.return_, 1) := by decide +kernel
def stpT (A : Nat → Int) (tx : Nat → Nat → Int) (f dep left : Nat) (days paid : Int) : PSt → Nat → PSt := fun s i => if left.testBit i then (if fdL A tx i paid s.1 (61 - days).toNat days = -1 then s else tryN A tx f (dep + 1) (sdN left (2 ^ i)) (fdL A tx i paid s.1 (61 - days).toNat days) (paid + duesP A tx (A 2) i (fdL A tx i paid s.1 (61 - days).toNat days) (puP A (fdL A tx i paid s.1 (61 - days).toNat days) paid)) (s.1, s.2.1, upA s.2.2.1 dep i, s.2.2.2)) else s
theorem tryN_s {f dep left : Nat} {days paid : Int} {s : PSt} (h : left ≠ 0) : tryN A tx (f + 1) dep left days paid s = itS (stpT A tx f dep left days paid) 8 s := by
  show (if left = 0 then _ else _) = _
  rw [if_neg h]; rfl
theorem tryN_0 {f dep left : Nat} {days paid : Int} {s : PSt} (h : left = 0) : tryN A tx f dep left days paid s = keepB s dep days paid := by
  cases f with
  | zero => exact if_pos h
  | succ f => exact if_pos h
/-- what a try of the next one keeps to -/
def TryOK (S : Sh) (R : CR) (A : Nat → Int) (tx : Nat → Nat → Int) (f : Nat) : Prop := ∀ (n : Nat) (Post : PT) (I : CI) (dep left : Nat) (days paid : Int) (s : PSt), dep + f = 5 → left < 256 → 0 ≤ days ∧ days ≤ 60 → 0 ≤ paid ∧ paid ≤ 9999 * dep → f + 5 ≤ n → CIv S R I A tx → PRel I s → (∀ I', CIv S R I' A tx → Fp I I' → PRel I' (tryN A tx f dep left days paid s) → Post none S I' R) → Call n 0 0 mX4_tryNext [.ref (S.2.1 295), .int (iI (dep : Int)), .int (iI (left : Int)), .int (iI days), .int (iI paid)] S I R Post
theorem lp_X4_tryNext {f dep left : Nat} {days paid : Int} (cs : CS S R) (ih : TryOK S R A tx f) (hf : dep + (f + 1) = 5) (hl : left < 256) (hd : 0 ≤ days ∧ days ≤ 60) (hpd : 0 ≤ paid ∧ paid ≤ 9999 * dep) (hn : f + 1 + 5 ≤ n) {s : PSt} (hp : ∀ I', CIv S R I' A tx → Fp I I' → PRel I' (itS (stpT A tx f dep left days paid) 8 s) → Post none S I' R) : ∀ (d i : Nat) (J : CI), i ≤ 8 → 8 - i = d → CIv S R J A tx → Fp I J → PRel J (itS (stpT A tx f dep left days paid) i s) → WP n 0 0 mX4_tryNext Post 22 [(0, .ref (S.2.1 295)), (1, .int (iI (dep : Int))), (2, .int (iI (left : Int))), (3, .int (iI days)), (4, .int (iI paid)), (5, .int (iI (i : Int)))] [] 0 0 S J R := by
  intro d
  induction d using Nat.strongRecOn with
  | ind d hi =>
    intro i J k1 k2 hv hF hr
    obtain ⟨hc, hb, hw, hk⟩ := id hv
    obtain ⟨⟨⟨c0, c7, c8, c9, c10, c11⟩, cq⟩, ⟨⟨t1, t2, t3, t4, t5, t6, t7, t8, t9⟩, tq, th, tb, ts, td⟩, cb, cp⟩ := id hc
    dsimp only [Nat.reduceAdd] at c0 c7 c8 c9 c10 c11 cq t1 t2 t3 t4 t5 t6 t7 t8 t9 tq th tb ts td
    obtain ⟨⟨b0, b1, b2, b3, b4, bq, bl⟩, ⟨d1, d2, d3, d4, d5, d6, d7⟩, dq, dh, db, ds, dd, dp⟩ := id hb
    have b7 : 0 ≤ A 7 ∧ A 7 ≤ 9999 := b1
    have b8 : 0 ≤ A 8 ∧ A 8 ≤ 30870 := b2
    have b9 : 0 ≤ A 9 ∧ A 9 ≤ 9999 := b3
    have b10 : 0 ≤ A 10 ∧ A 10 ≤ 1 := b4
    have b11 : 0 ≤ A 11 ∧ A 11 ≤ 16 := by have h1 := lns_b (fun q => A (6 + 6 + 3 * q)) (A 0).toNat; have h2 : A 11 = _ := bl; omega
    have hst : itS (stpT A tx f dep left days paid) (i + 1) s = stpT A tx f dep left days paid (itS (stpT A tx f dep left days paid) i s) i := rfl
    generalize hs1 : itS (stpT A tx f dep left days paid) i s = s1 at *
    obtain ⟨⟨r1, r2, r3, r4⟩, r5, r6⟩ := id hr
    have hfd := fdL_b (A := A) (tx := tx) (q := i) (paid := paid) (bd := s1.1) (61 - days).toNat days (by omega)
    refine x_iload dX4_tryNext_22 rfl ?_
    refine x_bipush dX4_tryNext_24 (by decide) ?_
    refine x_icmp_ge 124 dX4_tryNext_26 (by decide) ⟨(by omega), (by omega)⟩ (fun w26 => ?_) (fun w26 => ?_)
    · exact x_return dX4_tryNext_124 rfl (by omega) (by omega) (by obtain rfl : i = 8 := (by omega); subst hs1; exact hp _ hv hF hr)
    · refine x_iload_n dX4_tryNext_29 rfl ?_
      refine x_iload dX4_tryNext_30 rfl ?_
      refine x_ishr dX4_tryNext_32 ?_
      refine x_iconst dX4_tryNext_33 ?_
      refine x_iand dX4_tryNext_34 ?_
      have hb36 := has_c (x := left) (k := i) (by omega) (by omega)
      refine x_iconst dX4_tryNext_35 ?_
      refine x_icmp_ne 51 dX4_tryNext_36 (by decide) ⟨(by omega), (by omega)⟩ (fun w36 => ?_) (fun w36 => ?_)
      · refine x_iconst dX4_tryNext_51 ?_
        
        refine x_istore (lv2 := [(6, _), (0, _), (1, _), (2, _), (3, _), (4, _), (5, _)]) dX4_tryNext_52 (by decide) rfl ?_
        refine x_iload dX4_tryNext_54 rfl ?_
        refine x_iconst dX4_tryNext_56 ?_
        refine x_icmp_eq 118 dX4_tryNext_57 (by decide) ⟨(by omega), (by omega)⟩ (fun w57 => ?_) (fun w57 => ?_)
        · refine x_iinc (lv2 := [(5, _), (6, _), (0, _), (1, _), (2, _), (3, _), (4, _)]) dX4_tryNext_118 rfl (by decide) rfl ?_
          refine x_goto 22 dX4_tryNext_121 (by decide) ?_
          refine x_sub [2, 3, 4, 5, 6, 0] rfl ?_
          first
            | (rcases hb36 with hh | hh
               · exfalso; omega
               · have e1 : stpT A tx f dep left days paid s1 i = s1 := if_neg (by rw [hh.2]; decide)
                 rw [e1] at hst
                 exact hi _ (by omega) (i + 1) J (by omega) rfl hv hF (by rw [hst]; exact hr))
            | (rcases hb36 with hh | hh
               · first
                   | (have e1 : stpT A tx f dep left days paid s1 i = s1 := (by unfold stpT; rw [if_pos hh.2, if_pos (by omega)])
                      rw [e1] at hst
                      exact hi _ (by omega) (i + 1) I45 (by omega) rfl (hv.l hF45 hS45) (hF.tr hF45.p) (by rw [hst]; exact hr.l hF45))
                   | (have e1 : stpT A tx f dep left days paid s1 i = tryN A tx f (dep + 1) (sdN left (2 ^ i)) w (paid + duesP A tx (A 2) i w (puP A w paid)) (s1.1, s1.2.1, upA s1.2.2.1 dep i, s1.2.2.2) := (by unfold stpT; rw [if_pos hh.2, hw0, if_neg (by omega)])
                      rw [e1] at hst
                      rw [← hst] at hr115
                      exact hi _ (by omega) (i + 1) I115 (by omega) rfl hv115 (((hF.tr hF45.p).tr hF83.p).tr ((Fp.rf.u (by omega)).tr hF115)) hr115)
               · exfalso; omega)
        · exfalso; omega
      · refine x_aload_n dX4_tryNext_39 rfl ?_
        refine x_iload dX4_tryNext_40 rfl ?_
        refine x_iload_n dX4_tryNext_42 rfl ?_
        refine x_iload dX4_tryNext_43 rfl ?_
        refine x_callV3 (mc1 := 0) (ms1 := 0) dX4_tryNext_45 cv_RX4_92 (ci := 4) (k_ob_295 cs) rfl (Nat.le_of_ble_eq_true rfl) (n1 := n - 1) (by omega) (by omega) (by omega) ?_
        refine sp_X4_firstDay cs hv (by omega) (by omega) (by omega) ⟨r1, by omega, by omega⟩ (by omega) (fun I45 hF45 hS45 => ?_)
        rw [show ((i : Nat) : Int).toNat = i by omega]
        generalize hwd : fdL A tx i paid s1.1 (61 - days).toNat days = w at *
        refine x_goto 52 dX4_tryNext_48 (by decide) ?_
        
        refine x_istore (lv2 := [(6, _), (0, _), (1, _), (2, _), (3, _), (4, _), (5, _)]) dX4_tryNext_52 (by decide) rfl ?_
        refine x_iload dX4_tryNext_54 rfl ?_
        refine x_iconst dX4_tryNext_56 ?_
        refine x_icmp_eq 118 dX4_tryNext_57 (by decide) ⟨(by omega), (by omega)⟩ (fun w57 => ?_) (fun w57 => ?_)
        · refine x_iinc (lv2 := [(5, _), (6, _), (0, _), (1, _), (2, _), (3, _), (4, _)]) dX4_tryNext_118 rfl (by decide) rfl ?_
          refine x_goto 22 dX4_tryNext_121 (by decide) ?_
          refine x_sub [2, 3, 4, 5, 6, 0] rfl ?_
          first
            | (rcases hb36 with hh | hh
               · exfalso; omega
               · have e1 : stpT A tx f dep left days paid s1 i = s1 := if_neg (by rw [hh.2]; decide)
                 rw [e1] at hst
                 exact hi _ (by omega) (i + 1) J (by omega) rfl hv hF (by rw [hst]; exact hr))
            | (rcases hb36 with hh | hh
               · first
                   | (have e1 : stpT A tx f dep left days paid s1 i = s1 := (by unfold stpT; rw [if_pos hh.2, if_pos (by omega)])
                      rw [e1] at hst
                      exact hi _ (by omega) (i + 1) I45 (by omega) rfl (hv.l hF45 hS45) (hF.tr hF45.p) (by rw [hst]; exact hr.l hF45))
                   | (have e1 : stpT A tx f dep left days paid s1 i = tryN A tx f (dep + 1) (sdN left (2 ^ i)) w (paid + duesP A tx (A 2) i w (puP A w paid)) (s1.1, s1.2.1, upA s1.2.2.1 dep i, s1.2.2.2) := (by unfold stpT; rw [if_pos hh.2, hw0, if_neg (by omega)])
                      rw [e1] at hst
                      rw [← hst] at hr115
                      exact hi _ (by omega) (i + 1) I115 (by omega) rfl hv115 (((hF.tr hF45.p).tr hF83.p).tr ((Fp.rf.u (by omega)).tr hF115)) hr115)
               · exfalso; omega)
        · have hw0 : fdL A tx i paid s1.1 (61 - days).toNat days = w := hwd
          obtain ⟨hc45, hb45, hw45, hk45⟩ := hv.l hF45 hS45
          have hpu := puP_b hb (d := w) (paid := paid) (by omega) (by omega)
          have hdu := duesP_b A tx (A 2) i w (puP A w paid)
          refine x_aload_n dX4_tryNext_60 rfl ?_
          refine x_getR (b := 279) dX4_tryNext_61 gf_RX4_25 (k_ob_295 cs) (fun _ _ => rfl) (k_r_295_4 cs) ?_
          refine x_aload_n dX4_tryNext_64 rfl ?_
          refine x_getR (b := 1) dX4_tryNext_65 gf_RX4_21 (k_ob_295 cs) (fun _ _ => rfl) (k_r_295_3 cs) ?_
          refine x_getIv (z := A 2) dX4_tryNext_68 gf_RX4_96 (k_ob_1 cs) (fun _ _ => rfl) (by rw [hF45 1 (by omega) (by omega)]; exact t2.symm) ?_
          refine x_iload dX4_tryNext_71 rfl ?_
          refine x_iload dX4_tryNext_73 rfl ?_
          refine x_aload_n dX4_tryNext_75 rfl ?_
          refine x_iload dX4_tryNext_76 rfl ?_
          refine x_iload dX4_tryNext_78 rfl ?_
          refine x_callV2 (mc1 := 0) (ms1 := 0) dX4_tryNext_80 cv_RX4_99 (ci := 4) (k_ob_295 cs) rfl (Nat.le_of_ble_eq_true rfl) (n1 := n - 1) (by omega) (by omega) (by omega) ?_
          refine sp_X4_purseOn cs hc45 ?_
          refine x_callV4 (mc1 := 0) (ms1 := 0) dX4_tryNext_83 cv_RX4_103 (ci := 3) (k_ob_279 cs) rfl (Nat.le_of_ble_eq_true rfl) (n1 := n - 1) (by omega) (by omega) (by omega) ?_
          refine sp_X3_duesBy cs hc45 hb45 hw45 hk45 (by omega) (by omega) (by omega) (by omega) (by omega) (fun I83 hF83 hS83 => ?_)
          rw [show ((i : Nat) : Int).toNat = i by omega]
          refine x_istore (lv2 := [(7, _), (6, _), (0, _), (1, _), (2, _), (3, _), (4, _), (5, _)]) dX4_tryNext_86 (by decide) rfl ?_
          refine x_aload_n dX4_tryNext_88 rfl ?_
          refine x_getR (b := 297) dX4_tryNext_89 gf_RX4_15 (k_ob_295 cs) (fun _ _ => rfl) (k_r_295_5 cs) ?_
          refine x_iload_n dX4_tryNext_92 rfl ?_
          refine x_iload dX4_tryNext_93 rfl ?_
          refine x_iastore dX4_tryNext_95 (k_ar_297 cs) (by omega) (by omega) ?_
          refine x_aload_n dX4_tryNext_96 rfl ?_
          refine x_iload_n dX4_tryNext_97 rfl ?_
          refine x_iconst dX4_tryNext_98 ?_
          refine x_iadd dX4_tryNext_99 ?_
          refine x_iload_n dX4_tryNext_100 rfl ?_
          refine x_iconst dX4_tryNext_101 ?_
          refine x_iload dX4_tryNext_102 rfl ?_
          refine x_ishl dX4_tryNext_104 ?_
          rw [shl1_n (by omega)]
          refine x_iconst dX4_tryNext_105 ?_
          refine x_ixor dX4_tryNext_106 ?_
          refine x_iand dX4_tryNext_107 ?_
          rw [andnot_n (by omega) (by have : 2 ^ i < 2 ^ 31 := Nat.pow_lt_pow_right (by decide) (by omega); omega)]
          refine x_iload dX4_tryNext_108 rfl ?_
          refine x_iload dX4_tryNext_110 rfl ?_
          refine x_iload dX4_tryNext_112 rfl ?_
          refine x_iadd dX4_tryNext_114 ?_
          refine x_callV4 (mc1 := 0) (ms1 := 0) dX4_tryNext_115 cv_RX4_84 (ci := 4) (k_ob_295 cs) rfl (Nat.le_of_ble_eq_true rfl) (n1 := n - 1) (by omega) (by omega) (by omega) ?_
          rw [show (dep : Int) + 1 = ((dep + 1 : Nat) : Int) by omega, show ((dep : Nat) : Int).toNat = dep by omega]
          have hr83 := (hr.l hF45).l hF83
          have hFu : Fp I83 (uI I83 297 dep (i : Int)) := Fp.rf.u (by omega)
          have hsl := sdN_le left (2 ^ i)
          refine ih _ _ _ (dep + 1) (sdN left (2 ^ i)) w (paid + duesP A tx (A 2) i w (puP A w paid)) (s1.1, s1.2.1, upA s1.2.2.1 dep i, s1.2.2.2) (by omega) (by omega) (by omega) (by omega) (by omega) (((hv.l hF45 hS45).l hF83 hS83).p hFu (by unfold SK; rw [uI_row (by omega)]; exact hS83)) ⟨⟨by rw [uI_o (by omega)]; exact hr83.1.1, by rw [uI_o (by omega)]; exact hr83.1.2.1, ?_, by rw [uI_row (by omega)]; exact hr83.1.2.2.2⟩, hr83.2⟩ (fun I115 hv115 hF115 hr115 => ?_)
          · funext z
            show (if 297 = 297 ∧ z = dep then _ else I83 297 z) = upA s1.2.2.1 dep i z
            unfold upA
            by_cases hz : z = dep
            · rw [if_pos ⟨rfl, hz⟩, if_pos hz]
            · rw [if_neg (fun q => hz q.2), if_neg hz, hr83.1.2.2.1]
          refine x_iinc (lv2 := [(5, _), (7, _), (6, _), (0, _), (1, _), (2, _), (3, _), (4, _)]) dX4_tryNext_118 rfl (by decide) rfl ?_
          refine x_goto 22 dX4_tryNext_121 (by decide) ?_
          refine x_sub [3, 4, 5, 6, 7, 0] rfl ?_
          first
            | (rcases hb36 with hh | hh
               · exfalso; omega
               · have e1 : stpT A tx f dep left days paid s1 i = s1 := if_neg (by rw [hh.2]; decide)
                 rw [e1] at hst
                 exact hi _ (by omega) (i + 1) J (by omega) rfl hv hF (by rw [hst]; exact hr))
            | (rcases hb36 with hh | hh
               · first
                   | (have e1 : stpT A tx f dep left days paid s1 i = s1 := (by unfold stpT; rw [if_pos hh.2, if_pos (by omega)])
                      rw [e1] at hst
                      exact hi _ (by omega) (i + 1) I45 (by omega) rfl (hv.l hF45 hS45) (hF.tr hF45.p) (by rw [hst]; exact hr.l hF45))
                   | (have e1 : stpT A tx f dep left days paid s1 i = tryN A tx f (dep + 1) (sdN left (2 ^ i)) w (paid + duesP A tx (A 2) i w (puP A w paid)) (s1.1, s1.2.1, upA s1.2.2.1 dep i, s1.2.2.2) := (by unfold stpT; rw [if_pos hh.2, hw0, if_neg (by omega)])
                      rw [e1] at hst
                      rw [← hst] at hr115
                      exact hi _ (by omega) (i + 1) I115 (by omega) rfl hv115 (((hF.tr hF45.p).tr hF83.p).tr ((Fp.rf.u (by omega)).tr hF115)) hr115)
               · exfalso; omega)
theorem sp_X4_tryNext (cs : CS S R) : ∀ f : Nat, TryOK S R A tx f := by
  intro f
  induction f with
  | zero =>
    intro n Post I dep left days paid s hf hl hd hpd hn hv hr hp
    refine Call.of (by decide +kernel) (Nat.le_of_ble_eq_true rfl) ?_
    show WP _ _ _ _ _ 0 [(0, _), (1, _), (2, _), (3, _), (4, _)] [] 0 0 _ _ _
    refine x_iload_n dX4_tryNext_0 rfl ?_
    refine x_if_ne 13 dX4_tryNext_1 (by decide) (by omega) (fun w1 => ?_) (fun w1 => ?_)
    · refine x_iload_n dX4_tryNext_13 rfl ?_
      refine x_iconst dX4_tryNext_14 ?_
      refine x_icmp_lt 19 dX4_tryNext_15 (by decide) ⟨(by omega), (by omega)⟩ (fun w15 => ?_) (fun w15 => ?_)
      · exfalso; omega
      · exact x_return dX4_tryNext_18 rfl (by omega) (by omega) (by first | (rw [tryN_0 (by omega)] at hp; exact hp _ (hv.p hF9 (by unfold SK; rw [hG9 281 (by omega) (by omega)]; exact hv.2.2.2)) hF9 hr9) | (rw [show tryN A tx 0 dep left days paid s = s from if_neg (by omega)] at hp; exact hp _ hv Fp.rf hr))
    · refine x_aload_n dX4_tryNext_4 rfl ?_
      refine x_iload_n dX4_tryNext_5 rfl ?_
      refine x_iload_n dX4_tryNext_6 rfl ?_
      refine x_iload dX4_tryNext_7 rfl ?_
      refine x_callV3 (mc1 := 0) (ms1 := 0) dX4_tryNext_9 cv_RX4_88 (ci := 4) (k_ob_295 cs) rfl (Nat.le_of_ble_eq_true rfl) (n1 := n - 1) (by omega) (by omega) (by omega) ?_
      refine sp_X4_keepIfBetter cs hr (by omega) (by omega) (by omega) (by omega) (fun I9 hF9 hG9 hr9 => ?_)
      exact x_return dX4_tryNext_12 rfl (by omega) (by omega) (by first | (rw [tryN_0 (by omega)] at hp; exact hp _ (hv.p hF9 (by unfold SK; rw [hG9 281 (by omega) (by omega)]; exact hv.2.2.2)) hF9 hr9) | (rw [show tryN A tx 0 dep left days paid s = s from if_neg (by omega)] at hp; exact hp _ hv Fp.rf hr))
  | succ f ih =>
    intro n Post I dep left days paid s hf hl hd hpd hn hv hr hp
    refine Call.of (by decide +kernel) (Nat.le_of_ble_eq_true rfl) ?_
    show WP _ _ _ _ _ 0 [(0, _), (1, _), (2, _), (3, _), (4, _)] [] 0 0 _ _ _
    refine x_iload_n dX4_tryNext_0 rfl ?_
    refine x_if_ne 13 dX4_tryNext_1 (by decide) (by omega) (fun w1 => ?_) (fun w1 => ?_)
    · refine x_iload_n dX4_tryNext_13 rfl ?_
      refine x_iconst dX4_tryNext_14 ?_
      refine x_icmp_lt 19 dX4_tryNext_15 (by decide) ⟨(by omega), (by omega)⟩ (fun w15 => ?_) (fun w15 => ?_)
      · refine x_iconst dX4_tryNext_19 ?_
        refine x_istore (lv2 := [(5, _), (0, _), (1, _), (2, _), (3, _), (4, _)]) dX4_tryNext_20 (by decide) rfl ?_
        refine x_sub [1, 2, 3, 4, 5, 0] rfl ?_
        rw [tryN_s (by omega)] at hp
        exact lp_X4_tryNext cs ih (by omega) hl hd hpd hn hp _ 0 I (by omega) rfl hv Fp.rf hr
      · exfalso; omega
    · refine x_aload_n dX4_tryNext_4 rfl ?_
      refine x_iload_n dX4_tryNext_5 rfl ?_
      refine x_iload_n dX4_tryNext_6 rfl ?_
      refine x_iload dX4_tryNext_7 rfl ?_
      refine x_callV3 (mc1 := 0) (ms1 := 0) dX4_tryNext_9 cv_RX4_88 (ci := 4) (k_ob_295 cs) rfl (Nat.le_of_ble_eq_true rfl) (n1 := n - 1) (by omega) (by omega) (by omega) ?_
      refine sp_X4_keepIfBetter cs hr (by omega) (by omega) (by omega) (by omega) (fun I9 hF9 hG9 hr9 => ?_)
      exact x_return dX4_tryNext_12 rfl (by omega) (by omega) (by first | (rw [tryN_0 (by omega)] at hp; exact hp _ (hv.p hF9 (by unfold SK; rw [hG9 281 (by omega) (by omega)]; exact hv.2.2.2)) hF9 hr9) | (rw [show tryN A tx (f + 1) dep left days paid s = s from if_neg (by omega)] at hp; exact hp _ hv Fp.rf hr))
def plS (A : Nat → Int) (tx : Nat → Nat → Int) (set : Nat) (o b : Nat → Int) : PSt := tryN A tx 5 0 set 0 0 (61, 0, o, b)
theorem dX4_findPlan_0 : decode prog_6_method_9_code 0 = .ok (.aload_n 0, 1) := by decide +kernel
theorem dX4_findPlan_1 : decode prog_6_method_9_code 1 = .ok (.bipush 61, 2) := by decide +kernel
theorem dX4_findPlan_3 : decode prog_6_method_9_code 3 = .ok (.putfield 78, 3) := by decide +kernel
theorem dX4_findPlan_6 : decode prog_6_method_9_code 6 = .ok (.aload_n 0, 1) := by decide +kernel
theorem dX4_findPlan_7 : decode prog_6_method_9_code 7 = .ok (.iconst 0, 1) := by decide +kernel
theorem dX4_findPlan_8 : decode prog_6_method_9_code 8 = .ok (.putfield 81, 3) := by decide +kernel
theorem dX4_findPlan_11 : decode prog_6_method_9_code 11 = .ok (.aload_n 0, 1) := by decide +kernel
theorem dX4_findPlan_12 : decode prog_6_method_9_code 12 = .ok (.iconst 0, 1) := by decide +kernel
theorem dX4_findPlan_13 : decode prog_6_method_9_code 13 = .ok (.iload_n 1, 1) := by decide +kernel
theorem dX4_findPlan_14 : decode prog_6_method_9_code 14 = .ok (.iconst 0, 1) := by decide +kernel
theorem dX4_findPlan_15 : decode prog_6_method_9_code 15 = .ok (.iconst 0, 1) := by decide +kernel
theorem dX4_findPlan_16 : decode prog_6_method_9_code 16 = .ok (.invokevirtual 84, 3) := by decide +kernel
theorem dX4_findPlan_19 : decode prog_6_method_9_code 19 = .ok (.aload_n 0, 1) := by decide +kernel
theorem dX4_findPlan_20 : decode prog_6_method_9_code 20 = .ok (.getfield 78, 3) := by decide +kernel
theorem dX4_findPlan_23 : decode prog_6_method_9_code 23 = .ok (.bipush 60, 2) := by decide +kernel
theorem dX4_findPlan_25 : decode prog_6_method_9_code 25 = .ok (.if_icmp .gt 7, 3) := by decide +kernel
theorem dX4_findPlan_28 : decode prog_6_method_9_code 28 = .ok (.iconst 1, 1) := by decide +kernel
theorem dX4_findPlan_29 : decode prog_6_method_9_code 29 = .ok (.goto 4, 3) := by decide +kernel
theorem dX4_findPlan_32 : decode prog_6_method_9_code 32 = .ok (.iconst 0, 1) := by decide +kernel
theorem dX4_findPlan_33 : decode prog_6_method_9_code 33 = .ok (.ireturn, 1) := by decide +kernel
theorem sp_X4_findPlan {set : Nat} (cs : CS S R) (hv : CIv S R I A tx) (hs : set < 256) (hn : 11 ≤ n) (hp : ∀ I' r, CIv S R I' A tx → Fp I I' → PRel I' (plS A tx set (I 297) (I 296)) → (r = 1 ∧ (plS A tx set (I 297) (I 296)).1 ≤ 60 ∨ r = 0 ∧ ¬ (plS A tx set (I 297) (I 296)).1 ≤ 60) → Post (some (.int (iI r))) S I' R) : Call n 0 0 mX4_findPlan [.ref (S.2.1 295), .int (iI (set : Int))] S I R Post := by
  refine Call.of (by decide +kernel) (Nat.le_of_ble_eq_true rfl) ?_
  show WP _ _ _ _ _ 0 [(0, _), (1, _)] [] 0 0 _ _ _
  refine x_aload_n dX4_findPlan_0 rfl ?_
  refine x_bipush dX4_findPlan_1 (by decide) ?_
  refine x_putI dX4_findPlan_3 gf_RX4_78 (k_ob_295 cs) rfl ?_
  refine x_aload_n dX4_findPlan_6 rfl ?_
  refine x_iconst dX4_findPlan_7 ?_
  refine x_putI dX4_findPlan_8 gf_RX4_81 (k_ob_295 cs) rfl ?_
  refine x_aload_n dX4_findPlan_11 rfl ?_
  refine x_iconst dX4_findPlan_12 ?_
  refine x_iload_n dX4_findPlan_13 rfl ?_
  refine x_iconst dX4_findPlan_14 ?_
  refine x_iconst dX4_findPlan_15 ?_
  refine x_callV4 (mc1 := 0) (ms1 := 0) dX4_findPlan_16 cv_RX4_84 (ci := 4) (k_ob_295 cs) rfl (Nat.le_of_ble_eq_true rfl) (n1 := n - 1) (by omega) (by omega) (by omega) ?_
  have hF0 : Fp I (uI (uI I 295 1 61) 295 2 0) := (Fp.rf.u (by omega)).u (by omega)
  have hl := sp_X4_tryNext (A := A) (tx := tx) cs 5 (n - 1)
  refine hl _ _ 0 set 0 0 (61, 0, I 297, I 296) rfl hs (by omega) (by omega) (by omega) (hv.p hF0 (by unfold SK; rw [uI_row (by omega), uI_row (by omega)]; exact hv.2.2.2)) ⟨⟨by rw [uI_o (by omega), uI_s], by rw [uI_s], by rw [uI_row (by omega), uI_row (by omega)], by rw [uI_row (by omega), uI_row (by omega)]⟩, by dsimp only; omega, by dsimp only; omega⟩ (fun I16 hv16 hF16 hr16 => ?_)
  have hb16 : I16 295 1 = (plS A tx set (I 297) (I 296)).1 := hr16.1.1
  have hg16 := hr16.2.1
  change 0 ≤ (plS A tx set (I 297) (I 296)).1 ∧ (plS A tx set (I 297) (I 296)).1 ≤ 61 at hg16
  refine x_aload_n dX4_findPlan_19 rfl ?_
  refine x_getIv (z := (plS A tx set (I 297) (I 296)).1) dX4_findPlan_20 gf_RX4_78 (k_ob_295 cs) (fun _ _ => rfl) hb16 ?_
  refine x_bipush dX4_findPlan_23 (by decide) ?_
  refine x_icmp_gt 32 dX4_findPlan_25 (by decide) ⟨(by omega), (by omega)⟩ (fun w25 => ?_) (fun w25 => ?_)
  · refine x_iconst dX4_findPlan_32 ?_
    exact x_zreturn (by omega) dX4_findPlan_33 rfl (by omega) (by omega) (by first | exact hp I16 1 hv16 (hF0.tr hF16) hr16 (Or.inl ⟨rfl, by omega⟩) | exact hp I16 0 hv16 (hF0.tr hF16) hr16 (Or.inr ⟨rfl, by omega⟩))
  · refine x_iconst dX4_findPlan_28 ?_
    refine x_goto 33 dX4_findPlan_29 (by decide) ?_
    exact x_zreturn (by omega) dX4_findPlan_33 rfl (by omega) (by omega) (by first | exact hp I16 1 hv16 (hF0.tr hF16) hr16 (Or.inl ⟨rfl, by omega⟩) | exact hp I16 0 hv16 (hF0.tr hF16) hr16 (Or.inr ⟨rfl, by omega⟩))
theorem dX4_canBePlanned_0 : decode prog_6_method_8_code 0 = .ok (.iload_n 1, 1) := by decide +kernel
theorem dX4_canBePlanned_1 : decode prog_6_method_8_code 1 = .ok (.ifCond .lt 33, 3) := by decide +kernel
theorem dX4_canBePlanned_4 : decode prog_6_method_8_code 4 = .ok (.iload_n 1, 1) := by decide +kernel
theorem dX4_canBePlanned_5 : decode prog_6_method_8_code 5 = .ok (.sipush 256, 3) := by decide +kernel
theorem dX4_canBePlanned_8 : decode prog_6_method_8_code 8 = .ok (.if_icmp .ge 26, 3) := by decide +kernel
theorem dX4_canBePlanned_11 : decode prog_6_method_8_code 11 = .ok (.iload_n 1, 1) := by decide +kernel
theorem dX4_canBePlanned_12 : decode prog_6_method_8_code 12 = .ok (.aload_n 0, 1) := by decide +kernel
theorem dX4_canBePlanned_13 : decode prog_6_method_8_code 13 = .ok (.invokevirtual 29, 3) := by decide +kernel
theorem dX4_canBePlanned_16 : decode prog_6_method_8_code 16 = .ok (.iconst (-1), 1) := by decide +kernel
theorem dX4_canBePlanned_17 : decode prog_6_method_8_code 17 = .ok (.ixor, 1) := by decide +kernel
theorem dX4_canBePlanned_18 : decode prog_6_method_8_code 18 = .ok (.iand, 1) := by decide +kernel
theorem dX4_canBePlanned_19 : decode prog_6_method_8_code 19 = .ok (.ifCond .ne 15, 3) := by decide +kernel
theorem dX4_canBePlanned_22 : decode prog_6_method_8_code 22 = .ok (.iload_n 1, 1) := by decide +kernel
theorem dX4_canBePlanned_23 : decode prog_6_method_8_code 23 = .ok (.invokestatic 73, 3) := by decide +kernel
theorem dX4_canBePlanned_26 : decode prog_6_method_8_code 26 = .ok (.iconst 5, 1) := by decide +kernel
theorem dX4_canBePlanned_27 : decode prog_6_method_8_code 27 = .ok (.if_icmp .gt 7, 3) := by decide +kernel
theorem dX4_canBePlanned_30 : decode prog_6_method_8_code 30 = .ok (.iconst 1, 1) := by decide +kernel
theorem dX4_canBePlanned_31 : decode prog_6_method_8_code 31 = .ok (.goto 4, 3) := by decide +kernel
theorem dX4_canBePlanned_34 : decode prog_6_method_8_code 34 = .ok (.iconst 0, 1) := by decide +kernel
theorem dX4_canBePlanned_35 : decode prog_6_method_8_code 35 = .ok (.ireturn, 1) := by decide +kernel
abbrev canP (A : Nat → Int) (set : Int) : Prop := 0 ≤ set ∧ set < 256 ∧ sdN set.toNat (pwN A (A 0).toNat) = 0 ∧ bcN set.toNat ≤ 5
theorem sp_X4_canBePlanned {set : Int} (cs : CS S R) (hc : ClW I 1 A) (hb : BA A) (hs : Rg set) (hn : 1 ≤ n) (hp : ∀ r, (r = 1 ∧ canP A set ∨ r = 0 ∧ ¬ canP A set) → Post (some (.int (iI r))) S I R) : Call n 0 0 mX4_canBePlanned [.ref (S.2.1 295), .int (iI set)] S I R Post := by
  have hlt := pwN_lt (A := A) (A 0).toNat
  have b0 := hb.1.1
  have h256 : 2 ^ (A 0).toNat ≤ 2 ^ 8 := Nat.pow_le_pow_right (by decide) (by omega)
  have hbc : bcN set.toNat ≤ 8 := by unfold bcN; omega
  unfold canP at hp
  refine Call.of (by decide +kernel) (Nat.le_of_ble_eq_true rfl) ?_
  show WP _ _ _ _ _ 0 [(0, _), (1, _)] [] 0 0 _ _ _
  refine x_iload_n dX4_canBePlanned_0 rfl ?_
  refine x_if_lt 34 dX4_canBePlanned_1 (by decide) (by omega) (fun w1 => ?_) (fun w1 => ?_)
  · refine x_iconst dX4_canBePlanned_34 ?_
    exact x_zreturn (by omega) dX4_canBePlanned_35 rfl (by omega) (by omega) (by first | exact hp 1 (Or.inl ⟨rfl, by omega⟩) | exact hp 0 (Or.inr ⟨rfl, by omega⟩))
  · refine x_iload_n dX4_canBePlanned_4 rfl ?_
    refine x_sipush dX4_canBePlanned_5 (by decide) ?_
    refine x_icmp_ge 34 dX4_canBePlanned_8 (by decide) ⟨(by omega), (by omega)⟩ (fun w8 => ?_) (fun w8 => ?_)
    · refine x_iconst dX4_canBePlanned_34 ?_
      exact x_zreturn (by omega) dX4_canBePlanned_35 rfl (by omega) (by omega) (by first | exact hp 1 (Or.inl ⟨rfl, by omega⟩) | exact hp 0 (Or.inr ⟨rfl, by omega⟩))
    · refine x_iload_n dX4_canBePlanned_11 rfl ?_
      refine x_aload_n dX4_canBePlanned_12 rfl ?_
      refine x_callV0 (mc1 := 0) (ms1 := 0) dX4_canBePlanned_13 cv_RX4_29 (ci := 4) (k_ob_295 cs) rfl (Nat.le_of_ble_eq_true rfl) (n1 := n - 1) (by omega) (by omega) (by omega) ?_
      refine sp_X4_pawnedSet cs hc hb ?_
      obtain ⟨m, hm⟩ : ∃ m : Nat, set = (m : Int) := ⟨set.toNat, by omega⟩
      subst hm
      rw [show ((m : Nat) : Int).toNat = m by omega] at hp hbc
      refine x_iconst dX4_canBePlanned_16 ?_
      refine x_ixor dX4_canBePlanned_17 ?_
      refine x_iand dX4_canBePlanned_18 ?_
      rw [andnot_n (by omega) (by omega)]
      have hsl := sdN_le m (pwN A (A 0).toNat)
      refine x_if_ne 34 dX4_canBePlanned_19 (by decide) (by omega) (fun w19 => ?_) (fun w19 => ?_)
      · refine x_iconst dX4_canBePlanned_34 ?_
        exact x_zreturn (by omega) dX4_canBePlanned_35 rfl (by omega) (by omega) (by first | exact hp 1 (Or.inl ⟨rfl, by omega⟩) | exact hp 0 (Or.inr ⟨rfl, by omega⟩))
      · refine x_iload_n dX4_canBePlanned_22 rfl ?_
        refine x_callS1 (mc1 := 0) (ms1 := 0) dX4_canBePlanned_23 cv_RX4_73 (Nat.le_of_ble_eq_true rfl) (n1 := n - 1) (by omega) (by omega) (by omega) ?_
        refine sp_bitCount (by omega) ?_
        refine x_iconst dX4_canBePlanned_26 ?_
        refine x_icmp_gt 34 dX4_canBePlanned_27 (by decide) ⟨(by omega), (by omega)⟩ (fun w27 => ?_) (fun w27 => ?_)
        · refine x_iconst dX4_canBePlanned_34 ?_
          exact x_zreturn (by omega) dX4_canBePlanned_35 rfl (by omega) (by omega) (by first | exact hp 1 (Or.inl ⟨rfl, by omega⟩) | exact hp 0 (Or.inr ⟨rfl, by omega⟩))
        · refine x_iconst dX4_canBePlanned_30 ?_
          refine x_goto 35 dX4_canBePlanned_31 (by decide) ?_
          exact x_zreturn (by omega) dX4_canBePlanned_35 rfl (by omega) (by omega) (by first | exact hp 1 (Or.inl ⟨rfl, by omega⟩) | exact hp 0 (Or.inr ⟨rfl, by omega⟩))
def f_plan (A : Nat → Int) (tx : Nat → Nat → Int) (o b : Nat → Int) (set w : Int) : Int := if 0 ≤ w ∧ canP A set ∧ (plS A tx set.toNat o b).1 ≤ 60 then (if w = 0 then (plS A tx set.toNat o b).1 else if w = 1 then (plS A tx set.toNat o b).2.1 else if w - 2 < (bcN set.toNat : Int) then (plS A tx set.toNat o b).2.2.2 (w - 2).toNat else -1) else -1
theorem dX11_plan_0 : decode prog_1_method_30_code 0 = .ok (.iload_n 2, 1) := by decide +kernel
theorem dX11_plan_1 : decode prog_1_method_30_code 1 = .ok (.ifCond .lt 25, 3) := by decide +kernel
theorem dX11_plan_4 : decode prog_1_method_30_code 4 = .ok (.aload_n 0, 1) := by decide +kernel
theorem dX11_plan_5 : decode prog_1_method_30_code 5 = .ok (.getfield 54, 3) := by decide +kernel
theorem dX11_plan_8 : decode prog_1_method_30_code 8 = .ok (.iload_n 1, 1) := by decide +kernel
theorem dX11_plan_9 : decode prog_1_method_30_code 9 = .ok (.invokevirtual 262, 3) := by decide +kernel
theorem dX11_plan_12 : decode prog_1_method_30_code 12 = .ok (.ifCond .eq 14, 3) := by decide +kernel
theorem dX11_plan_15 : decode prog_1_method_30_code 15 = .ok (.aload_n 0, 1) := by decide +kernel
theorem dX11_plan_16 : decode prog_1_method_30_code 16 = .ok (.getfield 54, 3) := by decide +kernel
theorem dX11_plan_19 : decode prog_1_method_30_code 19 = .ok (.iload_n 1, 1) := by decide +kernel
theorem dX11_plan_20 : decode prog_1_method_30_code 20 = .ok (.invokevirtual 265, 3) := by decide +kernel
theorem dX11_plan_23 : decode prog_1_method_30_code 23 = .ok (.ifCond .ne 5, 3) := by decide +kernel
theorem dX11_plan_26 : decode prog_1_method_30_code 26 = .ok (.iconst (-1), 1) := by decide +kernel
theorem dX11_plan_27 : decode prog_1_method_30_code 27 = .ok (.ireturn, 1) := by decide +kernel
theorem dX11_plan_28 : decode prog_1_method_30_code 28 = .ok (.iload_n 2, 1) := by decide +kernel
theorem dX11_plan_29 : decode prog_1_method_30_code 29 = .ok (.ifCond .ne 11, 3) := by decide +kernel
theorem dX11_plan_32 : decode prog_1_method_30_code 32 = .ok (.aload_n 0, 1) := by decide +kernel
theorem dX11_plan_33 : decode prog_1_method_30_code 33 = .ok (.getfield 54, 3) := by decide +kernel
theorem dX11_plan_36 : decode prog_1_method_30_code 36 = .ok (.getfield 268, 3) := by decide +kernel
theorem dX11_plan_39 : decode prog_1_method_30_code 39 = .ok (.ireturn, 1) := by decide +kernel
theorem dX11_plan_40 : decode prog_1_method_30_code 40 = .ok (.iload_n 2, 1) := by decide +kernel
theorem dX11_plan_41 : decode prog_1_method_30_code 41 = .ok (.iconst 1, 1) := by decide +kernel
theorem dX11_plan_42 : decode prog_1_method_30_code 42 = .ok (.if_icmp .ne 11, 3) := by decide +kernel
theorem dX11_plan_45 : decode prog_1_method_30_code 45 = .ok (.aload_n 0, 1) := by decide +kernel
theorem dX11_plan_46 : decode prog_1_method_30_code 46 = .ok (.getfield 54, 3) := by decide +kernel
theorem dX11_plan_49 : decode prog_1_method_30_code 49 = .ok (.getfield 271, 3) := by decide +kernel
theorem dX11_plan_52 : decode prog_1_method_30_code 52 = .ok (.ireturn, 1) := by decide +kernel
theorem dX11_plan_53 : decode prog_1_method_30_code 53 = .ok (.iload_n 2, 1) := by decide +kernel
theorem dX11_plan_54 : decode prog_1_method_30_code 54 = .ok (.iconst 2, 1) := by decide +kernel
theorem dX11_plan_55 : decode prog_1_method_30_code 55 = .ok (.isub, 1) := by decide +kernel
theorem dX11_plan_56 : decode prog_1_method_30_code 56 = .ok (.istore_n 3, 1) := by decide +kernel
theorem dX11_plan_57 : decode prog_1_method_30_code 57 = .ok (.iload_n 3, 1) := by decide +kernel
theorem dX11_plan_58 : decode prog_1_method_30_code 58 = .ok (.iload_n 1, 1) := by decide +kernel
theorem dX11_plan_59 : decode prog_1_method_30_code 59 = .ok (.invokestatic 274, 3) := by decide +kernel
theorem dX11_plan_62 : decode prog_1_method_30_code 62 = .ok (.if_icmp .ge 20, 3) := by decide +kernel
theorem dX11_plan_65 : decode prog_1_method_30_code 65 = .ok (.iload_n 3, 1) := by decide +kernel
theorem dX11_plan_66 : decode prog_1_method_30_code 66 = .ok (.iconst 5, 1) := by decide +kernel
theorem dX11_plan_67 : decode prog_1_method_30_code 67 = .ok (.if_icmp .ge 15, 3) := by decide +kernel
theorem dX11_plan_70 : decode prog_1_method_30_code 70 = .ok (.aload_n 0, 1) := by decide +kernel
theorem dX11_plan_71 : decode prog_1_method_30_code 71 = .ok (.getfield 54, 3) := by decide +kernel
theorem dX11_plan_74 : decode prog_1_method_30_code 74 = .ok (.getfield 279, 3) := by decide +kernel
theorem dX11_plan_77 : decode prog_1_method_30_code 77 = .ok (.iload_n 3, 1) := by decide +kernel
theorem dX11_plan_78 : decode prog_1_method_30_code 78 = .ok (.iaload, 1) := by decide +kernel
theorem dX11_plan_79 : decode prog_1_method_30_code 79 = .ok (.goto 4, 3) := by decide +kernel
theorem dX11_plan_82 : decode prog_1_method_30_code 82 = .ok (.iconst (-1), 1) := by decide +kernel
theorem dX11_plan_83 : decode prog_1_method_30_code 83 = .ok (.ireturn, 1) := by decide +kernel
theorem sp_X11_plan {set w : Int} (cs : CS S R) (hv : CIv S R I A tx) (hs : Rg set) (hw2 : Rg w) (hn : 12 ≤ n) (hp : ∀ I', CIv S R I' A tx → Fp I I' → Post (some (.int (iI (f_plan A tx (I 297) (I 296) set w)))) S I' R) : Call n 0 0 mX11_plan [.ref (S.2.1 0), .int (iI set), .int (iI w)] S I R Post := by
  have hbc : bcN set.toNat ≤ 8 := by unfold bcN; omega
  unfold f_plan at hp
  refine Call.of (by decide +kernel) (Nat.le_of_ble_eq_true rfl) ?_
  show WP _ _ _ _ _ 0 [(0, _), (1, _), (2, _)] [] 0 0 _ _ _
  refine x_iload_n dX11_plan_0 rfl ?_
  refine x_if_lt 26 dX11_plan_1 (by decide) (by omega) (fun w1 => ?_) (fun w1 => ?_)
  · refine x_iconst dX11_plan_26 ?_
    exact x_ireturn dX11_plan_27 rfl (by omega) (by omega) (by first | (rw [if_neg (fun q => hcn (by omega) q.2.1)] at hp; exact hp _ hv Fp.rf) | (rw [if_neg (by omega)] at hp; exact hp _ hv Fp.rf) | (rw [if_neg (fun q => by have := q.2.2; omega)] at hp; exact hp _ hv20 hF20) | (rw [if_pos ⟨by omega, hcp, by omega⟩, if_pos (by omega)] at hp; exact hp _ hv20 hF20) | (rw [if_pos ⟨by omega, hcp, by omega⟩, if_neg (by omega), if_pos (by omega)] at hp; exact hp _ hv20 hF20) | (rw [if_pos ⟨by omega, hcp, by omega⟩, if_neg (by omega), if_neg (by omega), if_pos (by omega)] at hp; exact hp _ hv20 hF20) | (rw [if_pos ⟨by omega, hcp, by omega⟩, if_neg (by omega), if_neg (by omega), if_neg (by omega)] at hp; exact hp _ hv20 hF20))
  · refine x_aload_n dX11_plan_4 rfl ?_
    refine x_getR (b := 295) dX11_plan_5 gf_RX11_54 (k_ob_0 cs) (fun _ _ => rfl) (k_r_0_6 cs) ?_
    refine x_iload_n dX11_plan_8 rfl ?_
    refine x_callV1 (mc1 := 0) (ms1 := 0) dX11_plan_9 cv_RX11_262 (ci := 4) (k_ob_295 cs) rfl (Nat.le_of_ble_eq_true rfl) (n1 := n - 1) (by omega) (by omega) (by omega) ?_
    refine sp_X4_canBePlanned cs hv.1 hv.2.1 hs (by omega) (fun r9 hr9 => ?_)
    have hcan : r9 = 1 → canP A set := fun h => by rcases hr9 with hh | hh; exact hh.2; exfalso; omega
    have hcn : r9 = 0 → ¬ canP A set := fun h => by rcases hr9 with hh | hh; (exfalso; omega); exact hh.2
    refine x_if_eq 26 dX11_plan_12 (by decide) (by omega) (fun w12 => ?_) (fun w12 => ?_)
    · refine x_iconst dX11_plan_26 ?_
      exact x_ireturn dX11_plan_27 rfl (by omega) (by omega) (by first | (rw [if_neg (fun q => hcn (by omega) q.2.1)] at hp; exact hp _ hv Fp.rf) | (rw [if_neg (by omega)] at hp; exact hp _ hv Fp.rf) | (rw [if_neg (fun q => by have := q.2.2; omega)] at hp; exact hp _ hv20 hF20) | (rw [if_pos ⟨by omega, hcp, by omega⟩, if_pos (by omega)] at hp; exact hp _ hv20 hF20) | (rw [if_pos ⟨by omega, hcp, by omega⟩, if_neg (by omega), if_pos (by omega)] at hp; exact hp _ hv20 hF20) | (rw [if_pos ⟨by omega, hcp, by omega⟩, if_neg (by omega), if_neg (by omega), if_pos (by omega)] at hp; exact hp _ hv20 hF20) | (rw [if_pos ⟨by omega, hcp, by omega⟩, if_neg (by omega), if_neg (by omega), if_neg (by omega)] at hp; exact hp _ hv20 hF20))
    · refine x_aload_n dX11_plan_15 rfl ?_
      refine x_getR (b := 295) dX11_plan_16 gf_RX11_54 (k_ob_0 cs) (fun _ _ => rfl) (k_r_0_6 cs) ?_
      refine x_iload_n dX11_plan_19 rfl ?_
      refine x_callV1 (mc1 := 0) (ms1 := 0) dX11_plan_20 cv_RX11_265 (ci := 4) (k_ob_295 cs) rfl (Nat.le_of_ble_eq_true rfl) (n1 := n - 1) (by omega) (by omega) (by omega) ?_
      have hcp := hcan (by omega)
      have hcp2 := hcp.2.2.2
      have hset : 0 ≤ set ∧ set < 256 := ⟨hcp.1, hcp.2.1⟩
      rw [show (iI set) = iI ((set.toNat : Nat) : Int) by rw [Int.toNat_of_nonneg hset.1]]
      refine sp_X4_findPlan (set := set.toNat) cs hv (by omega) (by omega) (fun I20 r20 hv20 hF20 hr20 hq20 => ?_)
      refine x_if_ne 28 dX11_plan_23 (by decide) (by omega) (fun w23 => ?_) (fun w23 => ?_)
      · refine x_iload_n dX11_plan_28 rfl ?_
        refine x_if_ne 40 dX11_plan_29 (by decide) (by omega) (fun w29 => ?_) (fun w29 => ?_)
        · refine x_iload_n dX11_plan_40 rfl ?_
          refine x_iconst dX11_plan_41 ?_
          refine x_icmp_ne 53 dX11_plan_42 (by decide) ⟨(by omega), (by omega)⟩ (fun w42 => ?_) (fun w42 => ?_)
          · refine x_iload_n dX11_plan_53 rfl ?_
            refine x_iconst dX11_plan_54 ?_
            refine x_isub dX11_plan_55 ?_
            refine x_istore_n (lv2 := [(3, _), (0, _), (1, _), (2, _)]) dX11_plan_56 (by decide) rfl ?_
            refine x_iload_n dX11_plan_57 rfl ?_
            refine x_iload_n dX11_plan_58 rfl ?_
            refine x_callS1 (mc1 := 0) (ms1 := 0) dX11_plan_59 cv_RX11_274 (Nat.le_of_ble_eq_true rfl) (n1 := n - 1) (by omega) (by omega) (by omega) ?_
            refine sp_bitCount (by omega) ?_
            refine x_icmp_ge 82 dX11_plan_62 (by decide) ⟨(by omega), (by omega)⟩ (fun w62 => ?_) (fun w62 => ?_)
            · refine x_iconst dX11_plan_82 ?_
              exact x_ireturn dX11_plan_83 rfl (by omega) (by omega) (by first | (rw [if_neg (fun q => hcn (by omega) q.2.1)] at hp; exact hp _ hv Fp.rf) | (rw [if_neg (by omega)] at hp; exact hp _ hv Fp.rf) | (rw [if_neg (fun q => by have := q.2.2; omega)] at hp; exact hp _ hv20 hF20) | (rw [if_pos ⟨by omega, hcp, by omega⟩, if_pos (by omega)] at hp; exact hp _ hv20 hF20) | (rw [if_pos ⟨by omega, hcp, by omega⟩, if_neg (by omega), if_pos (by omega)] at hp; exact hp _ hv20 hF20) | (rw [if_pos ⟨by omega, hcp, by omega⟩, if_neg (by omega), if_neg (by omega), if_pos (by omega)] at hp; exact hp _ hv20 hF20) | (rw [if_pos ⟨by omega, hcp, by omega⟩, if_neg (by omega), if_neg (by omega), if_neg (by omega)] at hp; exact hp _ hv20 hF20))
            · refine x_iload_n dX11_plan_65 rfl ?_
              refine x_iconst dX11_plan_66 ?_
              refine x_icmp_ge 82 dX11_plan_67 (by decide) ⟨(by omega), (by omega)⟩ (fun w67 => ?_) (fun w67 => ?_)
              · refine x_iconst dX11_plan_82 ?_
                exact x_ireturn dX11_plan_83 rfl (by omega) (by omega) (by first | (rw [if_neg (fun q => hcn (by omega) q.2.1)] at hp; exact hp _ hv Fp.rf) | (rw [if_neg (by omega)] at hp; exact hp _ hv Fp.rf) | (rw [if_neg (fun q => by have := q.2.2; omega)] at hp; exact hp _ hv20 hF20) | (rw [if_pos ⟨by omega, hcp, by omega⟩, if_pos (by omega)] at hp; exact hp _ hv20 hF20) | (rw [if_pos ⟨by omega, hcp, by omega⟩, if_neg (by omega), if_pos (by omega)] at hp; exact hp _ hv20 hF20) | (rw [if_pos ⟨by omega, hcp, by omega⟩, if_neg (by omega), if_neg (by omega), if_pos (by omega)] at hp; exact hp _ hv20 hF20) | (rw [if_pos ⟨by omega, hcp, by omega⟩, if_neg (by omega), if_neg (by omega), if_neg (by omega)] at hp; exact hp _ hv20 hF20))
              · refine x_aload_n dX11_plan_70 rfl ?_
                refine x_getR (b := 295) dX11_plan_71 gf_RX11_54 (k_ob_0 cs) (fun _ _ => rfl) (k_r_0_6 cs) ?_
                refine x_getR (b := 296) dX11_plan_74 gf_RX11_279 (k_ob_295 cs) (fun _ _ => rfl) (k_r_295_0 cs) ?_
                refine x_iload_n dX11_plan_77 rfl ?_
                refine x_iaload dX11_plan_78 (k_ar_296 cs) (by omega) (by omega) ?_
                rw [hr20.1.2.2.2]
                refine x_goto 83 dX11_plan_79 (by decide) ?_
                exact x_ireturn dX11_plan_83 rfl (by omega) (by omega) (by first | (rw [if_neg (fun q => hcn (by omega) q.2.1)] at hp; exact hp _ hv Fp.rf) | (rw [if_neg (by omega)] at hp; exact hp _ hv Fp.rf) | (rw [if_neg (fun q => by have := q.2.2; omega)] at hp; exact hp _ hv20 hF20) | (rw [if_pos ⟨by omega, hcp, by omega⟩, if_pos (by omega)] at hp; exact hp _ hv20 hF20) | (rw [if_pos ⟨by omega, hcp, by omega⟩, if_neg (by omega), if_pos (by omega)] at hp; exact hp _ hv20 hF20) | (rw [if_pos ⟨by omega, hcp, by omega⟩, if_neg (by omega), if_neg (by omega), if_pos (by omega)] at hp; exact hp _ hv20 hF20) | (rw [if_pos ⟨by omega, hcp, by omega⟩, if_neg (by omega), if_neg (by omega), if_neg (by omega)] at hp; exact hp _ hv20 hF20))
          · refine x_aload_n dX11_plan_45 rfl ?_
            refine x_getR (b := 295) dX11_plan_46 gf_RX11_54 (k_ob_0 cs) (fun _ _ => rfl) (k_r_0_6 cs) ?_
            refine x_getIv (z := (plS A tx set.toNat (I 297) (I 296)).2.1) dX11_plan_49 gf_RX11_271 (k_ob_295 cs) (fun _ _ => rfl) (by first | exact hr20.1.1 | exact hr20.1.2.1) ?_
            exact x_ireturn dX11_plan_52 rfl (by omega) (by omega) (by first | (rw [if_neg (fun q => hcn (by omega) q.2.1)] at hp; exact hp _ hv Fp.rf) | (rw [if_neg (by omega)] at hp; exact hp _ hv Fp.rf) | (rw [if_neg (fun q => by have := q.2.2; omega)] at hp; exact hp _ hv20 hF20) | (rw [if_pos ⟨by omega, hcp, by omega⟩, if_pos (by omega)] at hp; exact hp _ hv20 hF20) | (rw [if_pos ⟨by omega, hcp, by omega⟩, if_neg (by omega), if_pos (by omega)] at hp; exact hp _ hv20 hF20) | (rw [if_pos ⟨by omega, hcp, by omega⟩, if_neg (by omega), if_neg (by omega), if_pos (by omega)] at hp; exact hp _ hv20 hF20) | (rw [if_pos ⟨by omega, hcp, by omega⟩, if_neg (by omega), if_neg (by omega), if_neg (by omega)] at hp; exact hp _ hv20 hF20))
        · refine x_aload_n dX11_plan_32 rfl ?_
          refine x_getR (b := 295) dX11_plan_33 gf_RX11_54 (k_ob_0 cs) (fun _ _ => rfl) (k_r_0_6 cs) ?_
          refine x_getIv (z := (plS A tx set.toNat (I 297) (I 296)).1) dX11_plan_36 gf_RX11_268 (k_ob_295 cs) (fun _ _ => rfl) (by first | exact hr20.1.1 | exact hr20.1.2.1) ?_
          exact x_ireturn dX11_plan_39 rfl (by omega) (by omega) (by first | (rw [if_neg (fun q => hcn (by omega) q.2.1)] at hp; exact hp _ hv Fp.rf) | (rw [if_neg (by omega)] at hp; exact hp _ hv Fp.rf) | (rw [if_neg (fun q => by have := q.2.2; omega)] at hp; exact hp _ hv20 hF20) | (rw [if_pos ⟨by omega, hcp, by omega⟩, if_pos (by omega)] at hp; exact hp _ hv20 hF20) | (rw [if_pos ⟨by omega, hcp, by omega⟩, if_neg (by omega), if_pos (by omega)] at hp; exact hp _ hv20 hF20) | (rw [if_pos ⟨by omega, hcp, by omega⟩, if_neg (by omega), if_neg (by omega), if_pos (by omega)] at hp; exact hp _ hv20 hF20) | (rw [if_pos ⟨by omega, hcp, by omega⟩, if_neg (by omega), if_neg (by omega), if_neg (by omega)] at hp; exact hp _ hv20 hF20))
      · refine x_iconst dX11_plan_26 ?_
        exact x_ireturn dX11_plan_27 rfl (by omega) (by omega) (by first | (rw [if_neg (fun q => hcn (by omega) q.2.1)] at hp; exact hp _ hv Fp.rf) | (rw [if_neg (by omega)] at hp; exact hp _ hv Fp.rf) | (rw [if_neg (fun q => by have := q.2.2; omega)] at hp; exact hp _ hv20 hF20) | (rw [if_pos ⟨by omega, hcp, by omega⟩, if_pos (by omega)] at hp; exact hp _ hv20 hF20) | (rw [if_pos ⟨by omega, hcp, by omega⟩, if_neg (by omega), if_pos (by omega)] at hp; exact hp _ hv20 hF20) | (rw [if_pos ⟨by omega, hcp, by omega⟩, if_neg (by omega), if_neg (by omega), if_pos (by omega)] at hp; exact hp _ hv20 hF20) | (rw [if_pos ⟨by omega, hcp, by omega⟩, if_neg (by omega), if_neg (by omega), if_neg (by omega)] at hp; exact hp _ hv20 hF20))
end Plan2
