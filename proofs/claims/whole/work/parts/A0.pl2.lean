section Pl2s
variable {n mc ms : Nat} {M : Md} {pc : Nat} {lv : List (Nat × Value)} {st : List Value} {k j : Nat} {Post : PT} {S : Sh} {I : CI} {R : CR} {A : Nat → Int} {tx : Nat → Nat → Int}
theorem dX12_doneBy_0 : decode prog_14_method_123_code 0 = .ok (.aload_n 0, 1) := by decide +kernel
theorem dX12_doneBy_1 : decode prog_14_method_123_code 1 = .ok (.getfield 7, 3) := by decide +kernel
theorem dX12_doneBy_4 : decode prog_14_method_123_code 4 = .ok (.bipush 9, 2) := by decide +kernel
theorem dX12_doneBy_6 : decode prog_14_method_123_code 6 = .ok (.iaload, 1) := by decide +kernel
theorem dX12_doneBy_7 : decode prog_14_method_123_code 7 = .ok (.istore_n 2, 1) := by decide +kernel
theorem dX12_doneBy_8 : decode prog_14_method_123_code 8 = .ok (.iconst 0, 1) := by decide +kernel
theorem dX12_doneBy_9 : decode prog_14_method_123_code 9 = .ok (.istore_n 3, 1) := by decide +kernel
theorem dX12_doneBy_10 : decode prog_14_method_123_code 10 = .ok (.aload_n 0, 1) := by decide +kernel
theorem dX12_doneBy_11 : decode prog_14_method_123_code 11 = .ok (.iconst 0, 1) := by decide +kernel
theorem dX12_doneBy_12 : decode prog_14_method_123_code 12 = .ok (.putfield 439, 3) := by decide +kernel
theorem dX12_doneBy_15 : decode prog_14_method_123_code 15 = .ok (.iconst 0, 1) := by decide +kernel
theorem dX12_doneBy_16 : decode prog_14_method_123_code 16 = .ok (.istore 4, 2) := by decide +kernel
theorem dX12_doneBy_18 : decode prog_14_method_123_code 18 = .ok (.iload 4, 2) := by decide +kernel
theorem dX12_doneBy_20 : decode prog_14_method_123_code 20 = .ok (.iload_n 1, 1) := by decide +kernel
theorem dX12_doneBy_21 : decode prog_14_method_123_code 21 = .ok (.if_icmp .ge 99, 3) := by decide +kernel
theorem dX12_doneBy_24 : decode prog_14_method_123_code 24 = .ok (.iload_n 3, 1) := by decide +kernel
theorem dX12_doneBy_25 : decode prog_14_method_123_code 25 = .ok (.bipush 60, 2) := by decide +kernel
theorem dX12_doneBy_27 : decode prog_14_method_123_code 27 = .ok (.if_icmp .gt 42, 3) := by decide +kernel
theorem dX12_doneBy_30 : decode prog_14_method_123_code 30 = .ok (.iload_n 2, 1) := by decide +kernel
theorem dX12_doneBy_31 : decode prog_14_method_123_code 31 = .ok (.aload_n 0, 1) := by decide +kernel
theorem dX12_doneBy_32 : decode prog_14_method_123_code 32 = .ok (.aload_n 0, 1) := by decide +kernel
theorem dX12_doneBy_33 : decode prog_14_method_123_code 33 = .ok (.getfield 7, 3) := by decide +kernel
theorem dX12_doneBy_36 : decode prog_14_method_123_code 36 = .ok (.iconst 2, 1) := by decide +kernel
theorem dX12_doneBy_37 : decode prog_14_method_123_code 37 = .ok (.iaload, 1) := by decide +kernel
theorem dX12_doneBy_38 : decode prog_14_method_123_code 38 = .ok (.aload_n 0, 1) := by decide +kernel
theorem dX12_doneBy_39 : decode prog_14_method_123_code 39 = .ok (.getfield 56, 3) := by decide +kernel
theorem dX12_doneBy_42 : decode prog_14_method_123_code 42 = .ok (.iload 4, 2) := by decide +kernel
theorem dX12_doneBy_44 : decode prog_14_method_123_code 44 = .ok (.iaload, 1) := by decide +kernel
theorem dX12_doneBy_45 : decode prog_14_method_123_code 45 = .ok (.iload_n 3, 1) := by decide +kernel
theorem dX12_doneBy_46 : decode prog_14_method_123_code 46 = .ok (.iload_n 2, 1) := by decide +kernel
theorem dX12_doneBy_47 : decode prog_14_method_123_code 47 = .ok (.invokevirtual 320, 3) := by decide +kernel
theorem dX12_doneBy_50 : decode prog_14_method_123_code 50 = .ok (.if_icmp .ge 19, 3) := by decide +kernel
theorem dX12_doneBy_53 : decode prog_14_method_123_code 53 = .ok (.iinc 3 1, 3) := by decide +kernel
theorem dX12_doneBy_56 : decode prog_14_method_123_code 56 = .ok (.iload_n 2, 1) := by decide +kernel
theorem dX12_doneBy_57 : decode prog_14_method_123_code 57 = .ok (.aload_n 0, 1) := by decide +kernel
theorem dX12_doneBy_58 : decode prog_14_method_123_code 58 = .ok (.getfield 7, 3) := by decide +kernel
theorem dX12_doneBy_61 : decode prog_14_method_123_code 61 = .ok (.bipush 114, 2) := by decide +kernel
theorem dX12_doneBy_63 : decode prog_14_method_123_code 63 = .ok (.iaload, 1) := by decide +kernel
theorem dX12_doneBy_64 : decode prog_14_method_123_code 64 = .ok (.iadd, 1) := by decide +kernel
theorem dX12_doneBy_65 : decode prog_14_method_123_code 65 = .ok (.istore_n 2, 1) := by decide +kernel
theorem dX12_doneBy_66 : decode prog_14_method_123_code 66 = .ok (.goto (-42), 3) := by decide +kernel
theorem dX12_doneBy_69 : decode prog_14_method_123_code 69 = .ok (.iload_n 3, 1) := by decide +kernel
theorem dX12_doneBy_70 : decode prog_14_method_123_code 70 = .ok (.bipush 60, 2) := by decide +kernel
theorem dX12_doneBy_72 : decode prog_14_method_123_code 72 = .ok (.if_icmp .le 5, 3) := by decide +kernel
theorem dX12_doneBy_75 : decode prog_14_method_123_code 75 = .ok (.iconst (-1), 1) := by decide +kernel
theorem dX12_doneBy_76 : decode prog_14_method_123_code 76 = .ok (.ireturn, 1) := by decide +kernel
theorem dX12_doneBy_77 : decode prog_14_method_123_code 77 = .ok (.aload_n 0, 1) := by decide +kernel
theorem dX12_doneBy_78 : decode prog_14_method_123_code 78 = .ok (.aload_n 0, 1) := by decide +kernel
theorem dX12_doneBy_79 : decode prog_14_method_123_code 79 = .ok (.getfield 7, 3) := by decide +kernel
theorem dX12_doneBy_82 : decode prog_14_method_123_code 82 = .ok (.iconst 2, 1) := by decide +kernel
theorem dX12_doneBy_83 : decode prog_14_method_123_code 83 = .ok (.iaload, 1) := by decide +kernel
theorem dX12_doneBy_84 : decode prog_14_method_123_code 84 = .ok (.aload_n 0, 1) := by decide +kernel
theorem dX12_doneBy_85 : decode prog_14_method_123_code 85 = .ok (.getfield 56, 3) := by decide +kernel
theorem dX12_doneBy_88 : decode prog_14_method_123_code 88 = .ok (.iload 4, 2) := by decide +kernel
theorem dX12_doneBy_90 : decode prog_14_method_123_code 90 = .ok (.iaload, 1) := by decide +kernel
theorem dX12_doneBy_91 : decode prog_14_method_123_code 91 = .ok (.iload_n 3, 1) := by decide +kernel
theorem dX12_doneBy_92 : decode prog_14_method_123_code 92 = .ok (.iload_n 2, 1) := by decide +kernel
theorem dX12_doneBy_93 : decode prog_14_method_123_code 93 = .ok (.invokevirtual 320, 3) := by decide +kernel
theorem dX12_doneBy_96 : decode prog_14_method_123_code 96 = .ok (.istore 5, 2) := by decide +kernel
theorem dX12_doneBy_98 : decode prog_14_method_123_code 98 = .ok (.iload_n 2, 1) := by decide +kernel
theorem dX12_doneBy_99 : decode prog_14_method_123_code 99 = .ok (.iload 5, 2) := by decide +kernel
theorem dX12_doneBy_101 : decode prog_14_method_123_code 101 = .ok (.isub, 1) := by decide +kernel
theorem dX12_doneBy_102 : decode prog_14_method_123_code 102 = .ok (.istore_n 2, 1) := by decide +kernel
theorem dX12_doneBy_103 : decode prog_14_method_123_code 103 = .ok (.aload_n 0, 1) := by decide +kernel
theorem dX12_doneBy_104 : decode prog_14_method_123_code 104 = .ok (.dup, 1) := by decide +kernel
theorem dX12_doneBy_105 : decode prog_14_method_123_code 105 = .ok (.getfield 439, 3) := by decide +kernel
theorem dX12_doneBy_108 : decode prog_14_method_123_code 108 = .ok (.iload 5, 2) := by decide +kernel
theorem dX12_doneBy_110 : decode prog_14_method_123_code 110 = .ok (.iadd, 1) := by decide +kernel
theorem dX12_doneBy_111 : decode prog_14_method_123_code 111 = .ok (.putfield 439, 3) := by decide +kernel
theorem dX12_doneBy_114 : decode prog_14_method_123_code 114 = .ok (.iinc 4 1, 3) := by decide +kernel
theorem dX12_doneBy_117 : decode prog_14_method_123_code 117 = .ok (.goto (-99), 3) := by decide +kernel
theorem dX12_doneBy_120 : decode prog_14_method_123_code 120 = .ok (.iload_n 3, 1) := by decide +kernel
theorem dX12_doneBy_121 : decode prog_14_method_123_code 121 = .ok (.ireturn, 1) := by decide +kernel
def Fdn (I J : CI) : Prop := (∀ c, c ≠ 306 → c ≠ 312 → c ≠ 313 → c ≠ 314 → J c = I c) ∧ ∀ q, q ≠ 30 → J 306 q = I 306 q
theorem Fdn.rf : Fdn I I := ⟨fun _ _ _ _ _ => rfl, fun _ _ => rfl⟩
theorem Fdn.tr {J K : CI} (h : Fdn I J) (h2 : Fdn J K) : Fdn I K := ⟨fun c a b d e => (h2.1 c a b d e).trans (h.1 c a b d e), fun q a => (h2.2 q a).trans (h.2 q a)⟩
theorem FD.dn {J : CI} (h : FD I J) : Fdn I J := ⟨fun c _ b d e => h c b d e, fun q _ => by rw [h 306 (by omega) (by omega) (by omega)]⟩
theorem Fdn.u30 {J : CI} {v : Int} (h : Fdn I J) : Fdn I (uI J 306 30 v) := ⟨fun c a b d e => by rw [uI_row a]; exact h.1 c a b d e, fun q a => by rw [uI_o (by omega)]; exact h.2 q a⟩
theorem puP_up {t paid : Int} : puP A (t + 1) paid = puP A t paid + A 114 := by
  unfold puP
  rw [Int.mul_add, Int.mul_one]
  omega
theorem puP_pay {t paid x : Int} : puP A t (paid + x) = puP A t paid - x := by
  unfold puP; omega
theorem lp_done1 {o : List Nat} {n0 kk q : Nat} {t paid : Int} (cs : CS S R) (hb : BA A) (hn : 5 ≤ n) (hq : q < 8) (hko : kk < 5) (hn0 : n0 ≤ 5) (ht : 0 ≤ t ∧ t ≤ 60) (hpd : 0 ≤ paid ∧ paid ≤ 50000) (hpn : fdL A tx q paid 61 (61 - t).toNat t = -1 → ∀ J, Fdn I J → J 306 30 = paid → Post (some (.int (iI (-1)))) S J R) (hK : fdL A tx q paid 61 (61 - t).toNat t ≠ -1 → ∀ J, Fdn I J → J 306 30 = paid → WP n 0 0 mX12_doneBy Post 77 [(0, .ref (S.2.1 306)), (1, .int (iI (n0 : Int))), (2, .int (iI (puP A (fdL A tx q paid 61 (61 - t).toNat t) paid))), (3, .int (iI (fdL A tx q paid 61 (61 - t).toNat t))), (4, .int (iI (kk : Int)))] [] 0 0 S J R) (hA : I 307 = A) (hT : RTx (I 309) A tx) (ho : I 318 kk = (q : Int)) : ∀ (f : Nat) (t2 : Int) (J : CI), t ≤ t2 → t2 + f = 61 → Fdn I J → J 306 30 = paid → fdL A tx q paid 61 f t2 = fdL A tx q paid 61 (61 - t).toNat t → WP n 0 0 mX12_doneBy Post 24 [(0, .ref (S.2.1 306)), (1, .int (iI (n0 : Int))), (2, .int (iI (puP A t2 paid))), (3, .int (iI t2)), (4, .int (iI (kk : Int)))] [] 0 0 S J R := by
  have hN := BA_bn hb
  obtain ⟨b0, b1, b2, b7, b8, b9, b10, bq⟩ := id hN
  intro f
  induction f with
  | zero =>
    intro t2 J h1 h2 hF h30 he
    have e0 : fdL A tx q paid 61 (61 - t).toNat t = -1 := by rw [← he]; rfl
    refine x_iload_n dX12_doneBy_24 rfl ?_
    refine x_bipush dX12_doneBy_25 (by decide) ?_
    refine x_icmp_gt 69 dX12_doneBy_27 (by decide) ⟨(by omega), (by omega)⟩ (fun w27 => ?_) (fun w27 => ?_)
    · refine x_iload_n dX12_doneBy_69 rfl ?_
      refine x_bipush dX12_doneBy_70 (by decide) ?_
      refine x_icmp_le 77 dX12_doneBy_72 (by decide) ⟨(by omega), (by omega)⟩ (fun w72 => ?_) (fun w72 => ?_)
      · exfalso; omega
      · refine x_iconst dX12_doneBy_75 ?_
        exact x_ireturn dX12_doneBy_76 rfl (by omega) (by omega) (hpn e0 J hF h30)
    · exfalso; omega
  | succ f ih =>
    intro t2 J h1 h2 hF h30 he
    have aJ : J 307 = A := by rw [hF.1 307 (by omega) (by omega) (by omega) (by omega)]; exact hA
    have tJ : RTx (J 309) A tx := by rw [hF.1 309 (by omega) (by omega) (by omega) (by omega)]; exact hT
    have oJ : J 318 kk = (q : Int) := by rw [hF.1 318 (by omega) (by omega) (by omega) (by omega)]; exact ho
    have pb := puP_b hb (d := t2) (paid := paid) (by omega) (by omega)
    have db := duesP_b A tx (A 2) q t2 (puP A t2 paid)
    have es : fdL A tx q paid 61 (f + 1) t2 = if duesP A tx (A 2) q t2 (puP A t2 paid) ≤ puP A t2 paid then t2 else fdL A tx q paid 61 f (t2 + 1) := by
      show (if t2 ≤ 61 then _ else _) = _
      rw [if_pos (by omega)]
    refine x_iload_n dX12_doneBy_24 rfl ?_
    refine x_bipush dX12_doneBy_25 (by decide) ?_
    refine x_icmp_gt 69 dX12_doneBy_27 (by decide) ⟨(by omega), (by omega)⟩ (fun w27 => ?_) (fun w27 => ?_)
    · exfalso; omega
    · refine x_iload_n dX12_doneBy_30 rfl ?_
      refine x_aload_n dX12_doneBy_31 rfl ?_
      refine x_aload_n dX12_doneBy_32 rfl ?_
      refine x_getR (b := 307) dX12_doneBy_33 gf_RX12_7 (k_ob_306 cs) (fun _ _ => rfl) (k_r_306_0 cs) ?_
      refine x_iconst dX12_doneBy_36 ?_
      refine x_ald7 (kk := 2) (v := A 2) dX12_doneBy_37 cs (by omega) (by omega) (by rw [aJ]; repeat (first | rfl | rw [upA_s] | rw [upA_o (by omega)])) ?_
      refine x_aload_n dX12_doneBy_38 rfl ?_
      refine x_getR (b := 318) dX12_doneBy_39 gf_RX12_56 (k_ob_306 cs) (fun _ _ => rfl) (k_r_306_28 cs) ?_
      refine x_iload dX12_doneBy_42 rfl ?_
      refine x_iaload dX12_doneBy_44 (k_ar_318 cs) (by omega) (by omega) ?_
      rw [show J 318 ((kk : Int)).toNat = (q : Int) from oJ]
      refine x_iload_n dX12_doneBy_45 rfl ?_
      refine x_iload_n dX12_doneBy_46 rfl ?_
      refine x_callV4 (mc1 := 0) (ms1 := 0) dX12_doneBy_47 cv_RX12_320 (ci := 12) (k_ob_306 cs) rfl (Nat.le_of_ble_eq_true rfl) (n1 := n - 1) (by omega) (by omega) (by omega) ?_
      refine sp_X12_duesBy cs aJ hN tJ (by omega) hq (by omega) (by omega) (by omega) (fun J47 f47 => ?_)
      have a47 : J47 307 = A := by rw [f47 307 (by omega) (by omega) (by omega)]; exact aJ
      have h47 : J47 306 30 = paid := by rw [f47 306 (by omega) (by omega) (by omega)]; exact h30
      refine x_icmp_ge 69 dX12_doneBy_50 (by decide) ⟨(by omega), (by omega)⟩ (fun w50 => ?_) (fun w50 => ?_)
      · refine x_iload_n dX12_doneBy_69 rfl ?_
        refine x_bipush dX12_doneBy_70 (by decide) ?_
        refine x_icmp_le 77 dX12_doneBy_72 (by decide) ⟨(by omega), (by omega)⟩ (fun w72 => ?_) (fun w72 => ?_)
        · refine x_sub [0, 1, 2, 3, 4] rfl ?_
          rw [es, if_pos (by omega)] at he
          have h9 := hK (by rw [← he]; omega) J47 (Fdn.tr hF (FD.dn f47)) h47
          rw [← he] at h9
          exact h9
        · exfalso; omega
      · refine x_iinc (lv2 := [(3, _), (0, _), (1, _), (2, _), (4, _)]) dX12_doneBy_53 rfl (by decide) rfl ?_
        refine x_iload_n dX12_doneBy_56 rfl ?_
        refine x_aload_n dX12_doneBy_57 rfl ?_
        refine x_getR (b := 307) dX12_doneBy_58 gf_RX12_7 (k_ob_306 cs) (fun _ _ => rfl) (k_r_306_0 cs) ?_
        refine x_bipush dX12_doneBy_61 (by decide) ?_
        refine x_ald7 (kk := 114) (v := A 114) dX12_doneBy_63 cs (by omega) (by omega) (by rw [a47]; repeat (first | rfl | rw [upA_s] | rw [upA_o (by omega)])) ?_
        refine x_iadd dX12_doneBy_64 ?_
        refine x_istore_n (lv2 := [(2, _), (3, _), (0, _), (1, _), (4, _)]) dX12_doneBy_65 (by decide) rfl ?_
        refine x_goto 24 dX12_doneBy_66 (by decide) ?_
        refine x_sub [2, 3, 0, 1, 4] rfl ?_
        rw [es, if_neg (by omega)] at he
        rw [← puP_up]
        exact ih (t2 + 1) J47 (by omega) (by omega) (Fdn.tr hF (FD.dn f47)) h47 he
theorem lp_done {o : List Nat} {n0 : Nat} (cs : CS S R) (hb : BA A) (hn : 5 ≤ n) (hn0 : o.length = n0) (h5 : n0 ≤ 5) (h8 : ∀ x ∈ o, x < 8) (hA : I 307 = A) (hT : RTx (I 309) A tx) (ho : ∀ q, q < n0 → I 318 q = ((o.getD q 0 : Nat) : Int)) (hp : ∀ (J : CI) (r : Int), Fdn I J → (evL A tx o 0 0 = none ∧ r = -1 ∨ ∃ p, evL A tx o 0 0 = some (r, p) ∧ J 306 30 = p ∧ (0 ≤ p ∧ p ≤ 50000) ∧ 0 ≤ r ∧ r ≤ 60) → Post (some (.int (iI r))) S J R) : ∀ (d kk : Nat) (J : CI) (t paid : Int), kk ≤ n0 → n0 - kk = d → Fdn I J → J 306 30 = paid → (0 ≤ t ∧ t ≤ 60) → (0 ≤ paid ∧ paid ≤ 9999 * kk) → evL A tx o 0 0 = evL A tx (o.drop kk) t paid → WP n 0 0 mX12_doneBy Post 18 [(0, .ref (S.2.1 306)), (1, .int (iI (n0 : Int))), (2, .int (iI (puP A t paid))), (3, .int (iI t)), (4, .int (iI (kk : Int)))] [] 0 0 S J R := by
  have hN := BA_bn hb
  obtain ⟨b0, b1, b2, b7, b8, b9, b10, bq⟩ := id hN
  intro d
  induction d using Nat.strongRecOn with
  | ind d ih =>
    intro kk J t paid h1 h2 hF h30 ht hpd he
    have aJ : J 307 = A := by rw [hF.1 307 (by omega) (by omega) (by omega) (by omega)]; exact hA
    have tJ : RTx (J 309) A tx := by rw [hF.1 309 (by omega) (by omega) (by omega) (by omega)]; exact hT
    refine x_iload dX12_doneBy_18 rfl ?_
    refine x_iload_n dX12_doneBy_20 rfl ?_
    refine x_icmp_ge 120 dX12_doneBy_21 (by decide) ⟨(by omega), (by omega)⟩ (fun w21 => ?_) (fun w21 => ?_)
    · refine x_iload_n dX12_doneBy_120 rfl ?_
      exact x_ireturn dX12_doneBy_121 rfl (by omega) (by omega) (by
  obtain rfl : kk = n0 := by omega
  refine hp J t hF (Or.inr ⟨paid, ?_, h30, by omega, by omega, by omega⟩)
  rw [he, List.drop_eq_nil_of_le (by omega)]
  rfl)
    · refine x_sub [0, 1, 2, 3, 4] rfl ?_
      obtain ⟨q, hqe⟩ : ∃ q, o.getD kk 0 = q := ⟨_, rfl⟩
      have hlt : kk < o.length := by omega
      have hdr : o.drop kk = q :: o.drop (kk + 1) := by
        rw [List.drop_eq_getElem_cons hlt]
        congr 1
        rw [← hqe, List.getD_eq_getElem?_getD, List.getElem?_eq_getElem hlt]
        rfl
      have hq : q < 8 := h8 q (by rw [← hqe, List.getD_eq_getElem?_getD, List.getElem?_eq_getElem hlt]; exact List.getElem_mem hlt)
      have oJ : J 318 kk = (q : Int) := by rw [hF.1 318 (by omega) (by omega) (by omega) (by omega), ho kk (by omega), hqe]
      have hfb := fdL_b (A := A) (tx := tx) (q := q) (paid := paid) (bd := 61) (61 - t).toNat t ht.1
      refine lp_done1 (I := J) (o := o) (n0 := n0) (kk := kk) (q := q) (t := t) (paid := paid) cs hb hn hq (by omega) h5 ht (by omega) (fun hne K hFK h30K => hp K (-1) (Fdn.tr hF hFK) (Or.inl ⟨?_, rfl⟩)) (fun hne K hFK h30K => ?_) aJ tJ oJ (61 - t).toNat t J (by omega) (by omega) Fdn.rf h30 rfl
      · rw [he, hdr]
        show (if fdL A tx q paid 61 (61 - t).toNat t = -1 then none else _) = _
        rw [if_pos hne]
      obtain ⟨w, hw⟩ : ∃ w, fdL A tx q paid 61 (61 - t).toNat t = w := ⟨_, rfl⟩
      rw [hw] at hne hfb ⊢
      have aK : K 307 = A := by rw [hFK.1 307 (by omega) (by omega) (by omega) (by omega)]; exact aJ
      have tK : RTx (K 309) A tx := by rw [hFK.1 309 (by omega) (by omega) (by omega) (by omega)]; exact tJ
      have oK : K 318 kk = (q : Int) := by rw [hFK.1 318 (by omega) (by omega) (by omega) (by omega)]; exact oJ
      have pb := puP_b hb (d := w) (paid := paid) (by omega) (by omega)
      have db := duesP_b A tx (A 2) q w (puP A w paid)
      refine x_aload_n dX12_doneBy_77 rfl ?_
      refine x_aload_n dX12_doneBy_78 rfl ?_
      refine x_getR (b := 307) dX12_doneBy_79 gf_RX12_7 (k_ob_306 cs) (fun _ _ => rfl) (k_r_306_0 cs) ?_
      refine x_iconst dX12_doneBy_82 ?_
      refine x_ald7 (kk := 2) (v := A 2) dX12_doneBy_83 cs (by omega) (by omega) (by rw [aK]; repeat (first | rfl | rw [upA_s] | rw [upA_o (by omega)])) ?_
      refine x_aload_n dX12_doneBy_84 rfl ?_
      refine x_getR (b := 318) dX12_doneBy_85 gf_RX12_56 (k_ob_306 cs) (fun _ _ => rfl) (k_r_306_28 cs) ?_
      refine x_iload dX12_doneBy_88 rfl ?_
      refine x_iaload dX12_doneBy_90 (k_ar_318 cs) (by omega) (by omega) ?_
      rw [show K 318 ((kk : Int)).toNat = (q : Int) from oK]
      refine x_iload_n dX12_doneBy_91 rfl ?_
      refine x_iload_n dX12_doneBy_92 rfl ?_
      refine x_callV4 (mc1 := 0) (ms1 := 0) dX12_doneBy_93 cv_RX12_320 (ci := 12) (k_ob_306 cs) rfl (Nat.le_of_ble_eq_true rfl) (n1 := n - 1) (by omega) (by omega) (by omega) ?_
      refine sp_X12_duesBy cs aK hN tK (by omega) hq (by omega) (by omega) (by omega) (fun J93 f93 => ?_)
      have h93 : J93 306 30 = paid := by rw [f93 306 (by omega) (by omega) (by omega)]; exact h30K
      refine x_istore (lv2 := [(5, _), (0, _), (1, _), (2, _), (3, _), (4, _)]) dX12_doneBy_96 (by decide) rfl ?_
      refine x_iload_n dX12_doneBy_98 rfl ?_
      refine x_iload dX12_doneBy_99 rfl ?_
      refine x_isub dX12_doneBy_101 ?_
      refine x_istore_n (lv2 := [(2, _), (5, _), (0, _), (1, _), (3, _), (4, _)]) dX12_doneBy_102 (by decide) rfl ?_
      refine x_aload_n dX12_doneBy_103 rfl ?_
      refine x_dup dX12_doneBy_104 rfl ?_
      refine x_getIv (z := paid) dX12_doneBy_105 gf_RX12_439 (k_ob_306 cs) (fun _ _ => rfl) (by exact h93) ?_
      refine x_iload dX12_doneBy_108 rfl ?_
      refine x_iadd dX12_doneBy_110 ?_
      refine x_putI dX12_doneBy_111 gf_RX12_439 (k_ob_306 cs) rfl ?_
      refine x_iinc (lv2 := [(4, _), (2, _), (5, _), (0, _), (1, _), (3, _)]) dX12_doneBy_114 rfl (by decide) rfl ?_
      refine x_goto 18 dX12_doneBy_117 (by decide) ?_
      refine x_sub [3, 4, 1, 5, 0] rfl ?_
      rw [← puP_pay, show (kk : Int) + 1 = ((kk + 1 : Nat) : Int) from rfl]
      refine ih (n0 - (kk + 1)) (by omega) (kk + 1) _ w (paid + duesP A tx (A 2) q w (puP A w paid)) (by omega) rfl (Fdn.u30 (Fdn.tr (Fdn.tr hF hFK) (FD.dn f93))) (by rw [uI_s]) (by omega) (by omega) ?_
      rw [he, hdr]
      show (if fdL A tx q paid 61 (61 - t).toNat t = -1 then none else _) = _
      rw [hw, if_neg hne]
theorem sp_X12_doneBy {o : List Nat} {n0 : Nat} (cs : CS S R) (hb : BA A) (hn : 5 ≤ n) (hn0 : o.length = n0) (h5 : n0 ≤ 5) (h8 : ∀ x ∈ o, x < 8) (hA : I 307 = A) (hT : RTx (I 309) A tx) (ho : ∀ q, q < n0 → I 318 q = ((o.getD q 0 : Nat) : Int)) (hp : ∀ (J : CI) (r : Int), Fdn I J → (evL A tx o 0 0 = none ∧ r = -1 ∨ ∃ p, evL A tx o 0 0 = some (r, p) ∧ J 306 30 = p ∧ (0 ≤ p ∧ p ≤ 50000) ∧ 0 ≤ r ∧ r ≤ 60) → Post (some (.int (iI r))) S J R) : Call n 0 0 mX12_doneBy [.ref (S.2.1 306), .int (iI (n0 : Int))] S I R Post := by
  refine Call.of (by decide +kernel) (Nat.le_of_ble_eq_true rfl) ?_
  show WP _ _ _ _ _ 0 [(0, _), (1, _)] [] 0 0 _ _ _
  refine x_aload_n dX12_doneBy_0 rfl ?_
  refine x_getR (b := 307) dX12_doneBy_1 gf_RX12_7 (k_ob_306 cs) (fun _ _ => rfl) (k_r_306_0 cs) ?_
  refine x_bipush dX12_doneBy_4 (by decide) ?_
  refine x_ald7 (kk := 9) (v := A 9) dX12_doneBy_6 cs (by omega) (by omega) (by rw [hA]) ?_
  refine x_istore_n (lv2 := [(2, _), (0, _), (1, _)]) dX12_doneBy_7 (by decide) rfl ?_
  refine x_iconst dX12_doneBy_8 ?_
  refine x_istore_n (lv2 := [(3, _), (2, _), (0, _), (1, _)]) dX12_doneBy_9 (by decide) rfl ?_
  refine x_aload_n dX12_doneBy_10 rfl ?_
  refine x_iconst dX12_doneBy_11 ?_
  refine x_putI dX12_doneBy_12 gf_RX12_439 (k_ob_306 cs) rfl ?_
  refine x_iconst dX12_doneBy_15 ?_
  refine x_istore (lv2 := [(4, _), (3, _), (2, _), (0, _), (1, _)]) dX12_doneBy_16 (by decide) rfl ?_
  refine x_sub [3, 4, 2, 1, 0] rfl ?_
  rw [show A 9 = puP A 0 0 by unfold puP; omega]
  exact lp_done (I := uI I 306 30 0) cs hb hn hn0 h5 h8 (by rw [uI_row (by omega)]; exact hA) (by rw [uI_row (by omega)]; exact hT) (fun q hq => by rw [uI_row (by omega)]; exact ho q hq) (fun J r h1 h2 => hp J r (Fdn.tr (Fdn.u30 Fdn.rf) h1) h2) n0 0 _ 0 0 (by omega) rfl Fdn.rf (by rw [uI_s]) (by omega) (by omega) rfl
end Pl2s
