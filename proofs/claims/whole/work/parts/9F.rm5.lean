section Rm5s
variable {n mc ms : Nat} {M : Md} {pc : Nat} {lv : List (Nat × Value)} {st : List Value} {k j : Nat} {Post : PT} {S : Sh} {I : CI} {R : CR} {A : Nat → Int} {tx : Nat → Nat → Int}
variable {t : Nat → Int} {l o : Nat} {sl : Bool} {cu : Cu} {p b : List Int}
theorem dX12_betweenOf_0 : decode prog_14_method_48_code 0 = .ok (.aload_n 0, 1) := by decide +kernel
theorem dX12_betweenOf_1 : decode prog_14_method_48_code 1 = .ok (.getfield 115, 3) := by decide +kernel
theorem dX12_betweenOf_4 : decode prog_14_method_48_code 4 = .ok (.bipush 43, 2) := by decide +kernel
theorem dX12_betweenOf_6 : decode prog_14_method_48_code 6 = .ok (.if_icmp .ne 6, 3) := by decide +kernel
theorem dX12_betweenOf_9 : decode prog_14_method_48_code 9 = .ok (.bipush 6, 2) := by decide +kernel
theorem dX12_betweenOf_11 : decode prog_14_method_48_code 11 = .ok (.ireturn, 1) := by decide +kernel
theorem dX12_betweenOf_12 : decode prog_14_method_48_code 12 = .ok (.aload_n 0, 1) := by decide +kernel
theorem dX12_betweenOf_13 : decode prog_14_method_48_code 13 = .ok (.getfield 115, 3) := by decide +kernel
theorem dX12_betweenOf_16 : decode prog_14_method_48_code 16 = .ok (.bipush 45, 2) := by decide +kernel
theorem dX12_betweenOf_18 : decode prog_14_method_48_code 18 = .ok (.if_icmp .ne 6, 3) := by decide +kernel
theorem dX12_betweenOf_21 : decode prog_14_method_48_code 21 = .ok (.bipush 7, 2) := by decide +kernel
theorem dX12_betweenOf_23 : decode prog_14_method_48_code 23 = .ok (.ireturn, 1) := by decide +kernel
theorem dX12_betweenOf_24 : decode prog_14_method_48_code 24 = .ok (.aload_n 0, 1) := by decide +kernel
theorem dX12_betweenOf_25 : decode prog_14_method_48_code 25 = .ok (.getfield 115, 3) := by decide +kernel
theorem dX12_betweenOf_28 : decode prog_14_method_48_code 28 = .ok (.bipush 42, 2) := by decide +kernel
theorem dX12_betweenOf_30 : decode prog_14_method_48_code 30 = .ok (.if_icmp .ne 6, 3) := by decide +kernel
theorem dX12_betweenOf_33 : decode prog_14_method_48_code 33 = .ok (.bipush 8, 2) := by decide +kernel
theorem dX12_betweenOf_35 : decode prog_14_method_48_code 35 = .ok (.ireturn, 1) := by decide +kernel
theorem dX12_betweenOf_36 : decode prog_14_method_48_code 36 = .ok (.aload_n 0, 1) := by decide +kernel
theorem dX12_betweenOf_37 : decode prog_14_method_48_code 37 = .ok (.getfield 115, 3) := by decide +kernel
theorem dX12_betweenOf_40 : decode prog_14_method_48_code 40 = .ok (.bipush 47, 2) := by decide +kernel
theorem dX12_betweenOf_42 : decode prog_14_method_48_code 42 = .ok (.if_icmp .ne 6, 3) := by decide +kernel
theorem dX12_betweenOf_45 : decode prog_14_method_48_code 45 = .ok (.bipush 9, 2) := by decide +kernel
theorem dX12_betweenOf_47 : decode prog_14_method_48_code 47 = .ok (.ireturn, 1) := by decide +kernel
theorem dX12_betweenOf_48 : decode prog_14_method_48_code 48 = .ok (.aload_n 0, 1) := by decide +kernel
theorem dX12_betweenOf_49 : decode prog_14_method_48_code 49 = .ok (.invokevirtual 183, 3) := by decide +kernel
theorem dX12_betweenOf_52 : decode prog_14_method_48_code 52 = .ok (.bipush 42, 2) := by decide +kernel
theorem dX12_betweenOf_54 : decode prog_14_method_48_code 54 = .ok (.if_icmp .eq 5, 3) := by decide +kernel
theorem dX12_betweenOf_57 : decode prog_14_method_48_code 57 = .ok (.iconst (-1), 1) := by decide +kernel
theorem dX12_betweenOf_58 : decode prog_14_method_48_code 58 = .ok (.ireturn, 1) := by decide +kernel
theorem dX12_betweenOf_59 : decode prog_14_method_48_code 59 = .ok (.aload_n 0, 1) := by decide +kernel
theorem dX12_betweenOf_60 : decode prog_14_method_48_code 60 = .ok (.invokevirtual 215, 3) := by decide +kernel
theorem dX12_betweenOf_63 : decode prog_14_method_48_code 63 = .ok (.ifCond .ne 8, 3) := by decide +kernel
theorem dX12_betweenOf_66 : decode prog_14_method_48_code 66 = .ok (.aload_n 0, 1) := by decide +kernel
theorem dX12_betweenOf_67 : decode prog_14_method_48_code 67 = .ok (.invokevirtual 218, 3) := by decide +kernel
theorem dX12_betweenOf_70 : decode prog_14_method_48_code 70 = .ok (.ireturn, 1) := by decide +kernel
theorem dX12_betweenOf_71 : decode prog_14_method_48_code 71 = .ok (.aload_n 0, 1) := by decide +kernel
theorem dX12_betweenOf_72 : decode prog_14_method_48_code 72 = .ok (.bipush 97, 2) := by decide +kernel
theorem dX12_betweenOf_74 : decode prog_14_method_48_code 74 = .ok (.bipush 110, 2) := by decide +kernel
theorem dX12_betweenOf_76 : decode prog_14_method_48_code 76 = .ok (.bipush 100, 2) := by decide +kernel
theorem dX12_betweenOf_78 : decode prog_14_method_48_code 78 = .ok (.invokestatic 141, 3) := by decide +kernel
theorem dX12_betweenOf_81 : decode prog_14_method_48_code 81 = .ok (.invokevirtual 201, 3) := by decide +kernel
theorem dX12_betweenOf_84 : decode prog_14_method_48_code 84 = .ok (.ifCond .eq 8, 3) := by decide +kernel
theorem dX12_betweenOf_87 : decode prog_14_method_48_code 87 = .ok (.bipush 21, 2) := by decide +kernel
theorem dX12_betweenOf_89 : decode prog_14_method_48_code 89 = .ok (.goto 23, 3) := by decide +kernel
theorem dX12_betweenOf_92 : decode prog_14_method_48_code 92 = .ok (.aload_n 0, 1) := by decide +kernel
theorem dX12_betweenOf_93 : decode prog_14_method_48_code 93 = .ok (.bipush 111, 2) := by decide +kernel
theorem dX12_betweenOf_95 : decode prog_14_method_48_code 95 = .ok (.bipush 114, 2) := by decide +kernel
theorem dX12_betweenOf_97 : decode prog_14_method_48_code 97 = .ok (.invokestatic 137, 3) := by decide +kernel
theorem dX12_betweenOf_100 : decode prog_14_method_48_code 100 = .ok (.invokevirtual 201, 3) := by decide +kernel
theorem dX12_betweenOf_103 : decode prog_14_method_48_code 103 = .ok (.ifCond .eq 8, 3) := by decide +kernel
theorem dX12_betweenOf_106 : decode prog_14_method_48_code 106 = .ok (.bipush 22, 2) := by decide +kernel
theorem dX12_betweenOf_108 : decode prog_14_method_48_code 108 = .ok (.goto 4, 3) := by decide +kernel
theorem dX12_betweenOf_111 : decode prog_14_method_48_code 111 = .ok (.iconst (-1), 1) := by decide +kernel
theorem dX12_betweenOf_112 : decode prog_14_method_48_code 112 = .ok (.ireturn, 1) := by decide +kernel
theorem sp_X12_betweenOf (cs : CS S R) (hn : 3 ≤ n) (h : RfB I t l o sl p cu b) (hp : Post (some (.int (iI (btw p cu.2.2.1)))) S I R) : Call n 0 0 mX12_betweenOf [.ref (S.2.1 306)] S I R Post := by
  obtain ⟨h1, h2, h3, h4, h5, h6, h7, h8⟩ := id h
  have hl := okP_160 h5 h6
  obtain ⟨⟨a1, a2, a3, a4⟩, ⟨a5, a5n⟩, a6, a7, a8, a9, a10⟩ := id h1.2.1
  have okk := h1.2.2.2.2.2.2.1
  have hov := opn_v h5
  have b1 := a7 43 (by omega)
  have b2 := a7 45 (by omega)
  have b3 := a7 42 (by omega)
  have b4 := a7 47 (by omega)
  have e : ∀ z : Int, btw p cu.2.2.1 = z → Post (some (.int (iI z))) S I R := fun z hz => by rw [← hz]; exact hp
  refine Call.of (by decide +kernel) (Nat.le_of_ble_eq_true rfl) ?_
  show WP _ _ _ _ _ 0 [(0, _)] [] 0 0 _ _ _
  refine x_aload_n dX12_betweenOf_0 rfl ?_
  refine x_getI dX12_betweenOf_1 gf_RX12_115 (k_ob_306 cs) (fun _ _ => rfl) ?_
  refine x_bipush dX12_betweenOf_4 (by decide) ?_
  refine x_icmp_ne 12 dX12_betweenOf_6 (by decide) ⟨(by omega), (by omega)⟩ (fun w6 => ?_) (fun w6 => ?_)
  · refine x_aload_n dX12_betweenOf_12 rfl ?_
    refine x_getI dX12_betweenOf_13 gf_RX12_115 (k_ob_306 cs) (fun _ _ => rfl) ?_
    refine x_bipush dX12_betweenOf_16 (by decide) ?_
    refine x_icmp_ne 24 dX12_betweenOf_18 (by decide) ⟨(by omega), (by omega)⟩ (fun w18 => ?_) (fun w18 => ?_)
    · refine x_aload_n dX12_betweenOf_24 rfl ?_
      refine x_getI dX12_betweenOf_25 gf_RX12_115 (k_ob_306 cs) (fun _ _ => rfl) ?_
      refine x_bipush dX12_betweenOf_28 (by decide) ?_
      refine x_icmp_ne 36 dX12_betweenOf_30 (by decide) ⟨(by omega), (by omega)⟩ (fun w30 => ?_) (fun w30 => ?_)
      · refine x_aload_n dX12_betweenOf_36 rfl ?_
        refine x_getI dX12_betweenOf_37 gf_RX12_115 (k_ob_306 cs) (fun _ _ => rfl) ?_
        refine x_bipush dX12_betweenOf_40 (by decide) ?_
        refine x_icmp_ne 48 dX12_betweenOf_42 (by decide) ⟨(by omega), (by omega)⟩ (fun w42 => ?_) (fun w42 => ?_)
        · refine x_aload_n dX12_betweenOf_48 rfl ?_
          refine x_callV0 (mc1 := 0) (ms1 := 0) dX12_betweenOf_49 cv_RX12_183 (ci := 12) (k_ob_306 cs) rfl (Nat.le_of_ble_eq_true rfl) (n1 := n - 1) (by omega) (by omega) (by omega) ?_
          refine sp_X12_openNow cs (by omega) h2 h5 (by omega) ?_
          refine x_bipush dX12_betweenOf_52 (by decide) ?_
          refine x_icmp_eq 59 dX12_betweenOf_54 (by decide) ⟨(by omega), (by omega)⟩ (fun w54 => ?_) (fun w54 => ?_)
          · refine x_aload_n dX12_betweenOf_59 rfl ?_
            refine x_callV0 (mc1 := 0) (ms1 := 0) dX12_betweenOf_60 cv_RX12_215 (ci := 12) (k_ob_306 cs) rfl (Nat.le_of_ble_eq_true rfl) (n1 := n - 1) (by omega) (by omega) (by omega) ?_
            refine sp_X12_isCompared cs (by omega) h2 h5 (by omega) (fun r60 hr60 => ?_)
            refine x_if_ne 71 dX12_betweenOf_63 (by decide) (by omega) (fun w63 => ?_) (fun w63 => ?_)
            · refine x_aload_n dX12_betweenOf_71 rfl ?_
              refine x_bipush dX12_betweenOf_72 (by decide) ?_
              refine x_bipush dX12_betweenOf_74 (by decide) ?_
              refine x_bipush dX12_betweenOf_76 (by decide) ?_
              refine x_callS3 (mc1 := 0) (ms1 := 0) dX12_betweenOf_78 cv_RX12_141 (Nat.le_of_ble_eq_true rfl) (n1 := n - 1) (by omega) (by omega) (by omega) ?_
              refine sp_X12_w3 (by omega) ?_ (by omega)
              refine x_callV1 (mc1 := 0) (ms1 := 0) dX12_betweenOf_81 cv_RX12_201 (ci := 12) (k_ob_306 cs) rfl (Nat.le_of_ble_eq_true rfl) (n1 := n - 1) (by omega) (by omega) (by omega) ?_
              refine sp_isW (cu := cu) (K := 150) cs (by decide) h1.2.1 (fun r81 hr81 => ?_)
              refine x_if_eq 92 dX12_betweenOf_84 (by decide) (by omega) (fun w84 => ?_) (fun w84 => ?_)
              · refine x_aload_n dX12_betweenOf_92 rfl ?_
                refine x_bipush dX12_betweenOf_93 (by decide) ?_
                refine x_bipush dX12_betweenOf_95 (by decide) ?_
                refine x_callS2 (mc1 := 0) (ms1 := 0) dX12_betweenOf_97 cv_RX12_137 (Nat.le_of_ble_eq_true rfl) (n1 := n - 1) (by omega) (by omega) (by omega) ?_
                refine sp_X12_w2 (by omega) ?_ (by omega)
                refine x_callV1 (mc1 := 0) (ms1 := 0) dX12_betweenOf_100 cv_RX12_201 (ci := 12) (k_ob_306 cs) rfl (Nat.le_of_ble_eq_true rfl) (n1 := n - 1) (by omega) (by omega) (by omega) ?_
                refine sp_isW (cu := cu) (K := 151) cs (by decide) h1.2.1 (fun r100 hr100 => ?_)
                refine x_if_eq 111 dX12_betweenOf_103 (by decide) (by omega) (fun w103 => ?_) (fun w103 => ?_)
                · refine x_iconst dX12_betweenOf_111 ?_
                  exact x_ireturn dX12_betweenOf_112 rfl (by omega) (by omega) (by
  refine e _ ?_
  first
  | (unfold btw; rw [if_pos (by omega)]; done)
  | (unfold btw; rw [if_neg (by omega), if_pos (by omega)]; done)
  | (unfold btw; rw [if_neg (by omega), if_neg (by omega), if_pos (by omega)]; done)
  | (unfold btw; rw [if_neg (by omega), if_neg (by omega), if_neg (by omega), if_pos (by omega)]; done)
  | exact btw_n (by omega) (by omega)
  | (rcases hr60 with hh | hh
     · exfalso; omega
     · exact btw_c (by omega) (by omega) hh.2)
  | (rcases hr60 with hh | hh
     · rw [btw_a (by omega) (by omega) hh.2]
       first
       | rw [if_pos (by omega)]
       | rw [if_neg (by omega), if_pos (by omega)]
       | rw [if_neg (by omega), if_neg (by omega)]
     · exfalso; omega))
                · refine x_bipush dX12_betweenOf_106 (by decide) ?_
                  refine x_goto 112 dX12_betweenOf_108 (by decide) ?_
                  exact x_ireturn dX12_betweenOf_112 rfl (by omega) (by omega) (by
  refine e _ ?_
  first
  | (unfold btw; rw [if_pos (by omega)]; done)
  | (unfold btw; rw [if_neg (by omega), if_pos (by omega)]; done)
  | (unfold btw; rw [if_neg (by omega), if_neg (by omega), if_pos (by omega)]; done)
  | (unfold btw; rw [if_neg (by omega), if_neg (by omega), if_neg (by omega), if_pos (by omega)]; done)
  | exact btw_n (by omega) (by omega)
  | (rcases hr60 with hh | hh
     · exfalso; omega
     · exact btw_c (by omega) (by omega) hh.2)
  | (rcases hr60 with hh | hh
     · rw [btw_a (by omega) (by omega) hh.2]
       first
       | rw [if_pos (by omega)]
       | rw [if_neg (by omega), if_pos (by omega)]
       | rw [if_neg (by omega), if_neg (by omega)]
     · exfalso; omega))
              · refine x_bipush dX12_betweenOf_87 (by decide) ?_
                refine x_goto 112 dX12_betweenOf_89 (by decide) ?_
                exact x_ireturn dX12_betweenOf_112 rfl (by omega) (by omega) (by
  refine e _ ?_
  first
  | (unfold btw; rw [if_pos (by omega)]; done)
  | (unfold btw; rw [if_neg (by omega), if_pos (by omega)]; done)
  | (unfold btw; rw [if_neg (by omega), if_neg (by omega), if_pos (by omega)]; done)
  | (unfold btw; rw [if_neg (by omega), if_neg (by omega), if_neg (by omega), if_pos (by omega)]; done)
  | exact btw_n (by omega) (by omega)
  | (rcases hr60 with hh | hh
     · exfalso; omega
     · exact btw_c (by omega) (by omega) hh.2)
  | (rcases hr60 with hh | hh
     · rw [btw_a (by omega) (by omega) hh.2]
       first
       | rw [if_pos (by omega)]
       | rw [if_neg (by omega), if_pos (by omega)]
       | rw [if_neg (by omega), if_neg (by omega)]
     · exfalso; omega))
            · refine x_aload_n dX12_betweenOf_66 rfl ?_
              refine x_callV0 (mc1 := 0) (ms1 := 0) dX12_betweenOf_67 cv_RX12_218 (ci := 12) (k_ob_306 cs) rfl (Nat.le_of_ble_eq_true rfl) (n1 := n - 1) (by omega) (by omega) (by omega) ?_
              refine sp_X12_compareOf (cu := cu) cs h1.2.1 ?_
              exact x_ireturn dX12_betweenOf_70 rfl (by omega) (by omega) (by
  refine e _ ?_
  first
  | (unfold btw; rw [if_pos (by omega)]; done)
  | (unfold btw; rw [if_neg (by omega), if_pos (by omega)]; done)
  | (unfold btw; rw [if_neg (by omega), if_neg (by omega), if_pos (by omega)]; done)
  | (unfold btw; rw [if_neg (by omega), if_neg (by omega), if_neg (by omega), if_pos (by omega)]; done)
  | exact btw_n (by omega) (by omega)
  | (rcases hr60 with hh | hh
     · exfalso; omega
     · exact btw_c (by omega) (by omega) hh.2)
  | (rcases hr60 with hh | hh
     · rw [btw_a (by omega) (by omega) hh.2]
       first
       | rw [if_pos (by omega)]
       | rw [if_neg (by omega), if_pos (by omega)]
       | rw [if_neg (by omega), if_neg (by omega)]
     · exfalso; omega))
          · refine x_iconst dX12_betweenOf_57 ?_
            exact x_ireturn dX12_betweenOf_58 rfl (by omega) (by omega) (by
  refine e _ ?_
  first
  | (unfold btw; rw [if_pos (by omega)]; done)
  | (unfold btw; rw [if_neg (by omega), if_pos (by omega)]; done)
  | (unfold btw; rw [if_neg (by omega), if_neg (by omega), if_pos (by omega)]; done)
  | (unfold btw; rw [if_neg (by omega), if_neg (by omega), if_neg (by omega), if_pos (by omega)]; done)
  | exact btw_n (by omega) (by omega)
  | (rcases hr60 with hh | hh
     · exfalso; omega
     · exact btw_c (by omega) (by omega) hh.2)
  | (rcases hr60 with hh | hh
     · rw [btw_a (by omega) (by omega) hh.2]
       first
       | rw [if_pos (by omega)]
       | rw [if_neg (by omega), if_pos (by omega)]
       | rw [if_neg (by omega), if_neg (by omega)]
     · exfalso; omega))
        · refine x_bipush dX12_betweenOf_45 (by decide) ?_
          exact x_ireturn dX12_betweenOf_47 rfl (by omega) (by omega) (by
  refine e _ ?_
  first
  | (unfold btw; rw [if_pos (by omega)]; done)
  | (unfold btw; rw [if_neg (by omega), if_pos (by omega)]; done)
  | (unfold btw; rw [if_neg (by omega), if_neg (by omega), if_pos (by omega)]; done)
  | (unfold btw; rw [if_neg (by omega), if_neg (by omega), if_neg (by omega), if_pos (by omega)]; done)
  | exact btw_n (by omega) (by omega)
  | (rcases hr60 with hh | hh
     · exfalso; omega
     · exact btw_c (by omega) (by omega) hh.2)
  | (rcases hr60 with hh | hh
     · rw [btw_a (by omega) (by omega) hh.2]
       first
       | rw [if_pos (by omega)]
       | rw [if_neg (by omega), if_pos (by omega)]
       | rw [if_neg (by omega), if_neg (by omega)]
     · exfalso; omega))
      · refine x_bipush dX12_betweenOf_33 (by decide) ?_
        exact x_ireturn dX12_betweenOf_35 rfl (by omega) (by omega) (by
  refine e _ ?_
  first
  | (unfold btw; rw [if_pos (by omega)]; done)
  | (unfold btw; rw [if_neg (by omega), if_pos (by omega)]; done)
  | (unfold btw; rw [if_neg (by omega), if_neg (by omega), if_pos (by omega)]; done)
  | (unfold btw; rw [if_neg (by omega), if_neg (by omega), if_neg (by omega), if_pos (by omega)]; done)
  | exact btw_n (by omega) (by omega)
  | (rcases hr60 with hh | hh
     · exfalso; omega
     · exact btw_c (by omega) (by omega) hh.2)
  | (rcases hr60 with hh | hh
     · rw [btw_a (by omega) (by omega) hh.2]
       first
       | rw [if_pos (by omega)]
       | rw [if_neg (by omega), if_pos (by omega)]
       | rw [if_neg (by omega), if_neg (by omega)]
     · exfalso; omega))
    · refine x_bipush dX12_betweenOf_21 (by decide) ?_
      exact x_ireturn dX12_betweenOf_23 rfl (by omega) (by omega) (by
  refine e _ ?_
  first
  | (unfold btw; rw [if_pos (by omega)]; done)
  | (unfold btw; rw [if_neg (by omega), if_pos (by omega)]; done)
  | (unfold btw; rw [if_neg (by omega), if_neg (by omega), if_pos (by omega)]; done)
  | (unfold btw; rw [if_neg (by omega), if_neg (by omega), if_neg (by omega), if_pos (by omega)]; done)
  | exact btw_n (by omega) (by omega)
  | (rcases hr60 with hh | hh
     · exfalso; omega
     · exact btw_c (by omega) (by omega) hh.2)
  | (rcases hr60 with hh | hh
     · rw [btw_a (by omega) (by omega) hh.2]
       first
       | rw [if_pos (by omega)]
       | rw [if_neg (by omega), if_pos (by omega)]
       | rw [if_neg (by omega), if_neg (by omega)]
     · exfalso; omega))
  · refine x_bipush dX12_betweenOf_9 (by decide) ?_
    exact x_ireturn dX12_betweenOf_11 rfl (by omega) (by omega) (by
  refine e _ ?_
  first
  | (unfold btw; rw [if_pos (by omega)]; done)
  | (unfold btw; rw [if_neg (by omega), if_pos (by omega)]; done)
  | (unfold btw; rw [if_neg (by omega), if_neg (by omega), if_pos (by omega)]; done)
  | (unfold btw; rw [if_neg (by omega), if_neg (by omega), if_neg (by omega), if_pos (by omega)]; done)
  | exact btw_n (by omega) (by omega)
  | (rcases hr60 with hh | hh
     · exfalso; omega
     · exact btw_c (by omega) (by omega) hh.2)
  | (rcases hr60 with hh | hh
     · rw [btw_a (by omega) (by omega) hh.2]
       first
       | rw [if_pos (by omega)]
       | rw [if_neg (by omega), if_pos (by omega)]
       | rw [if_neg (by omega), if_neg (by omega)]
     · exfalso; omega))
theorem dX12_partOf_0 : decode prog_14_method_49_code 0 = .ok (.iload_n 1, 1) := by decide +kernel
theorem dX12_partOf_1 : decode prog_14_method_49_code 1 = .ok (.tableswitch 129 40 44 #[35, 129, 50, 82, 107], 35) := by decide +kernel
theorem dX12_partOf_36 : decode prog_14_method_49_code 36 = .ok (.aload_n 0, 1) := by decide +kernel
theorem dX12_partOf_37 : decode prog_14_method_49_code 37 = .ok (.getfield 115, 3) := by decide +kernel
theorem dX12_partOf_40 : decode prog_14_method_49_code 40 = .ok (.bipush 41, 2) := by decide +kernel
theorem dX12_partOf_42 : decode prog_14_method_49_code 42 = .ok (.if_icmp .ne 7, 3) := by decide +kernel
theorem dX12_partOf_45 : decode prog_14_method_49_code 45 = .ok (.iconst 0, 1) := by decide +kernel
theorem dX12_partOf_46 : decode prog_14_method_49_code 46 = .ok (.goto 4, 3) := by decide +kernel
theorem dX12_partOf_49 : decode prog_14_method_49_code 49 = .ok (.iconst (-1), 1) := by decide +kernel
theorem dX12_partOf_50 : decode prog_14_method_49_code 50 = .ok (.ireturn, 1) := by decide +kernel
theorem dX12_partOf_51 : decode prog_14_method_49_code 51 = .ok (.aload_n 0, 1) := by decide +kernel
theorem dX12_partOf_52 : decode prog_14_method_49_code 52 = .ok (.bipush 116, 2) := by decide +kernel
theorem dX12_partOf_54 : decode prog_14_method_49_code 54 = .ok (.bipush 104, 2) := by decide +kernel
theorem dX12_partOf_56 : decode prog_14_method_49_code 56 = .ok (.bipush 101, 2) := by decide +kernel
theorem dX12_partOf_58 : decode prog_14_method_49_code 58 = .ok (.bipush 110, 2) := by decide +kernel
theorem dX12_partOf_60 : decode prog_14_method_49_code 60 = .ok (.invokestatic 145, 3) := by decide +kernel
theorem dX12_partOf_63 : decode prog_14_method_49_code 63 = .ok (.invokevirtual 201, 3) := by decide +kernel
theorem dX12_partOf_66 : decode prog_14_method_49_code 66 = .ok (.ifCond .eq 15, 3) := by decide +kernel
theorem dX12_partOf_69 : decode prog_14_method_49_code 69 = .ok (.aload_n 0, 1) := by decide +kernel
theorem dX12_partOf_70 : decode prog_14_method_49_code 70 = .ok (.invokevirtual 215, 3) := by decide +kernel
theorem dX12_partOf_73 : decode prog_14_method_49_code 73 = .ok (.ifCond .eq 8, 3) := by decide +kernel
theorem dX12_partOf_76 : decode prog_14_method_49_code 76 = .ok (.bipush 43, 2) := by decide +kernel
theorem dX12_partOf_78 : decode prog_14_method_49_code 78 = .ok (.goto 4, 3) := by decide +kernel
theorem dX12_partOf_81 : decode prog_14_method_49_code 81 = .ok (.iconst (-1), 1) := by decide +kernel
theorem dX12_partOf_82 : decode prog_14_method_49_code 82 = .ok (.ireturn, 1) := by decide +kernel
theorem dX12_partOf_83 : decode prog_14_method_49_code 83 = .ok (.aload_n 0, 1) := by decide +kernel
theorem dX12_partOf_84 : decode prog_14_method_49_code 84 = .ok (.bipush 101, 2) := by decide +kernel
theorem dX12_partOf_86 : decode prog_14_method_49_code 86 = .ok (.bipush 108, 2) := by decide +kernel
theorem dX12_partOf_88 : decode prog_14_method_49_code 88 = .ok (.bipush 115, 2) := by decide +kernel
theorem dX12_partOf_90 : decode prog_14_method_49_code 90 = .ok (.bipush 101, 2) := by decide +kernel
theorem dX12_partOf_92 : decode prog_14_method_49_code 92 = .ok (.invokestatic 145, 3) := by decide +kernel
theorem dX12_partOf_95 : decode prog_14_method_49_code 95 = .ok (.invokevirtual 201, 3) := by decide +kernel
theorem dX12_partOf_98 : decode prog_14_method_49_code 98 = .ok (.ifCond .eq 8, 3) := by decide +kernel
theorem dX12_partOf_101 : decode prog_14_method_49_code 101 = .ok (.bipush 44, 2) := by decide +kernel
theorem dX12_partOf_103 : decode prog_14_method_49_code 103 = .ok (.goto 4, 3) := by decide +kernel
theorem dX12_partOf_106 : decode prog_14_method_49_code 106 = .ok (.iconst (-1), 1) := by decide +kernel
theorem dX12_partOf_107 : decode prog_14_method_49_code 107 = .ok (.ireturn, 1) := by decide +kernel
theorem dX12_partOf_108 : decode prog_14_method_49_code 108 = .ok (.aload_n 0, 1) := by decide +kernel
theorem dX12_partOf_109 : decode prog_14_method_49_code 109 = .ok (.bipush 101, 2) := by decide +kernel
theorem dX12_partOf_111 : decode prog_14_method_49_code 111 = .ok (.bipush 110, 2) := by decide +kernel
theorem dX12_partOf_113 : decode prog_14_method_49_code 113 = .ok (.bipush 100, 2) := by decide +kernel
theorem dX12_partOf_115 : decode prog_14_method_49_code 115 = .ok (.invokestatic 141, 3) := by decide +kernel
theorem dX12_partOf_118 : decode prog_14_method_49_code 118 = .ok (.invokevirtual 201, 3) := by decide +kernel
theorem dX12_partOf_121 : decode prog_14_method_49_code 121 = .ok (.ifCond .eq 7, 3) := by decide +kernel
theorem dX12_partOf_124 : decode prog_14_method_49_code 124 = .ok (.iconst 0, 1) := by decide +kernel
theorem dX12_partOf_125 : decode prog_14_method_49_code 125 = .ok (.goto 4, 3) := by decide +kernel
theorem dX12_partOf_128 : decode prog_14_method_49_code 128 = .ok (.iconst (-1), 1) := by decide +kernel
theorem dX12_partOf_129 : decode prog_14_method_49_code 129 = .ok (.ireturn, 1) := by decide +kernel
theorem dX12_partOf_130 : decode prog_14_method_49_code 130 = .ok (.iconst (-1), 1) := by decide +kernel
theorem dX12_partOf_131 : decode prog_14_method_49_code 131 = .ok (.ireturn, 1) := by decide +kernel
theorem sp_X12_partOf {x : Int} (cs : CS S R) (hn : 3 ≤ n) (h : RfB I t l o sl p cu b) (hx : opn p = x) (hp : Post (some (.int (iI (prt p cu.2.2.1)))) S I R) : Call n 0 0 mX12_partOf [.ref (S.2.1 306), .int (iI x)] S I R Post := by
  obtain ⟨h1, h2, h3, h4, h5, h6, h7, h8⟩ := id h
  have hl := okP_160 h5 h6
  obtain ⟨⟨a1, a2, a3, a4⟩, ⟨a5, a5n⟩, a6, a7, a8, a9, a10⟩ := id h1.2.1
  have okk := h1.2.2.2.2.2.2.1
  have hov := opn_v h5
  have b1 := a7 41 (by omega)
  have e : ∀ z : Int, prt p cu.2.2.1 = z → Post (some (.int (iI z))) S I R := fun z hz => by rw [← hz]; exact hp
  refine Call.of (by decide +kernel) (Nat.le_of_ble_eq_true rfl) ?_
  show WP _ _ _ _ _ 0 [(0, _), (1, _)] [] 0 0 _ _ _
  refine x_iload_n dX12_partOf_0 rfl ?_
  by_cases t1_0 : x = 40
  · refine x_tableIn 36 dX12_partOf_1 (by omega) (by omega) (by rw [t1_0]; rfl) (by decide) ?_
    refine x_aload_n dX12_partOf_36 rfl ?_
    refine x_getI dX12_partOf_37 gf_RX12_115 (k_ob_306 cs) (fun _ _ => rfl) ?_
    refine x_bipush dX12_partOf_40 (by decide) ?_
    refine x_icmp_ne 49 dX12_partOf_42 (by decide) ⟨(by omega), (by omega)⟩ (fun w42 => ?_) (fun w42 => ?_)
    · refine x_iconst dX12_partOf_49 ?_
      exact x_ireturn dX12_partOf_50 rfl (by omega) (by omega) (by
  refine e _ ?_
  first
  | (rw [prt_40 (by omega)]
     first | rw [if_pos (by omega)] | rw [if_neg (by omega)])
  | (rw [prt_43 (by omega)]
     first | rw [if_pos (by omega)] | rw [if_neg (by omega)])
  | (rw [prt_44 (by omega)]
     first | rw [if_pos (by omega)] | rw [if_neg (by omega)])
  | (rw [prt_42 (by omega)]
     first
     | (rw [if_neg (fun h9 => by have h8 := h9.1; omega)]; done)
     | (rcases hr70 with ⟨g1, g2⟩ | ⟨g1, g2⟩ <;> rw [g2] <;> first | (exfalso; omega) | simp [show cu.2.2.1 = 146 by omega]))
  | (unfold prt
     rw [if_neg (by omega), if_neg (by omega), if_neg (by omega), if_neg (by omega)]))
    · refine x_iconst dX12_partOf_45 ?_
      refine x_goto 50 dX12_partOf_46 (by decide) ?_
      exact x_ireturn dX12_partOf_50 rfl (by omega) (by omega) (by
  refine e _ ?_
  first
  | (rw [prt_40 (by omega)]
     first | rw [if_pos (by omega)] | rw [if_neg (by omega)])
  | (rw [prt_43 (by omega)]
     first | rw [if_pos (by omega)] | rw [if_neg (by omega)])
  | (rw [prt_44 (by omega)]
     first | rw [if_pos (by omega)] | rw [if_neg (by omega)])
  | (rw [prt_42 (by omega)]
     first
     | (rw [if_neg (fun h9 => by have h8 := h9.1; omega)]; done)
     | (rcases hr70 with ⟨g1, g2⟩ | ⟨g1, g2⟩ <;> rw [g2] <;> first | (exfalso; omega) | simp [show cu.2.2.1 = 146 by omega]))
  | (unfold prt
     rw [if_neg (by omega), if_neg (by omega), if_neg (by omega), if_neg (by omega)]))
  by_cases t1_1 : x = 41
  · refine x_tableIn 130 dX12_partOf_1 (by omega) (by omega) (by rw [t1_1]; rfl) (by decide) ?_
    refine x_iconst dX12_partOf_130 ?_
    exact x_ireturn dX12_partOf_131 rfl (by omega) (by omega) (by
  refine e _ ?_
  first
  | (rw [prt_40 (by omega)]
     first | rw [if_pos (by omega)] | rw [if_neg (by omega)])
  | (rw [prt_43 (by omega)]
     first | rw [if_pos (by omega)] | rw [if_neg (by omega)])
  | (rw [prt_44 (by omega)]
     first | rw [if_pos (by omega)] | rw [if_neg (by omega)])
  | (rw [prt_42 (by omega)]
     first
     | (rw [if_neg (fun h9 => by have h8 := h9.1; omega)]; done)
     | (rcases hr70 with ⟨g1, g2⟩ | ⟨g1, g2⟩ <;> rw [g2] <;> first | (exfalso; omega) | simp [show cu.2.2.1 = 146 by omega]))
  | (unfold prt
     rw [if_neg (by omega), if_neg (by omega), if_neg (by omega), if_neg (by omega)]))
  by_cases t1_2 : x = 42
  · refine x_tableIn 51 dX12_partOf_1 (by omega) (by omega) (by rw [t1_2]; rfl) (by decide) ?_
    refine x_aload_n dX12_partOf_51 rfl ?_
    refine x_bipush dX12_partOf_52 (by decide) ?_
    refine x_bipush dX12_partOf_54 (by decide) ?_
    refine x_bipush dX12_partOf_56 (by decide) ?_
    refine x_bipush dX12_partOf_58 (by decide) ?_
    refine x_callS4 (mc1 := 0) (ms1 := 0) dX12_partOf_60 cv_RX12_145 (Nat.le_of_ble_eq_true rfl) (n1 := n - 1) (by omega) (by omega) (by omega) ?_
    refine sp_X12_w4 (by omega) ?_ (by omega)
    refine x_callV1 (mc1 := 0) (ms1 := 0) dX12_partOf_63 cv_RX12_201 (ci := 12) (k_ob_306 cs) rfl (Nat.le_of_ble_eq_true rfl) (n1 := n - 1) (by omega) (by omega) (by omega) ?_
    refine sp_isW (cu := cu) (K := 146) cs (by decide) h1.2.1 (fun r63 hr63 => ?_)
    refine x_if_eq 81 dX12_partOf_66 (by decide) (by omega) (fun w66 => ?_) (fun w66 => ?_)
    · refine x_iconst dX12_partOf_81 ?_
      exact x_ireturn dX12_partOf_82 rfl (by omega) (by omega) (by
  refine e _ ?_
  first
  | (rw [prt_40 (by omega)]
     first | rw [if_pos (by omega)] | rw [if_neg (by omega)])
  | (rw [prt_43 (by omega)]
     first | rw [if_pos (by omega)] | rw [if_neg (by omega)])
  | (rw [prt_44 (by omega)]
     first | rw [if_pos (by omega)] | rw [if_neg (by omega)])
  | (rw [prt_42 (by omega)]
     first
     | (rw [if_neg (fun h9 => by have h8 := h9.1; omega)]; done)
     | (rcases hr70 with ⟨g1, g2⟩ | ⟨g1, g2⟩ <;> rw [g2] <;> first | (exfalso; omega) | simp [show cu.2.2.1 = 146 by omega]))
  | (unfold prt
     rw [if_neg (by omega), if_neg (by omega), if_neg (by omega), if_neg (by omega)]))
    · refine x_aload_n dX12_partOf_69 rfl ?_
      refine x_callV0 (mc1 := 0) (ms1 := 0) dX12_partOf_70 cv_RX12_215 (ci := 12) (k_ob_306 cs) rfl (Nat.le_of_ble_eq_true rfl) (n1 := n - 1) (by omega) (by omega) (by omega) ?_
      refine sp_X12_isCompared cs (by omega) h2 h5 (by omega) (fun r70 hr70 => ?_)
      refine x_if_eq 81 dX12_partOf_73 (by decide) (by omega) (fun w73 => ?_) (fun w73 => ?_)
      · refine x_iconst dX12_partOf_81 ?_
        exact x_ireturn dX12_partOf_82 rfl (by omega) (by omega) (by
  refine e _ ?_
  first
  | (rw [prt_40 (by omega)]
     first | rw [if_pos (by omega)] | rw [if_neg (by omega)])
  | (rw [prt_43 (by omega)]
     first | rw [if_pos (by omega)] | rw [if_neg (by omega)])
  | (rw [prt_44 (by omega)]
     first | rw [if_pos (by omega)] | rw [if_neg (by omega)])
  | (rw [prt_42 (by omega)]
     first
     | (rw [if_neg (fun h9 => by have h8 := h9.1; omega)]; done)
     | (rcases hr70 with ⟨g1, g2⟩ | ⟨g1, g2⟩ <;> rw [g2] <;> first | (exfalso; omega) | simp [show cu.2.2.1 = 146 by omega]))
  | (unfold prt
     rw [if_neg (by omega), if_neg (by omega), if_neg (by omega), if_neg (by omega)]))
      · refine x_bipush dX12_partOf_76 (by decide) ?_
        refine x_goto 82 dX12_partOf_78 (by decide) ?_
        exact x_ireturn dX12_partOf_82 rfl (by omega) (by omega) (by
  refine e _ ?_
  first
  | (rw [prt_40 (by omega)]
     first | rw [if_pos (by omega)] | rw [if_neg (by omega)])
  | (rw [prt_43 (by omega)]
     first | rw [if_pos (by omega)] | rw [if_neg (by omega)])
  | (rw [prt_44 (by omega)]
     first | rw [if_pos (by omega)] | rw [if_neg (by omega)])
  | (rw [prt_42 (by omega)]
     first
     | (rw [if_neg (fun h9 => by have h8 := h9.1; omega)]; done)
     | (rcases hr70 with ⟨g1, g2⟩ | ⟨g1, g2⟩ <;> rw [g2] <;> first | (exfalso; omega) | simp [show cu.2.2.1 = 146 by omega]))
  | (unfold prt
     rw [if_neg (by omega), if_neg (by omega), if_neg (by omega), if_neg (by omega)]))
  by_cases t1_3 : x = 43
  · refine x_tableIn 83 dX12_partOf_1 (by omega) (by omega) (by rw [t1_3]; rfl) (by decide) ?_
    refine x_aload_n dX12_partOf_83 rfl ?_
    refine x_bipush dX12_partOf_84 (by decide) ?_
    refine x_bipush dX12_partOf_86 (by decide) ?_
    refine x_bipush dX12_partOf_88 (by decide) ?_
    refine x_bipush dX12_partOf_90 (by decide) ?_
    refine x_callS4 (mc1 := 0) (ms1 := 0) dX12_partOf_92 cv_RX12_145 (Nat.le_of_ble_eq_true rfl) (n1 := n - 1) (by omega) (by omega) (by omega) ?_
    refine sp_X12_w4 (by omega) ?_ (by omega)
    refine x_callV1 (mc1 := 0) (ms1 := 0) dX12_partOf_95 cv_RX12_201 (ci := 12) (k_ob_306 cs) rfl (Nat.le_of_ble_eq_true rfl) (n1 := n - 1) (by omega) (by omega) (by omega) ?_
    refine sp_isW (cu := cu) (K := 147) cs (by decide) h1.2.1 (fun r95 hr95 => ?_)
    refine x_if_eq 106 dX12_partOf_98 (by decide) (by omega) (fun w98 => ?_) (fun w98 => ?_)
    · refine x_iconst dX12_partOf_106 ?_
      exact x_ireturn dX12_partOf_107 rfl (by omega) (by omega) (by
  refine e _ ?_
  first
  | (rw [prt_40 (by omega)]
     first | rw [if_pos (by omega)] | rw [if_neg (by omega)])
  | (rw [prt_43 (by omega)]
     first | rw [if_pos (by omega)] | rw [if_neg (by omega)])
  | (rw [prt_44 (by omega)]
     first | rw [if_pos (by omega)] | rw [if_neg (by omega)])
  | (rw [prt_42 (by omega)]
     first
     | (rw [if_neg (fun h9 => by have h8 := h9.1; omega)]; done)
     | (rcases hr70 with ⟨g1, g2⟩ | ⟨g1, g2⟩ <;> rw [g2] <;> first | (exfalso; omega) | simp [show cu.2.2.1 = 146 by omega]))
  | (unfold prt
     rw [if_neg (by omega), if_neg (by omega), if_neg (by omega), if_neg (by omega)]))
    · refine x_bipush dX12_partOf_101 (by decide) ?_
      refine x_goto 107 dX12_partOf_103 (by decide) ?_
      exact x_ireturn dX12_partOf_107 rfl (by omega) (by omega) (by
  refine e _ ?_
  first
  | (rw [prt_40 (by omega)]
     first | rw [if_pos (by omega)] | rw [if_neg (by omega)])
  | (rw [prt_43 (by omega)]
     first | rw [if_pos (by omega)] | rw [if_neg (by omega)])
  | (rw [prt_44 (by omega)]
     first | rw [if_pos (by omega)] | rw [if_neg (by omega)])
  | (rw [prt_42 (by omega)]
     first
     | (rw [if_neg (fun h9 => by have h8 := h9.1; omega)]; done)
     | (rcases hr70 with ⟨g1, g2⟩ | ⟨g1, g2⟩ <;> rw [g2] <;> first | (exfalso; omega) | simp [show cu.2.2.1 = 146 by omega]))
  | (unfold prt
     rw [if_neg (by omega), if_neg (by omega), if_neg (by omega), if_neg (by omega)]))
  by_cases t1_4 : x = 44
  · refine x_tableIn 108 dX12_partOf_1 (by omega) (by omega) (by rw [t1_4]; rfl) (by decide) ?_
    refine x_aload_n dX12_partOf_108 rfl ?_
    refine x_bipush dX12_partOf_109 (by decide) ?_
    refine x_bipush dX12_partOf_111 (by decide) ?_
    refine x_bipush dX12_partOf_113 (by decide) ?_
    refine x_callS3 (mc1 := 0) (ms1 := 0) dX12_partOf_115 cv_RX12_141 (Nat.le_of_ble_eq_true rfl) (n1 := n - 1) (by omega) (by omega) (by omega) ?_
    refine sp_X12_w3 (by omega) ?_ (by omega)
    refine x_callV1 (mc1 := 0) (ms1 := 0) dX12_partOf_118 cv_RX12_201 (ci := 12) (k_ob_306 cs) rfl (Nat.le_of_ble_eq_true rfl) (n1 := n - 1) (by omega) (by omega) (by omega) ?_
    refine sp_isW (cu := cu) (K := 148) cs (by decide) h1.2.1 (fun r118 hr118 => ?_)
    refine x_if_eq 128 dX12_partOf_121 (by decide) (by omega) (fun w121 => ?_) (fun w121 => ?_)
    · refine x_iconst dX12_partOf_128 ?_
      exact x_ireturn dX12_partOf_129 rfl (by omega) (by omega) (by
  refine e _ ?_
  first
  | (rw [prt_40 (by omega)]
     first | rw [if_pos (by omega)] | rw [if_neg (by omega)])
  | (rw [prt_43 (by omega)]
     first | rw [if_pos (by omega)] | rw [if_neg (by omega)])
  | (rw [prt_44 (by omega)]
     first | rw [if_pos (by omega)] | rw [if_neg (by omega)])
  | (rw [prt_42 (by omega)]
     first
     | (rw [if_neg (fun h9 => by have h8 := h9.1; omega)]; done)
     | (rcases hr70 with ⟨g1, g2⟩ | ⟨g1, g2⟩ <;> rw [g2] <;> first | (exfalso; omega) | simp [show cu.2.2.1 = 146 by omega]))
  | (unfold prt
     rw [if_neg (by omega), if_neg (by omega), if_neg (by omega), if_neg (by omega)]))
    · refine x_iconst dX12_partOf_124 ?_
      refine x_goto 129 dX12_partOf_125 (by decide) ?_
      exact x_ireturn dX12_partOf_129 rfl (by omega) (by omega) (by
  refine e _ ?_
  first
  | (rw [prt_40 (by omega)]
     first | rw [if_pos (by omega)] | rw [if_neg (by omega)])
  | (rw [prt_43 (by omega)]
     first | rw [if_pos (by omega)] | rw [if_neg (by omega)])
  | (rw [prt_44 (by omega)]
     first | rw [if_pos (by omega)] | rw [if_neg (by omega)])
  | (rw [prt_42 (by omega)]
     first
     | (rw [if_neg (fun h9 => by have h8 := h9.1; omega)]; done)
     | (rcases hr70 with ⟨g1, g2⟩ | ⟨g1, g2⟩ <;> rw [g2] <;> first | (exfalso; omega) | simp [show cu.2.2.1 = 146 by omega]))
  | (unfold prt
     rw [if_neg (by omega), if_neg (by omega), if_neg (by omega), if_neg (by omega)]))
  refine x_tableOut 130 dX12_partOf_1 (by omega) (by omega) (by decide) ?_
  refine x_iconst dX12_partOf_130 ?_
  exact x_ireturn dX12_partOf_131 rfl (by omega) (by omega) (by
  refine e _ ?_
  first
  | (rw [prt_40 (by omega)]
     first | rw [if_pos (by omega)] | rw [if_neg (by omega)])
  | (rw [prt_43 (by omega)]
     first | rw [if_pos (by omega)] | rw [if_neg (by omega)])
  | (rw [prt_44 (by omega)]
     first | rw [if_pos (by omega)] | rw [if_neg (by omega)])
  | (rw [prt_42 (by omega)]
     first
     | (rw [if_neg (fun h9 => by have h8 := h9.1; omega)]; done)
     | (rcases hr70 with ⟨g1, g2⟩ | ⟨g1, g2⟩ <;> rw [g2] <;> first | (exfalso; omega) | simp [show cu.2.2.1 = 146 by omega]))
  | (unfold prt
     rw [if_neg (by omega), if_neg (by omega), if_neg (by omega), if_neg (by omega)]))
end Rm5s
