theorem lwt_1 {w : Cond} (h : w ∈ tables_1_1) : w ∈ lw_tbl := List.mem_append_right _ (List.mem_append_left _ h)
theorem lwt_2 {w : Cond} (h : w ∈ tables_1_2) : w ∈ lw_tbl := List.mem_append_right _ (List.mem_append_right _ (List.mem_append_left _ h))
theorem lwt_3 {w : Cond} (h : w ∈ tables_1_3) : w ∈ lw_tbl := List.mem_append_right _ (List.mem_append_right _ (List.mem_append_right _ (List.mem_append_left _ h)))
theorem lwt_4 {w : Cond} (h : w ∈ tables_1_4) : w ∈ lw_tbl := List.mem_append_right _ (List.mem_append_right _ (List.mem_append_right _ (List.mem_append_right _ (List.mem_append_left _ h))))
theorem lwt_5 {w : Cond} (h : w ∈ tables_1_5) : w ∈ lw_tbl := List.mem_append_right _ (List.mem_append_right _ (List.mem_append_right _ (List.mem_append_right _ (List.mem_append_right _ (List.mem_append_left _ h)))))
theorem lwt_6 {w : Cond} (h : w ∈ tables_1_6) : w ∈ lw_tbl := List.mem_append_right _ (List.mem_append_right _ (List.mem_append_right _ (List.mem_append_right _ (List.mem_append_right _ (List.mem_append_right _ (List.mem_append_left _ h))))))
theorem lwt_7 {w : Cond} (h : w ∈ tables_1_7) : w ∈ lw_tbl := List.mem_append_right _ (List.mem_append_right _ (List.mem_append_right _ (List.mem_append_right _ (List.mem_append_right _ (List.mem_append_right _ (List.mem_append_right _ (List.mem_append_left _ h)))))))
theorem lwt_8 {w : Cond} (h : w ∈ tables_1_8) : w ∈ lw_tbl := List.mem_append_right _ (List.mem_append_right _ (List.mem_append_right _ (List.mem_append_right _ (List.mem_append_right _ (List.mem_append_right _ (List.mem_append_right _ (List.mem_append_right _ (List.mem_append_left _ h))))))))
theorem lwt_9 {w : Cond} (h : w ∈ tables_1_9) : w ∈ lw_tbl := List.mem_append_right _ (List.mem_append_right _ (List.mem_append_right _ (List.mem_append_right _ (List.mem_append_right _ (List.mem_append_right _ (List.mem_append_right _ (List.mem_append_right _ (List.mem_append_right _ (h)))))))))
theorem lwt_0 {w : Cond} (h : w ∈ k2_sels lw_privs) : w ∈ lw_tbl := List.mem_append_left _ h
theorem iX0 : ∀ w ∈ u_ws RX0 TX0 3, w ∈ bigW := by
  have h1 : ∀ w ∈ u_ws RX0 TX0 3, w ∈ lw_tbl := by decide +kernel
  have h2 : (u_ws RX0 TX0 3).all goodWord = true := by decide +kernel
  exact fun w hw => bw_in (h1 w hw) (List.all_eq_true.mp h2 w hw)
theorem iX1 : ∀ w ∈ u_ws RX1 TX1 5, w ∈ bigW := by
  have h1 : ∀ w ∈ u_ws RX1 TX1 5, w ∈ lw_tbl := by decide +kernel
  have h2 : (u_ws RX1 TX1 5).all goodWord = true := by decide +kernel
  exact fun w hw => bw_in (h1 w hw) (List.all_eq_true.mp h2 w hw)
theorem iX2 : ∀ w ∈ u_ws RX2 TX2 4, w ∈ bigW := by
  have h1 : ∀ w ∈ u_ws RX2 TX2 4, w ∈ lw_tbl := by decide +kernel
  have h2 : (u_ws RX2 TX2 4).all goodWord = true := by decide +kernel
  exact fun w hw => bw_in (h1 w hw) (List.all_eq_true.mp h2 w hw)
theorem iX3 : ∀ w ∈ u_ws RX3 TX3 3, w ∈ bigW := by
  have h1 : ∀ w ∈ u_ws RX3 TX3 3, w ∈ lw_tbl := by decide +kernel
  have h2 : (u_ws RX3 TX3 3).all goodWord = true := by decide +kernel
  exact fun w hw => bw_in (h1 w hw) (List.all_eq_true.mp h2 w hw)
theorem iX4 : ∀ w ∈ u_ws RX4 TX4 7, w ∈ bigW := by
  have h1 : ∀ w ∈ u_ws RX4 TX4 7, w ∈ lw_tbl := by decide +kernel
  have h2 : (u_ws RX4 TX4 7).all goodWord = true := by decide +kernel
  exact fun w hw => bw_in (h1 w hw) (List.all_eq_true.mp h2 w hw)
theorem iX5 : ∀ w ∈ u_ws RX5 TX5 17, w ∈ bigW := by
  have h1 : ∀ w ∈ u_ws RX5 TX5 17, w ∈ lw_tbl := by decide +kernel
  have h2 : (u_ws RX5 TX5 17).all goodWord = true := by decide +kernel
  exact fun w hw => bw_in (h1 w hw) (List.all_eq_true.mp h2 w hw)
theorem iX6 : ∀ w ∈ u_ws RX6 TX6 9, w ∈ bigW := by
  have h1 : ∀ w ∈ u_ws RX6 TX6 9, w ∈ lw_tbl := by decide +kernel
  have h2 : (u_ws RX6 TX6 9).all goodWord = true := by decide +kernel
  exact fun w hw => bw_in (h1 w hw) (List.all_eq_true.mp h2 w hw)
theorem iX7 : ∀ w ∈ u_ws RX7 TX7 5, w ∈ bigW := by
  have h1 : ∀ w ∈ u_ws RX7 TX7 5, w ∈ lw_tbl := by decide +kernel
  have h2 : (u_ws RX7 TX7 5).all goodWord = true := by decide +kernel
  exact fun w hw => bw_in (h1 w hw) (List.all_eq_true.mp h2 w hw)
theorem iX8 : ∀ w ∈ u_ws RX8 TX8 7, w ∈ bigW := by
  have h1 : ∀ w ∈ u_ws RX8 TX8 7, w ∈ lw_tbl := by decide +kernel
  have h2 : (u_ws RX8 TX8 7).all goodWord = true := by decide +kernel
  exact fun w hw => bw_in (h1 w hw) (List.all_eq_true.mp h2 w hw)
theorem iX9 : ∀ w ∈ u_ws RX9 TX9 10, w ∈ bigW := by
  have h1 : ∀ w ∈ u_ws RX9 TX9 10, w ∈ lw_tbl := by decide +kernel
  have h2 : (u_ws RX9 TX9 10).all goodWord = true := by decide +kernel
  exact fun w hw => bw_in (h1 w hw) (List.all_eq_true.mp h2 w hw)
theorem iX10 : ∀ w ∈ u_ws RX10 TX10 13, w ∈ bigW := by
  have h1 : ∀ w ∈ u_ws RX10 TX10 13, w ∈ lw_tbl := by decide +kernel
  have h2 : (u_ws RX10 TX10 13).all goodWord = true := by decide +kernel
  exact fun w hw => bw_in (h1 w hw) (List.all_eq_true.mp h2 w hw)
theorem iX11 : ∀ w ∈ u_ws RX11 TX11 9, w ∈ bigW := by
  have h1 : ∀ w ∈ u_ws RX11 TX11 9, w ∈ lw_tbl := by decide +kernel
  have h2 : (u_ws RX11 TX11 9).all goodWord = true := by decide +kernel
  exact fun w hw => bw_in (h1 w hw) (List.all_eq_true.mp h2 w hw)
theorem iX12 : ∀ w ∈ u_ws RX12 TX12 41, w ∈ bigW := by
  have h1 : ∀ w ∈ u_ws RX12 TX12 41, w ∈ lw_tbl := by decide +kernel
  have h2 : (u_ws RX12 TX12 41).all goodWord = true := by decide +kernel
  exact fun w hw => bw_in (h1 w hw) (List.all_eq_true.mp h2 w hw)
theorem gf_RX6_9 : GF RX6 9 6 0 true := ⟨by decide, RX6, TX6, 9, rfl, rfl, by decide, iX6, tyX6_ok, nmX6, bw_in (lwt_1 (List.mem_of_getElem? (i := 43) rfl)) rfl, rfl, rfl⟩
theorem gf_RX3_84 : GF RX3 84 6 0 true := ⟨by decide, RX6, TX6, 9, rfl, rfl, by decide, iX6, tyX6_ok, nmX6, bw_in (lwt_1 (List.mem_of_getElem? (i := 44) rfl)) rfl, rfl, rfl⟩
theorem gf_RX4_70 : GF RX4 70 6 0 true := ⟨by decide, RX6, TX6, 9, rfl, rfl, by decide, iX6, tyX6_ok, nmX6, bw_in (lwt_1 (List.mem_of_getElem? (i := 45) rfl)) rfl, rfl, rfl⟩
theorem gf_RX0_96 : GF RX0 96 6 0 true := ⟨by decide, RX6, TX6, 9, rfl, rfl, by decide, iX6, tyX6_ok, nmX6, bw_in (lwt_1 (List.mem_of_getElem? (i := 46) rfl)) rfl, rfl, rfl⟩
theorem gf_RX2_93 : GF RX2 93 6 0 true := ⟨by decide, RX6, TX6, 9, rfl, rfl, by decide, iX6, tyX6_ok, nmX6, bw_in (lwt_1 (List.mem_of_getElem? (i := 47) rfl)) rfl, rfl, rfl⟩
theorem gf_RX7_88 : GF RX7 88 6 0 true := ⟨by decide, RX6, TX6, 9, rfl, rfl, by decide, iX6, tyX6_ok, nmX6, bw_in (lwt_1 (List.mem_of_getElem? (i := 48) rfl)) rfl, rfl, rfl⟩
theorem gf_RX11_181 : GF RX11 181 6 0 true := ⟨by decide, RX6, TX6, 9, rfl, rfl, by decide, iX6, tyX6_ok, nmX6, bw_in (lwt_1 (List.mem_of_getElem? (i := 49) rfl)) rfl, rfl, rfl⟩
theorem gf_RX6_15 : GF RX6 15 6 1 true := ⟨by decide, RX6, TX6, 9, rfl, rfl, by decide, iX6, tyX6_ok, nmX6, bw_in (lwt_1 (List.mem_of_getElem? (i := 50) rfl)) rfl, rfl, rfl⟩
theorem gf_RX3_127 : GF RX3 127 6 1 true := ⟨by decide, RX6, TX6, 9, rfl, rfl, by decide, iX6, tyX6_ok, nmX6, bw_in (lwt_1 (List.mem_of_getElem? (i := 51) rfl)) rfl, rfl, rfl⟩
theorem gf_RX0_112 : GF RX0 112 6 1 true := ⟨by decide, RX6, TX6, 9, rfl, rfl, by decide, iX6, tyX6_ok, nmX6, bw_in (lwt_1 (List.mem_of_getElem? (i := 52) rfl)) rfl, rfl, rfl⟩
theorem gf_RX6_18 : GF RX6 18 6 2 true := ⟨by decide, RX6, TX6, 9, rfl, rfl, by decide, iX6, tyX6_ok, nmX6, bw_in (lwt_1 (List.mem_of_getElem? (i := 53) rfl)) rfl, rfl, rfl⟩
theorem gf_RX4_63 : GF RX4 63 6 2 true := ⟨by decide, RX6, TX6, 9, rfl, rfl, by decide, iX6, tyX6_ok, nmX6, bw_in (lwt_1 (List.mem_of_getElem? (i := 54) rfl)) rfl, rfl, rfl⟩
theorem gf_RX3_124 : GF RX3 124 6 2 true := ⟨by decide, RX6, TX6, 9, rfl, rfl, by decide, iX6, tyX6_ok, nmX6, bw_in (lwt_1 (List.mem_of_getElem? (i := 55) rfl)) rfl, rfl, rfl⟩
theorem gf_RX0_104 : GF RX0 104 6 2 true := ⟨by decide, RX6, TX6, 9, rfl, rfl, by decide, iX6, tyX6_ok, nmX6, bw_in (lwt_1 (List.mem_of_getElem? (i := 56) rfl)) rfl, rfl, rfl⟩
theorem gf_RX11_178 : GF RX11 178 6 2 true := ⟨by decide, RX6, TX6, 9, rfl, rfl, by decide, iX6, tyX6_ok, nmX6, bw_in (lwt_1 (List.mem_of_getElem? (i := 57) rfl)) rfl, rfl, rfl⟩
theorem gf_RX4_39 : GF RX4 39 6 3 false := ⟨by decide, RX6, TX6, 9, rfl, rfl, by decide, iX6, tyX6_ok, nmX6, bw_in (lwt_1 (List.mem_of_getElem? (i := 58) rfl)) rfl, rfl, rfl⟩
theorem gf_RX6_31 : GF RX6 31 6 3 false := ⟨by decide, RX6, TX6, 9, rfl, rfl, by decide, iX6, tyX6_ok, nmX6, bw_in (lwt_1 (List.mem_of_getElem? (i := 59) rfl)) rfl, rfl, rfl⟩
theorem gf_RX10_77 : GF RX10 77 6 3 false := ⟨by decide, RX6, TX6, 9, rfl, rfl, by decide, iX6, tyX6_ok, nmX6, bw_in (lwt_1 (List.mem_of_getElem? (i := 60) rfl)) rfl, rfl, rfl⟩
theorem gf_RX3_81 : GF RX3 81 6 3 false := ⟨by decide, RX6, TX6, 9, rfl, rfl, by decide, iX6, tyX6_ok, nmX6, bw_in (lwt_1 (List.mem_of_getElem? (i := 61) rfl)) rfl, rfl, rfl⟩
theorem gf_RX0_93 : GF RX0 93 6 3 false := ⟨by decide, RX6, TX6, 9, rfl, rfl, by decide, iX6, tyX6_ok, nmX6, bw_in (lwt_1 (List.mem_of_getElem? (i := 62) rfl)) rfl, rfl, rfl⟩
theorem gf_RX2_79 : GF RX2 79 6 3 false := ⟨by decide, RX6, TX6, 9, rfl, rfl, by decide, iX6, tyX6_ok, nmX6, bw_in (lwt_1 (List.mem_of_getElem? (i := 63) rfl)) rfl, rfl, rfl⟩
theorem gf_RX7_82 : GF RX7 82 6 3 false := ⟨by decide, RX6, TX6, 9, rfl, rfl, by decide, iX6, tyX6_ok, nmX6, bw_in (lwt_1 (List.mem_of_getElem? (i := 64) rfl)) rfl, rfl, rfl⟩
theorem gf_RX11_345 : GF RX11 345 6 3 false := ⟨by decide, RX6, TX6, 9, rfl, rfl, by decide, iX6, tyX6_ok, nmX6, bw_in (lwt_1 (List.mem_of_getElem? (i := 65) rfl)) rfl, rfl, rfl⟩
theorem gf_RX3_32 : GF RX3 32 6 4 false := ⟨by decide, RX6, TX6, 9, rfl, rfl, by decide, iX6, tyX6_ok, nmX6, bw_in (lwt_1 (List.mem_of_getElem? (i := 66) rfl)) rfl, rfl, rfl⟩
theorem gf_RX6_34 : GF RX6 34 6 4 false := ⟨by decide, RX6, TX6, 9, rfl, rfl, by decide, iX6, tyX6_ok, nmX6, bw_in (lwt_1 (List.mem_of_getElem? (i := 67) rfl)) rfl, rfl, rfl⟩
theorem gf_RX4_53 : GF RX4 53 6 4 false := ⟨by decide, RX6, TX6, 9, rfl, rfl, by decide, iX6, tyX6_ok, nmX6, bw_in (lwt_1 (List.mem_of_getElem? (i := 68) rfl)) rfl, rfl, rfl⟩
theorem gf_RX0_54 : GF RX0 54 6 4 false := ⟨by decide, RX6, TX6, 9, rfl, rfl, by decide, iX6, tyX6_ok, nmX6, bw_in (lwt_1 (List.mem_of_getElem? (i := 69) rfl)) rfl, rfl, rfl⟩
theorem gf_RX10_94 : GF RX10 94 6 4 false := ⟨by decide, RX6, TX6, 9, rfl, rfl, by decide, iX6, tyX6_ok, nmX6, bw_in (lwt_1 (List.mem_of_getElem? (i := 70) rfl)) rfl, rfl, rfl⟩
theorem gf_RX11_193 : GF RX11 193 6 4 false := ⟨by decide, RX6, TX6, 9, rfl, rfl, by decide, iX6, tyX6_ok, nmX6, bw_in (lwt_1 (List.mem_of_getElem? (i := 71) rfl)) rfl, rfl, rfl⟩
theorem gf_RX6_37 : GF RX6 37 6 5 false := ⟨by decide, RX6, TX6, 9, rfl, rfl, by decide, iX6, tyX6_ok, nmX6, bw_in (lwt_1 (List.mem_of_getElem? (i := 72) rfl)) rfl, rfl, rfl⟩
theorem gf_RX3_118 : GF RX3 118 6 5 false := ⟨by decide, RX6, TX6, 9, rfl, rfl, by decide, iX6, tyX6_ok, nmX6, bw_in (lwt_1 (List.mem_of_getElem? (i := 73) rfl)) rfl, rfl, rfl⟩
theorem gf_RX0_132 : GF RX0 132 6 5 false := ⟨by decide, RX6, TX6, 9, rfl, rfl, by decide, iX6, tyX6_ok, nmX6, bw_in (lwt_1 (List.mem_of_getElem? (i := 74) rfl)) rfl, rfl, rfl⟩
theorem gf_RX11_196 : GF RX11 196 6 5 false := ⟨by decide, RX6, TX6, 9, rfl, rfl, by decide, iX6, tyX6_ok, nmX6, bw_in (lwt_1 (List.mem_of_getElem? (i := 75) rfl)) rfl, rfl, rfl⟩
theorem gf_RX6_40 : GF RX6 40 6 6 false := ⟨by decide, RX6, TX6, 9, rfl, rfl, by decide, iX6, tyX6_ok, nmX6, bw_in (lwt_1 (List.mem_of_getElem? (i := 76) rfl)) rfl, rfl, rfl⟩
theorem gf_RX10_91 : GF RX10 91 6 6 false := ⟨by decide, RX6, TX6, 9, rfl, rfl, by decide, iX6, tyX6_ok, nmX6, bw_in (lwt_1 (List.mem_of_getElem? (i := 77) rfl)) rfl, rfl, rfl⟩
theorem gf_RX0_84 : GF RX0 84 6 6 false := ⟨by decide, RX6, TX6, 9, rfl, rfl, by decide, iX6, tyX6_ok, nmX6, bw_in (lwt_1 (List.mem_of_getElem? (i := 78) rfl)) rfl, rfl, rfl⟩
theorem gf_RX3_115 : GF RX3 115 6 6 false := ⟨by decide, RX6, TX6, 9, rfl, rfl, by decide, iX6, tyX6_ok, nmX6, bw_in (lwt_1 (List.mem_of_getElem? (i := 79) rfl)) rfl, rfl, rfl⟩
theorem gf_RX11_131 : GF RX11 131 6 6 false := ⟨by decide, RX6, TX6, 9, rfl, rfl, by decide, iX6, tyX6_ok, nmX6, bw_in (lwt_1 (List.mem_of_getElem? (i := 80) rfl)) rfl, rfl, rfl⟩
theorem gf_RX6_21 : GF RX6 21 6 7 false := ⟨by decide, RX6, TX6, 9, rfl, rfl, by decide, iX6, tyX6_ok, nmX6, bw_in (lwt_1 (List.mem_of_getElem? (i := 81) rfl)) rfl, rfl, rfl⟩
theorem gf_RX0_87 : GF RX0 87 6 7 false := ⟨by decide, RX6, TX6, 9, rfl, rfl, by decide, iX6, tyX6_ok, nmX6, bw_in (lwt_1 (List.mem_of_getElem? (i := 82) rfl)) rfl, rfl, rfl⟩
theorem gf_RX11_152 : GF RX11 152 6 7 false := ⟨by decide, RX6, TX6, 9, rfl, rfl, by decide, iX6, tyX6_ok, nmX6, bw_in (lwt_1 (List.mem_of_getElem? (i := 83) rfl)) rfl, rfl, rfl⟩
theorem gf_RX6_43 : GF RX6 43 6 8 false := ⟨by decide, RX6, TX6, 9, rfl, rfl, by decide, iX6, tyX6_ok, nmX6, bw_in (lwt_1 (List.mem_of_getElem? (i := 84) rfl)) rfl, rfl, rfl⟩
theorem gf_RX10_88 : GF RX10 88 6 8 false := ⟨by decide, RX6, TX6, 9, rfl, rfl, by decide, iX6, tyX6_ok, nmX6, bw_in (lwt_1 (List.mem_of_getElem? (i := 85) rfl)) rfl, rfl, rfl⟩
theorem gf_RX11_202 : GF RX11 202 6 8 false := ⟨by decide, RX6, TX6, 9, rfl, rfl, by decide, iX6, tyX6_ok, nmX6, bw_in (lwt_1 (List.mem_of_getElem? (i := 86) rfl)) rfl, rfl, rfl⟩
theorem gf_RX9_9 : GF RX9 9 9 0 true := ⟨by decide, RX9, TX9, 10, rfl, rfl, by decide, iX9, tyX9_ok, nmX9, bw_in (lwt_1 (List.mem_of_getElem? (i := 116) rfl)) rfl, rfl, rfl⟩
theorem gf_RX11_291 : GF RX11 291 9 0 true := ⟨by decide, RX9, TX9, 10, rfl, rfl, by decide, iX9, tyX9_ok, nmX9, bw_in (lwt_1 (List.mem_of_getElem? (i := 117) rfl)) rfl, rfl, rfl⟩
theorem gf_RX9_15 : GF RX9 15 9 1 true := ⟨by decide, RX9, TX9, 10, rfl, rfl, by decide, iX9, tyX9_ok, nmX9, bw_in (lwt_1 (List.mem_of_getElem? (i := 118) rfl)) rfl, rfl, rfl⟩
theorem gf_RX2_87 : GF RX2 87 9 1 true := ⟨by decide, RX9, TX9, 10, rfl, rfl, by decide, iX9, tyX9_ok, nmX9, bw_in (lwt_1 (List.mem_of_getElem? (i := 119) rfl)) rfl, rfl, rfl⟩
theorem gf_RX11_300 : GF RX11 300 9 1 true := ⟨by decide, RX9, TX9, 10, rfl, rfl, by decide, iX9, tyX9_ok, nmX9, bw_in (lwt_1 (List.mem_of_getElem? (i := 120) rfl)) rfl, rfl, rfl⟩
theorem gf_RX9_18 : GF RX9 18 9 2 true := ⟨by decide, RX9, TX9, 10, rfl, rfl, by decide, iX9, tyX9_ok, nmX9, bw_in (lwt_1 (List.mem_of_getElem? (i := 121) rfl)) rfl, rfl, rfl⟩
theorem gf_RX1_37 : GF RX1 37 9 2 true := ⟨by decide, RX9, TX9, 10, rfl, rfl, by decide, iX9, tyX9_ok, nmX9, bw_in (lwt_1 (List.mem_of_getElem? (i := 122) rfl)) rfl, rfl, rfl⟩
theorem gf_RX11_315 : GF RX11 315 9 2 true := ⟨by decide, RX9, TX9, 10, rfl, rfl, by decide, iX9, tyX9_ok, nmX9, bw_in (lwt_1 (List.mem_of_getElem? (i := 123) rfl)) rfl, rfl, rfl⟩
theorem gf_RX9_21 : GF RX9 21 9 3 true := ⟨by decide, RX9, TX9, 10, rfl, rfl, by decide, iX9, tyX9_ok, nmX9, bw_in (lwt_1 (List.mem_of_getElem? (i := 124) rfl)) rfl, rfl, rfl⟩
theorem gf_RX1_34 : GF RX1 34 9 3 true := ⟨by decide, RX9, TX9, 10, rfl, rfl, by decide, iX9, tyX9_ok, nmX9, bw_in (lwt_1 (List.mem_of_getElem? (i := 125) rfl)) rfl, rfl, rfl⟩
theorem gf_RX11_318 : GF RX11 318 9 3 true := ⟨by decide, RX9, TX9, 10, rfl, rfl, by decide, iX9, tyX9_ok, nmX9, bw_in (lwt_1 (List.mem_of_getElem? (i := 126) rfl)) rfl, rfl, rfl⟩
theorem gf_RX9_24 : GF RX9 24 9 4 true := ⟨by decide, RX9, TX9, 10, rfl, rfl, by decide, iX9, tyX9_ok, nmX9, bw_in (lwt_1 (List.mem_of_getElem? (i := 127) rfl)) rfl, rfl, rfl⟩
theorem gf_RX3_109 : GF RX3 109 9 4 true := ⟨by decide, RX9, TX9, 10, rfl, rfl, by decide, iX9, tyX9_ok, nmX9, bw_in (lwt_1 (List.mem_of_getElem? (i := 128) rfl)) rfl, rfl, rfl⟩
theorem gf_RX11_336 : GF RX11 336 9 4 true := ⟨by decide, RX9, TX9, 10, rfl, rfl, by decide, iX9, tyX9_ok, nmX9, bw_in (lwt_1 (List.mem_of_getElem? (i := 129) rfl)) rfl, rfl, rfl⟩
theorem gf_RX9_27 : GF RX9 27 9 5 true := ⟨by decide, RX9, TX9, 10, rfl, rfl, by decide, iX9, tyX9_ok, nmX9, bw_in (lwt_1 (List.mem_of_getElem? (i := 130) rfl)) rfl, rfl, rfl⟩
theorem gf_RX3_112 : GF RX3 112 9 5 true := ⟨by decide, RX9, TX9, 10, rfl, rfl, by decide, iX9, tyX9_ok, nmX9, bw_in (lwt_1 (List.mem_of_getElem? (i := 131) rfl)) rfl, rfl, rfl⟩
theorem gf_RX11_339 : GF RX11 339 9 5 true := ⟨by decide, RX9, TX9, 10, rfl, rfl, by decide, iX9, tyX9_ok, nmX9, bw_in (lwt_1 (List.mem_of_getElem? (i := 132) rfl)) rfl, rfl, rfl⟩
theorem gf_RX9_36 : GF RX9 36 9 6 false := ⟨by decide, RX9, TX9, 10, rfl, rfl, by decide, iX9, tyX9_ok, nmX9, bw_in (lwt_1 (List.mem_of_getElem? (i := 133) rfl)) rfl, rfl, rfl⟩
theorem gf_RX4_117 : GF RX4 117 9 6 false := ⟨by decide, RX9, TX9, 10, rfl, rfl, by decide, iX9, tyX9_ok, nmX9, bw_in (lwt_1 (List.mem_of_getElem? (i := 134) rfl)) rfl, rfl, rfl⟩
theorem gf_RX11_257 : GF RX11 257 9 6 false := ⟨by decide, RX9, TX9, 10, rfl, rfl, by decide, iX9, tyX9_ok, nmX9, bw_in (lwt_1 (List.mem_of_getElem? (i := 135) rfl)) rfl, rfl, rfl⟩
theorem gf_RX9_40 : GF RX9 40 9 7 false := ⟨by decide, RX9, TX9, 10, rfl, rfl, by decide, iX9, tyX9_ok, nmX9, bw_in (lwt_1 (List.mem_of_getElem? (i := 136) rfl)) rfl, rfl, rfl⟩
theorem gf_RX2_53 : GF RX2 53 9 7 false := ⟨by decide, RX9, TX9, 10, rfl, rfl, by decide, iX9, tyX9_ok, nmX9, bw_in (lwt_1 (List.mem_of_getElem? (i := 137) rfl)) rfl, rfl, rfl⟩
theorem gf_RX11_297 : GF RX11 297 9 7 false := ⟨by decide, RX9, TX9, 10, rfl, rfl, by decide, iX9, tyX9_ok, nmX9, bw_in (lwt_1 (List.mem_of_getElem? (i := 138) rfl)) rfl, rfl, rfl⟩
theorem gf_RX1_29 : GF RX1 29 9 8 false := ⟨by decide, RX9, TX9, 10, rfl, rfl, by decide, iX9, tyX9_ok, nmX9, bw_in (lwt_1 (List.mem_of_getElem? (i := 139) rfl)) rfl, rfl, rfl⟩
theorem gf_RX9_43 : GF RX9 43 9 8 false := ⟨by decide, RX9, TX9, 10, rfl, rfl, by decide, iX9, tyX9_ok, nmX9, bw_in (lwt_1 (List.mem_of_getElem? (i := 140) rfl)) rfl, rfl, rfl⟩
theorem gf_RX11_312 : GF RX11 312 9 8 false := ⟨by decide, RX9, TX9, 10, rfl, rfl, by decide, iX9, tyX9_ok, nmX9, bw_in (lwt_1 (List.mem_of_getElem? (i := 141) rfl)) rfl, rfl, rfl⟩
theorem gf_RX9_46 : GF RX9 46 9 9 false := ⟨by decide, RX9, TX9, 10, rfl, rfl, by decide, iX9, tyX9_ok, nmX9, bw_in (lwt_1 (List.mem_of_getElem? (i := 142) rfl)) rfl, rfl, rfl⟩
theorem gf_RX3_104 : GF RX3 104 9 9 false := ⟨by decide, RX9, TX9, 10, rfl, rfl, by decide, iX9, tyX9_ok, nmX9, bw_in (lwt_1 (List.mem_of_getElem? (i := 143) rfl)) rfl, rfl, rfl⟩
theorem gf_RX11_333 : GF RX11 333 9 9 false := ⟨by decide, RX9, TX9, 10, rfl, rfl, by decide, iX9, tyX9_ok, nmX9, bw_in (lwt_1 (List.mem_of_getElem? (i := 144) rfl)) rfl, rfl, rfl⟩
theorem gf_RX10_9 : GF RX10 9 10 0 true := ⟨by decide, RX10, TX10, 13, rfl, rfl, by decide, iX10, tyX10_ok, nmX10, bw_in (lwt_1 (List.mem_of_getElem? (i := 166) rfl)) rfl, rfl, rfl⟩
theorem gf_RX7_96 : GF RX7 96 10 0 true := ⟨by decide, RX10, TX10, 13, rfl, rfl, by decide, iX10, tyX10_ok, nmX10, bw_in (lwt_1 (List.mem_of_getElem? (i := 167) rfl)) rfl, rfl, rfl⟩
theorem gf_RX11_168 : GF RX11 168 10 0 true := ⟨by decide, RX10, TX10, 13, rfl, rfl, by decide, iX10, tyX10_ok, nmX10, bw_in (lwt_1 (List.mem_of_getElem? (i := 168) rfl)) rfl, rfl, rfl⟩
theorem gf_RX10_15 : GF RX10 15 10 1 true := ⟨by decide, RX10, TX10, 13, rfl, rfl, by decide, iX10, tyX10_ok, nmX10, bw_in (lwt_1 (List.mem_of_getElem? (i := 169) rfl)) rfl, rfl, rfl⟩
theorem gf_RX7_99 : GF RX7 99 10 1 true := ⟨by decide, RX10, TX10, 13, rfl, rfl, by decide, iX10, tyX10_ok, nmX10, bw_in (lwt_1 (List.mem_of_getElem? (i := 170) rfl)) rfl, rfl, rfl⟩
theorem gf_RX11_172 : GF RX11 172 10 1 true := ⟨by decide, RX10, TX10, 13, rfl, rfl, by decide, iX10, tyX10_ok, nmX10, bw_in (lwt_1 (List.mem_of_getElem? (i := 171) rfl)) rfl, rfl, rfl⟩
theorem gf_RX10_18 : GF RX10 18 10 2 true := ⟨by decide, RX10, TX10, 13, rfl, rfl, by decide, iX10, tyX10_ok, nmX10, bw_in (lwt_1 (List.mem_of_getElem? (i := 172) rfl)) rfl, rfl, rfl⟩
theorem gf_RX3_121 : GF RX3 121 10 2 true := ⟨by decide, RX10, TX10, 13, rfl, rfl, by decide, iX10, tyX10_ok, nmX10, bw_in (lwt_1 (List.mem_of_getElem? (i := 173) rfl)) rfl, rfl, rfl⟩
theorem gf_RX2_84 : GF RX2 84 10 2 true := ⟨by decide, RX10, TX10, 13, rfl, rfl, by decide, iX10, tyX10_ok, nmX10, bw_in (lwt_1 (List.mem_of_getElem? (i := 174) rfl)) rfl, rfl, rfl⟩
theorem gf_RX0_115 : GF RX0 115 10 2 true := ⟨by decide, RX10, TX10, 13, rfl, rfl, by decide, iX10, tyX10_ok, nmX10, bw_in (lwt_1 (List.mem_of_getElem? (i := 175) rfl)) rfl, rfl, rfl⟩
theorem gf_RX11_175 : GF RX11 175 10 2 true := ⟨by decide, RX10, TX10, 13, rfl, rfl, by decide, iX10, tyX10_ok, nmX10, bw_in (lwt_1 (List.mem_of_getElem? (i := 176) rfl)) rfl, rfl, rfl⟩
theorem gf_RX10_21 : GF RX10 21 10 3 true := ⟨by decide, RX10, TX10, 13, rfl, rfl, by decide, iX10, tyX10_ok, nmX10, bw_in (lwt_1 (List.mem_of_getElem? (i := 177) rfl)) rfl, rfl, rfl⟩
theorem gf_RX10_27 : GF RX10 27 10 4 true := ⟨by decide, RX10, TX10, 13, rfl, rfl, by decide, iX10, tyX10_ok, nmX10, bw_in (lwt_1 (List.mem_of_getElem? (i := 178) rfl)) rfl, rfl, rfl⟩
theorem gf_RX0_26 : GF RX0 26 10 4 true := ⟨by decide, RX10, TX10, 13, rfl, rfl, by decide, iX10, tyX10_ok, nmX10, bw_in (lwt_1 (List.mem_of_getElem? (i := 179) rfl)) rfl, rfl, rfl⟩
theorem gf_RX4_33 : GF RX4 33 10 4 true := ⟨by decide, RX10, TX10, 13, rfl, rfl, by decide, iX10, tyX10_ok, nmX10, bw_in (lwt_1 (List.mem_of_getElem? (i := 180) rfl)) rfl, rfl, rfl⟩
theorem gf_RX3_28 : GF RX3 28 10 4 true := ⟨by decide, RX10, TX10, 13, rfl, rfl, by decide, iX10, tyX10_ok, nmX10, bw_in (lwt_1 (List.mem_of_getElem? (i := 181) rfl)) rfl, rfl, rfl⟩
theorem gf_RX2_75 : GF RX2 75 10 4 true := ⟨by decide, RX10, TX10, 13, rfl, rfl, by decide, iX10, tyX10_ok, nmX10, bw_in (lwt_1 (List.mem_of_getElem? (i := 182) rfl)) rfl, rfl, rfl⟩
theorem gf_RX11_127 : GF RX11 127 10 4 true := ⟨by decide, RX10, TX10, 13, rfl, rfl, by decide, iX10, tyX10_ok, nmX10, bw_in (lwt_1 (List.mem_of_getElem? (i := 183) rfl)) rfl, rfl, rfl⟩
theorem gf_RX7_76 : GF RX7 76 10 4 true := ⟨by decide, RX10, TX10, 13, rfl, rfl, by decide, iX10, tyX10_ok, nmX10, bw_in (lwt_1 (List.mem_of_getElem? (i := 184) rfl)) rfl, rfl, rfl⟩
theorem gf_RX10_31 : GF RX10 31 10 5 true := ⟨by decide, RX10, TX10, 13, rfl, rfl, by decide, iX10, tyX10_ok, nmX10, bw_in (lwt_1 (List.mem_of_getElem? (i := 185) rfl)) rfl, rfl, rfl⟩
theorem gf_RX10_35 : GF RX10 35 10 6 true := ⟨by decide, RX10, TX10, 13, rfl, rfl, by decide, iX10, tyX10_ok, nmX10, bw_in (lwt_1 (List.mem_of_getElem? (i := 186) rfl)) rfl, rfl, rfl⟩
theorem gf_RX11_205 : GF RX11 205 10 6 true := ⟨by decide, RX10, TX10, 13, rfl, rfl, by decide, iX10, tyX10_ok, nmX10, bw_in (lwt_1 (List.mem_of_getElem? (i := 187) rfl)) rfl, rfl, rfl⟩
theorem gf_RX10_40 : GF RX10 40 10 7 true := ⟨by decide, RX10, TX10, 13, rfl, rfl, by decide, iX10, tyX10_ok, nmX10, bw_in (lwt_1 (List.mem_of_getElem? (i := 188) rfl)) rfl, rfl, rfl⟩
theorem gf_RX3_49 : GF RX3 49 10 7 true := ⟨by decide, RX10, TX10, 13, rfl, rfl, by decide, iX10, tyX10_ok, nmX10, bw_in (lwt_1 (List.mem_of_getElem? (i := 189) rfl)) rfl, rfl, rfl⟩
theorem gf_RX11_100 : GF RX11 100 10 7 true := ⟨by decide, RX10, TX10, 13, rfl, rfl, by decide, iX10, tyX10_ok, nmX10, bw_in (lwt_1 (List.mem_of_getElem? (i := 190) rfl)) rfl, rfl, rfl⟩
theorem gf_RX10_47 : GF RX10 47 10 8 true := ⟨by decide, RX10, TX10, 13, rfl, rfl, by decide, iX10, tyX10_ok, nmX10, bw_in (lwt_1 (List.mem_of_getElem? (i := 191) rfl)) rfl, rfl, rfl⟩
theorem gf_RX11_67 : GF RX11 67 10 8 true := ⟨by decide, RX10, TX10, 13, rfl, rfl, by decide, iX10, tyX10_ok, nmX10, bw_in (lwt_1 (List.mem_of_getElem? (i := 192) rfl)) rfl, rfl, rfl⟩
theorem gf_RX2_47 : GF RX2 47 10 8 true := ⟨by decide, RX10, TX10, 13, rfl, rfl, by decide, iX10, tyX10_ok, nmX10, bw_in (lwt_1 (List.mem_of_getElem? (i := 193) rfl)) rfl, rfl, rfl⟩
theorem gf_RX3_100 : GF RX3 100 10 8 true := ⟨by decide, RX10, TX10, 13, rfl, rfl, by decide, iX10, tyX10_ok, nmX10, bw_in (lwt_1 (List.mem_of_getElem? (i := 194) rfl)) rfl, rfl, rfl⟩
theorem gf_RX4_113 : GF RX4 113 10 8 true := ⟨by decide, RX10, TX10, 13, rfl, rfl, by decide, iX10, tyX10_ok, nmX10, bw_in (lwt_1 (List.mem_of_getElem? (i := 195) rfl)) rfl, rfl, rfl⟩
theorem gf_RX10_68 : GF RX10 68 10 9 false := ⟨by decide, RX10, TX10, 13, rfl, rfl, by decide, iX10, tyX10_ok, nmX10, bw_in (lwt_1 (List.mem_of_getElem? (i := 196) rfl)) rfl, rfl, rfl⟩
theorem gf_RX11_162 : GF RX11 162 10 9 false := ⟨by decide, RX10, TX10, 13, rfl, rfl, by decide, iX10, tyX10_ok, nmX10, bw_in (lwt_1 (List.mem_of_getElem? (i := 197) rfl)) rfl, rfl, rfl⟩
theorem gf_RX10_71 : GF RX10 71 10 10 false := ⟨by decide, RX10, TX10, 13, rfl, rfl, by decide, iX10, tyX10_ok, nmX10, bw_in (lwt_1 (List.mem_of_getElem? (i := 198) rfl)) rfl, rfl, rfl⟩
theorem gf_RX10_74 : GF RX10 74 10 11 false := ⟨by decide, RX10, TX10, 13, rfl, rfl, by decide, iX10, tyX10_ok, nmX10, bw_in (lwt_1 (List.mem_of_getElem? (i := 199) rfl)) rfl, rfl, rfl⟩
theorem gf_RX11_93 : GF RX11 93 10 11 false := ⟨by decide, RX10, TX10, 13, rfl, rfl, by decide, iX10, tyX10_ok, nmX10, bw_in (lwt_1 (List.mem_of_getElem? (i := 200) rfl)) rfl, rfl, rfl⟩
theorem gf_RX10_51 : GF RX10 51 10 12 false := ⟨by decide, RX10, TX10, 13, rfl, rfl, by decide, iX10, tyX10_ok, nmX10, bw_in (lwt_1 (List.mem_of_getElem? (i := 201) rfl)) rfl, rfl, rfl⟩
theorem gf_RX3_22 : GF RX3 22 10 12 false := ⟨by decide, RX10, TX10, 13, rfl, rfl, by decide, iX10, tyX10_ok, nmX10, bw_in (lwt_1 (List.mem_of_getElem? (i := 202) rfl)) rfl, rfl, rfl⟩
theorem gf_RX11_114 : GF RX11 114 10 12 false := ⟨by decide, RX10, TX10, 13, rfl, rfl, by decide, iX10, tyX10_ok, nmX10, bw_in (lwt_1 (List.mem_of_getElem? (i := 203) rfl)) rfl, rfl, rfl⟩
theorem gf_RX4_96 : GF RX4 96 10 12 false := ⟨by decide, RX10, TX10, 13, rfl, rfl, by decide, iX10, tyX10_ok, nmX10, bw_in (lwt_1 (List.mem_of_getElem? (i := 204) rfl)) rfl, rfl, rfl⟩
theorem gf_RX0_126 : GF RX0 126 10 12 false := ⟨by decide, RX10, TX10, 13, rfl, rfl, by decide, iX10, tyX10_ok, nmX10, bw_in (lwt_1 (List.mem_of_getElem? (i := 205) rfl)) rfl, rfl, rfl⟩
theorem gf_RX3_18 : GF RX3 18 3 0 true := ⟨by decide, RX3, TX3, 3, rfl, rfl, by decide, iX3, tyX3_ok, nmX3, bw_in (lwt_1 (List.mem_of_getElem? (i := 239) rfl)) rfl, rfl, rfl⟩
theorem gf_RX3_9 : GF RX3 9 3 1 true := ⟨by decide, RX3, TX3, 3, rfl, rfl, by decide, iX3, tyX3_ok, nmX3, bw_in (lwt_2 (List.mem_of_getElem? (i := 0) rfl)) rfl, rfl, rfl⟩
theorem gf_RX3_15 : GF RX3 15 3 2 true := ⟨by decide, RX3, TX3, 3, rfl, rfl, by decide, iX3, tyX3_ok, nmX3, bw_in (lwt_2 (List.mem_of_getElem? (i := 1) rfl)) rfl, rfl, rfl⟩
theorem gf_RX0_18 : GF RX0 18 0 0 true := ⟨by decide, RX0, TX0, 3, rfl, rfl, by decide, iX0, tyX0_ok, nmX0, bw_in (lwt_2 (List.mem_of_getElem? (i := 17) rfl)) rfl, rfl, rfl⟩
theorem gf_RX0_22 : GF RX0 22 0 1 true := ⟨by decide, RX0, TX0, 3, rfl, rfl, by decide, iX0, tyX0_ok, nmX0, bw_in (lwt_2 (List.mem_of_getElem? (i := 18) rfl)) rfl, rfl, rfl⟩
theorem gf_RX0_12 : GF RX0 12 0 2 true := ⟨by decide, RX0, TX0, 3, rfl, rfl, by decide, iX0, tyX0_ok, nmX0, bw_in (lwt_2 (List.mem_of_getElem? (i := 19) rfl)) rfl, rfl, rfl⟩
theorem gf_RX5_9 : GF RX5 9 5 0 true := ⟨by decide, RX5, TX5, 17, rfl, rfl, by decide, iX5, tyX5_ok, nmX5, bw_in (lwt_2 (List.mem_of_getElem? (i := 33) rfl)) rfl, rfl, rfl⟩
theorem gf_RX8_9 : GF RX8 9 5 1 true := ⟨by decide, RX5, TX5, 17, rfl, rfl, by decide, iX5, tyX5_ok, nmX5, bw_in (lwt_2 (List.mem_of_getElem? (i := 34) rfl)) rfl, rfl, rfl⟩
theorem gf_RX5_15 : GF RX5 15 5 1 true := ⟨by decide, RX5, TX5, 17, rfl, rfl, by decide, iX5, tyX5_ok, nmX5, bw_in (lwt_2 (List.mem_of_getElem? (i := 35) rfl)) rfl, rfl, rfl⟩
theorem gf_RX8_28 : GF RX8 28 5 2 true := ⟨by decide, RX5, TX5, 17, rfl, rfl, by decide, iX5, tyX5_ok, nmX5, bw_in (lwt_2 (List.mem_of_getElem? (i := 36) rfl)) rfl, rfl, rfl⟩
theorem gf_RX5_18 : GF RX5 18 5 2 true := ⟨by decide, RX5, TX5, 17, rfl, rfl, by decide, iX5, tyX5_ok, nmX5, bw_in (lwt_2 (List.mem_of_getElem? (i := 37) rfl)) rfl, rfl, rfl⟩
theorem gf_RX5_28 : GF RX5 28 5 3 false := ⟨by decide, RX5, TX5, 17, rfl, rfl, by decide, iX5, tyX5_ok, nmX5, bw_in (lwt_2 (List.mem_of_getElem? (i := 38) rfl)) rfl, rfl, rfl⟩
theorem gf_RX11_85 : GF RX11 85 5 3 false := ⟨by decide, RX5, TX5, 17, rfl, rfl, by decide, iX5, tyX5_ok, nmX5, bw_in (lwt_2 (List.mem_of_getElem? (i := 39) rfl)) rfl, rfl, rfl⟩
theorem gf_RX5_21 : GF RX5 21 5 4 false := ⟨by decide, RX5, TX5, 17, rfl, rfl, by decide, iX5, tyX5_ok, nmX5, bw_in (lwt_2 (List.mem_of_getElem? (i := 40) rfl)) rfl, rfl, rfl⟩
theorem gf_RX11_104 : GF RX11 104 5 4 false := ⟨by decide, RX5, TX5, 17, rfl, rfl, by decide, iX5, tyX5_ok, nmX5, bw_in (lwt_2 (List.mem_of_getElem? (i := 41) rfl)) rfl, rfl, rfl⟩
theorem gf_RX5_25 : GF RX5 25 5 5 false := ⟨by decide, RX5, TX5, 17, rfl, rfl, by decide, iX5, tyX5_ok, nmX5, bw_in (lwt_2 (List.mem_of_getElem? (i := 42) rfl)) rfl, rfl, rfl⟩
theorem gf_RX11_107 : GF RX11 107 5 5 false := ⟨by decide, RX5, TX5, 17, rfl, rfl, by decide, iX5, tyX5_ok, nmX5, bw_in (lwt_2 (List.mem_of_getElem? (i := 43) rfl)) rfl, rfl, rfl⟩
theorem gf_RX8_15 : GF RX8 15 5 6 false := ⟨by decide, RX5, TX5, 17, rfl, rfl, by decide, iX5, tyX5_ok, nmX5, bw_in (lwt_2 (List.mem_of_getElem? (i := 44) rfl)) rfl, rfl, rfl⟩
theorem gf_RX5_53 : GF RX5 53 5 6 false := ⟨by decide, RX5, TX5, 17, rfl, rfl, by decide, iX5, tyX5_ok, nmX5, bw_in (lwt_2 (List.mem_of_getElem? (i := 45) rfl)) rfl, rfl, rfl⟩
theorem gf_RX8_31 : GF RX8 31 5 7 false := ⟨by decide, RX5, TX5, 17, rfl, rfl, by decide, iX5, tyX5_ok, nmX5, bw_in (lwt_2 (List.mem_of_getElem? (i := 46) rfl)) rfl, rfl, rfl⟩
theorem gf_RX5_56 : GF RX5 56 5 7 false := ⟨by decide, RX5, TX5, 17, rfl, rfl, by decide, iX5, tyX5_ok, nmX5, bw_in (lwt_2 (List.mem_of_getElem? (i := 47) rfl)) rfl, rfl, rfl⟩
theorem gf_RX8_36 : GF RX8 36 5 8 false := ⟨by decide, RX5, TX5, 17, rfl, rfl, by decide, iX5, tyX5_ok, nmX5, bw_in (lwt_2 (List.mem_of_getElem? (i := 48) rfl)) rfl, rfl, rfl⟩
theorem gf_RX5_59 : GF RX5 59 5 8 false := ⟨by decide, RX5, TX5, 17, rfl, rfl, by decide, iX5, tyX5_ok, nmX5, bw_in (lwt_2 (List.mem_of_getElem? (i := 49) rfl)) rfl, rfl, rfl⟩
theorem gf_RX8_40 : GF RX8 40 5 9 false := ⟨by decide, RX5, TX5, 17, rfl, rfl, by decide, iX5, tyX5_ok, nmX5, bw_in (lwt_2 (List.mem_of_getElem? (i := 50) rfl)) rfl, rfl, rfl⟩
theorem gf_RX5_62 : GF RX5 62 5 9 false := ⟨by decide, RX5, TX5, 17, rfl, rfl, by decide, iX5, tyX5_ok, nmX5, bw_in (lwt_2 (List.mem_of_getElem? (i := 51) rfl)) rfl, rfl, rfl⟩
theorem gf_RX8_44 : GF RX8 44 5 10 false := ⟨by decide, RX5, TX5, 17, rfl, rfl, by decide, iX5, tyX5_ok, nmX5, bw_in (lwt_2 (List.mem_of_getElem? (i := 52) rfl)) rfl, rfl, rfl⟩
theorem gf_RX5_65 : GF RX5 65 5 10 false := ⟨by decide, RX5, TX5, 17, rfl, rfl, by decide, iX5, tyX5_ok, nmX5, bw_in (lwt_2 (List.mem_of_getElem? (i := 53) rfl)) rfl, rfl, rfl⟩
theorem gf_RX8_48 : GF RX8 48 5 11 false := ⟨by decide, RX5, TX5, 17, rfl, rfl, by decide, iX5, tyX5_ok, nmX5, bw_in (lwt_2 (List.mem_of_getElem? (i := 54) rfl)) rfl, rfl, rfl⟩
theorem gf_RX5_68 : GF RX5 68 5 11 false := ⟨by decide, RX5, TX5, 17, rfl, rfl, by decide, iX5, tyX5_ok, nmX5, bw_in (lwt_2 (List.mem_of_getElem? (i := 55) rfl)) rfl, rfl, rfl⟩
theorem gf_RX5_125 : GF RX5 125 5 12 false := ⟨by decide, RX5, TX5, 17, rfl, rfl, by decide, iX5, tyX5_ok, nmX5, bw_in (lwt_2 (List.mem_of_getElem? (i := 56) rfl)) rfl, rfl, rfl⟩
theorem gf_RX5_71 : GF RX5 71 5 13 false := ⟨by decide, RX5, TX5, 17, rfl, rfl, by decide, iX5, tyX5_ok, nmX5, bw_in (lwt_2 (List.mem_of_getElem? (i := 57) rfl)) rfl, rfl, rfl⟩
theorem gf_RX5_74 : GF RX5 74 5 14 false := ⟨by decide, RX5, TX5, 17, rfl, rfl, by decide, iX5, tyX5_ok, nmX5, bw_in (lwt_2 (List.mem_of_getElem? (i := 58) rfl)) rfl, rfl, rfl⟩
theorem gf_RX5_41 : GF RX5 41 5 15 false := ⟨by decide, RX5, TX5, 17, rfl, rfl, by decide, iX5, tyX5_ok, nmX5, bw_in (lwt_2 (List.mem_of_getElem? (i := 59) rfl)) rfl, rfl, rfl⟩
theorem gf_RX5_105 : GF RX5 105 5 16 false := ⟨by decide, RX5, TX5, 17, rfl, rfl, by decide, iX5, tyX5_ok, nmX5, bw_in (lwt_2 (List.mem_of_getElem? (i := 60) rfl)) rfl, rfl, rfl⟩
theorem gf_RX7_21 : GF RX7 21 7 0 true := ⟨by decide, RX7, TX7, 5, rfl, rfl, by decide, iX7, tyX7_ok, nmX7, bw_in (lwt_2 (List.mem_of_getElem? (i := 102) rfl)) rfl, rfl, rfl⟩
theorem gf_RX7_25 : GF RX7 25 7 1 true := ⟨by decide, RX7, TX7, 5, rfl, rfl, by decide, iX7, tyX7_ok, nmX7, bw_in (lwt_2 (List.mem_of_getElem? (i := 103) rfl)) rfl, rfl, rfl⟩
theorem gf_RX7_9 : GF RX7 9 7 2 true := ⟨by decide, RX7, TX7, 5, rfl, rfl, by decide, iX7, tyX7_ok, nmX7, bw_in (lwt_2 (List.mem_of_getElem? (i := 104) rfl)) rfl, rfl, rfl⟩
theorem gf_RX7_15 : GF RX7 15 7 3 true := ⟨by decide, RX7, TX7, 5, rfl, rfl, by decide, iX7, tyX7_ok, nmX7, bw_in (lwt_2 (List.mem_of_getElem? (i := 105) rfl)) rfl, rfl, rfl⟩
theorem gf_RX7_18 : GF RX7 18 7 4 true := ⟨by decide, RX7, TX7, 5, rfl, rfl, by decide, iX7, tyX7_ok, nmX7, bw_in (lwt_2 (List.mem_of_getElem? (i := 106) rfl)) rfl, rfl, rfl⟩
theorem gf_RX4_9 : GF RX4 9 4 0 true := ⟨by decide, RX4, TX4, 7, rfl, rfl, by decide, iX4, tyX4_ok, nmX4, bw_in (lwt_2 (List.mem_of_getElem? (i := 124) rfl)) rfl, rfl, rfl⟩
theorem gf_RX11_279 : GF RX11 279 4 0 true := ⟨by decide, RX4, TX4, 7, rfl, rfl, by decide, iX4, tyX4_ok, nmX4, bw_in (lwt_2 (List.mem_of_getElem? (i := 125) rfl)) rfl, rfl, rfl⟩
theorem gf_RX4_78 : GF RX4 78 4 1 false := ⟨by decide, RX4, TX4, 7, rfl, rfl, by decide, iX4, tyX4_ok, nmX4, bw_in (lwt_2 (List.mem_of_getElem? (i := 126) rfl)) rfl, rfl, rfl⟩
theorem gf_RX11_268 : GF RX11 268 4 1 false := ⟨by decide, RX4, TX4, 7, rfl, rfl, by decide, iX4, tyX4_ok, nmX4, bw_in (lwt_2 (List.mem_of_getElem? (i := 127) rfl)) rfl, rfl, rfl⟩
theorem gf_RX4_81 : GF RX4 81 4 2 false := ⟨by decide, RX4, TX4, 7, rfl, rfl, by decide, iX4, tyX4_ok, nmX4, bw_in (lwt_2 (List.mem_of_getElem? (i := 128) rfl)) rfl, rfl, rfl⟩
theorem gf_RX11_271 : GF RX11 271 4 2 false := ⟨by decide, RX4, TX4, 7, rfl, rfl, by decide, iX4, tyX4_ok, nmX4, bw_in (lwt_2 (List.mem_of_getElem? (i := 129) rfl)) rfl, rfl, rfl⟩
theorem gf_RX4_21 : GF RX4 21 4 3 true := ⟨by decide, RX4, TX4, 7, rfl, rfl, by decide, iX4, tyX4_ok, nmX4, bw_in (lwt_2 (List.mem_of_getElem? (i := 130) rfl)) rfl, rfl, rfl⟩
theorem gf_RX4_25 : GF RX4 25 4 4 true := ⟨by decide, RX4, TX4, 7, rfl, rfl, by decide, iX4, tyX4_ok, nmX4, bw_in (lwt_2 (List.mem_of_getElem? (i := 131) rfl)) rfl, rfl, rfl⟩
theorem gf_RX4_15 : GF RX4 15 4 5 true := ⟨by decide, RX4, TX4, 7, rfl, rfl, by decide, iX4, tyX4_ok, nmX4, bw_in (lwt_2 (List.mem_of_getElem? (i := 132) rfl)) rfl, rfl, rfl⟩
theorem gf_RX4_18 : GF RX4 18 4 6 true := ⟨by decide, RX4, TX4, 7, rfl, rfl, by decide, iX4, tyX4_ok, nmX4, bw_in (lwt_2 (List.mem_of_getElem? (i := 133) rfl)) rfl, rfl, rfl⟩
theorem gf_RX2_21 : GF RX2 21 2 0 true := ⟨by decide, RX2, TX2, 4, rfl, rfl, by decide, iX2, tyX2_ok, nmX2, bw_in (lwt_2 (List.mem_of_getElem? (i := 155) rfl)) rfl, rfl, rfl⟩
theorem gf_RX2_9 : GF RX2 9 2 1 true := ⟨by decide, RX2, TX2, 4, rfl, rfl, by decide, iX2, tyX2_ok, nmX2, bw_in (lwt_2 (List.mem_of_getElem? (i := 156) rfl)) rfl, rfl, rfl⟩
theorem gf_RX2_15 : GF RX2 15 2 2 true := ⟨by decide, RX2, TX2, 4, rfl, rfl, by decide, iX2, tyX2_ok, nmX2, bw_in (lwt_2 (List.mem_of_getElem? (i := 157) rfl)) rfl, rfl, rfl⟩
theorem gf_RX2_18 : GF RX2 18 2 3 true := ⟨by decide, RX2, TX2, 4, rfl, rfl, by decide, iX2, tyX2_ok, nmX2, bw_in (lwt_2 (List.mem_of_getElem? (i := 158) rfl)) rfl, rfl, rfl⟩
theorem gf_RX1_18 : GF RX1 18 1 0 true := ⟨by decide, RX1, TX1, 5, rfl, rfl, by decide, iX1, tyX1_ok, nmX1, bw_in (lwt_2 (List.mem_of_getElem? (i := 174) rfl)) rfl, rfl, rfl⟩
theorem gf_RX1_9 : GF RX1 9 1 1 true := ⟨by decide, RX1, TX1, 5, rfl, rfl, by decide, iX1, tyX1_ok, nmX1, bw_in (lwt_2 (List.mem_of_getElem? (i := 175) rfl)) rfl, rfl, rfl⟩
theorem gf_RX1_15 : GF RX1 15 1 2 true := ⟨by decide, RX1, TX1, 5, rfl, rfl, by decide, iX1, tyX1_ok, nmX1, bw_in (lwt_2 (List.mem_of_getElem? (i := 176) rfl)) rfl, rfl, rfl⟩
theorem gf_RX1_22 : GF RX1 22 1 3 false := ⟨by decide, RX1, TX1, 5, rfl, rfl, by decide, iX1, tyX1_ok, nmX1, bw_in (lwt_2 (List.mem_of_getElem? (i := 177) rfl)) rfl, rfl, rfl⟩
theorem gf_RX1_26 : GF RX1 26 1 4 false := ⟨by decide, RX1, TX1, 5, rfl, rfl, by decide, iX1, tyX1_ok, nmX1, bw_in (lwt_2 (List.mem_of_getElem? (i := 178) rfl)) rfl, rfl, rfl⟩
theorem gf_RX11_10 : GF RX11 10 11 0 true := ⟨by decide, RX11, TX11, 9, rfl, rfl, by decide, iX11, tyX11_ok, nmX11, bw_in (lwt_2 (List.mem_of_getElem? (i := 207) rfl)) rfl, rfl, rfl⟩
theorem gf_RX11_16 : GF RX11 16 11 1 true := ⟨by decide, RX11, TX11, 9, rfl, rfl, by decide, iX11, tyX11_ok, nmX11, bw_in (lwt_2 (List.mem_of_getElem? (i := 208) rfl)) rfl, rfl, rfl⟩
theorem gf_RX11_24 : GF RX11 24 11 2 true := ⟨by decide, RX11, TX11, 9, rfl, rfl, by decide, iX11, tyX11_ok, nmX11, bw_in (lwt_2 (List.mem_of_getElem? (i := 209) rfl)) rfl, rfl, rfl⟩
theorem gf_RX11_33 : GF RX11 33 11 3 true := ⟨by decide, RX11, TX11, 9, rfl, rfl, by decide, iX11, tyX11_ok, nmX11, bw_in (lwt_2 (List.mem_of_getElem? (i := 210) rfl)) rfl, rfl, rfl⟩
theorem gf_RX11_40 : GF RX11 40 11 4 true := ⟨by decide, RX11, TX11, 9, rfl, rfl, by decide, iX11, tyX11_ok, nmX11, bw_in (lwt_2 (List.mem_of_getElem? (i := 211) rfl)) rfl, rfl, rfl⟩
theorem gf_RX11_47 : GF RX11 47 11 5 true := ⟨by decide, RX11, TX11, 9, rfl, rfl, by decide, iX11, tyX11_ok, nmX11, bw_in (lwt_2 (List.mem_of_getElem? (i := 212) rfl)) rfl, rfl, rfl⟩
theorem gf_RX11_54 : GF RX11 54 11 6 true := ⟨by decide, RX11, TX11, 9, rfl, rfl, by decide, iX11, tyX11_ok, nmX11, bw_in (lwt_2 (List.mem_of_getElem? (i := 213) rfl)) rfl, rfl, rfl⟩
theorem gf_RX11_61 : GF RX11 61 11 7 true := ⟨by decide, RX11, TX11, 9, rfl, rfl, by decide, iX11, tyX11_ok, nmX11, bw_in (lwt_2 (List.mem_of_getElem? (i := 214) rfl)) rfl, rfl, rfl⟩
theorem gf_RX11_74 : GF RX11 74 11 8 true := ⟨by decide, RX11, TX11, 9, rfl, rfl, by decide, iX11, tyX11_ok, nmX11, bw_in (lwt_2 (List.mem_of_getElem? (i := 215) rfl)) rfl, rfl, rfl⟩
theorem gf_RX8_25 : GF RX8 25 8 0 true := ⟨by decide, RX8, TX8, 7, rfl, rfl, by decide, iX8, tyX8_ok, nmX8, bw_in (lwt_4 (List.mem_of_getElem? (i := 25) rfl)) rfl, rfl, rfl⟩
theorem gf_RX3_59 : GF RX3 59 8 0 true := ⟨by decide, RX8, TX8, 7, rfl, rfl, by decide, iX8, tyX8_ok, nmX8, bw_in (lwt_4 (List.mem_of_getElem? (i := 26) rfl)) rfl, rfl, rfl⟩
theorem gf_RX8_34 : GF RX8 34 8 1 true := ⟨by decide, RX8, TX8, 7, rfl, rfl, by decide, iX8, tyX8_ok, nmX8, bw_in (lwt_4 (List.mem_of_getElem? (i := 27) rfl)) rfl, rfl, rfl⟩
theorem gf_RX8_35 : GF RX8 35 8 2 true := ⟨by decide, RX8, TX8, 7, rfl, rfl, by decide, iX8, tyX8_ok, nmX8, bw_in (lwt_4 (List.mem_of_getElem? (i := 28) rfl)) rfl, rfl, rfl⟩
theorem gf_RX11_140 : GF RX11 140 8 2 true := ⟨by decide, RX8, TX8, 7, rfl, rfl, by decide, iX8, tyX8_ok, nmX8, bw_in (lwt_4 (List.mem_of_getElem? (i := 29) rfl)) rfl, rfl, rfl⟩
theorem gf_RX8_39 : GF RX8 39 8 3 true := ⟨by decide, RX8, TX8, 7, rfl, rfl, by decide, iX8, tyX8_ok, nmX8, bw_in (lwt_4 (List.mem_of_getElem? (i := 30) rfl)) rfl, rfl, rfl⟩
theorem gf_RX3_62 : GF RX3 62 8 3 true := ⟨by decide, RX8, TX8, 7, rfl, rfl, by decide, iX8, tyX8_ok, nmX8, bw_in (lwt_4 (List.mem_of_getElem? (i := 31) rfl)) rfl, rfl, rfl⟩
theorem gf_RX8_43 : GF RX8 43 8 4 true := ⟨by decide, RX8, TX8, 7, rfl, rfl, by decide, iX8, tyX8_ok, nmX8, bw_in (lwt_4 (List.mem_of_getElem? (i := 32) rfl)) rfl, rfl, rfl⟩
theorem gf_RX3_65 : GF RX3 65 8 4 true := ⟨by decide, RX8, TX8, 7, rfl, rfl, by decide, iX8, tyX8_ok, nmX8, bw_in (lwt_4 (List.mem_of_getElem? (i := 33) rfl)) rfl, rfl, rfl⟩
theorem gf_RX8_47 : GF RX8 47 8 5 true := ⟨by decide, RX8, TX8, 7, rfl, rfl, by decide, iX8, tyX8_ok, nmX8, bw_in (lwt_4 (List.mem_of_getElem? (i := 34) rfl)) rfl, rfl, rfl⟩
theorem gf_RX3_94 : GF RX3 94 8 5 true := ⟨by decide, RX8, TX8, 7, rfl, rfl, by decide, iX8, tyX8_ok, nmX8, bw_in (lwt_4 (List.mem_of_getElem? (i := 35) rfl)) rfl, rfl, rfl⟩
theorem gf_RX8_51 : GF RX8 51 8 6 true := ⟨by decide, RX8, TX8, 7, rfl, rfl, by decide, iX8, tyX8_ok, nmX8, bw_in (lwt_4 (List.mem_of_getElem? (i := 36) rfl)) rfl, rfl, rfl⟩
theorem gf_RX3_97 : GF RX3 97 8 6 true := ⟨by decide, RX8, TX8, 7, rfl, rfl, by decide, iX8, tyX8_ok, nmX8, bw_in (lwt_4 (List.mem_of_getElem? (i := 37) rfl)) rfl, rfl, rfl⟩
theorem gf_RX12_7 : GF RX12 7 12 0 true := ⟨by decide, RX12, TX12, 41, rfl, rfl, by decide, iX12, tyX12_ok, nmX12, bw_in (lwt_6 (List.mem_of_getElem? (i := 157) rfl)) rfl, rfl, rfl⟩
theorem gf_RX12_13 : GF RX12 13 12 1 true := ⟨by decide, RX12, TX12, 41, rfl, rfl, by decide, iX12, tyX12_ok, nmX12, bw_in (lwt_6 (List.mem_of_getElem? (i := 158) rfl)) rfl, rfl, rfl⟩
theorem gf_RX12_16 : GF RX12 16 12 2 true := ⟨by decide, RX12, TX12, 41, rfl, rfl, by decide, iX12, tyX12_ok, nmX12, bw_in (lwt_6 (List.mem_of_getElem? (i := 159) rfl)) rfl, rfl, rfl⟩
theorem gf_RX12_19 : GF RX12 19 12 3 true := ⟨by decide, RX12, TX12, 41, rfl, rfl, by decide, iX12, tyX12_ok, nmX12, bw_in (lwt_6 (List.mem_of_getElem? (i := 160) rfl)) rfl, rfl, rfl⟩
theorem gf_RX12_100 : GF RX12 100 12 4 false := ⟨by decide, RX12, TX12, 41, rfl, rfl, by decide, iX12, tyX12_ok, nmX12, bw_in (lwt_6 (List.mem_of_getElem? (i := 161) rfl)) rfl, rfl, rfl⟩
theorem gf_RX12_22 : GF RX12 22 12 5 false := ⟨by decide, RX12, TX12, 41, rfl, rfl, by decide, iX12, tyX12_ok, nmX12, bw_in (lwt_6 (List.mem_of_getElem? (i := 162) rfl)) rfl, rfl, rfl⟩
theorem gf_RX12_26 : GF RX12 26 12 6 false := ⟨by decide, RX12, TX12, 41, rfl, rfl, by decide, iX12, tyX12_ok, nmX12, bw_in (lwt_6 (List.mem_of_getElem? (i := 163) rfl)) rfl, rfl, rfl⟩
theorem gf_RX12_106 : GF RX12 106 12 7 false := ⟨by decide, RX12, TX12, 41, rfl, rfl, by decide, iX12, tyX12_ok, nmX12, bw_in (lwt_6 (List.mem_of_getElem? (i := 164) rfl)) rfl, rfl, rfl⟩
theorem gf_RX12_112 : GF RX12 112 12 8 false := ⟨by decide, RX12, TX12, 41, rfl, rfl, by decide, iX12, tyX12_ok, nmX12, bw_in (lwt_6 (List.mem_of_getElem? (i := 165) rfl)) rfl, rfl, rfl⟩
theorem gf_RX12_115 : GF RX12 115 12 9 false := ⟨by decide, RX12, TX12, 41, rfl, rfl, by decide, iX12, tyX12_ok, nmX12, bw_in (lwt_6 (List.mem_of_getElem? (i := 166) rfl)) rfl, rfl, rfl⟩
theorem gf_RX12_121 : GF RX12 121 12 10 false := ⟨by decide, RX12, TX12, 41, rfl, rfl, by decide, iX12, tyX12_ok, nmX12, bw_in (lwt_6 (List.mem_of_getElem? (i := 167) rfl)) rfl, rfl, rfl⟩
theorem gf_RX12_128 : GF RX12 128 12 11 false := ⟨by decide, RX12, TX12, 41, rfl, rfl, by decide, iX12, tyX12_ok, nmX12, bw_in (lwt_6 (List.mem_of_getElem? (i := 168) rfl)) rfl, rfl, rfl⟩
theorem gf_RX12_153 : GF RX12 153 12 12 false := ⟨by decide, RX12, TX12, 41, rfl, rfl, by decide, iX12, tyX12_ok, nmX12, bw_in (lwt_6 (List.mem_of_getElem? (i := 169) rfl)) rfl, rfl, rfl⟩
theorem gf_RX12_156 : GF RX12 156 12 13 false := ⟨by decide, RX12, TX12, 41, rfl, rfl, by decide, iX12, tyX12_ok, nmX12, bw_in (lwt_6 (List.mem_of_getElem? (i := 170) rfl)) rfl, rfl, rfl⟩
theorem gf_RX12_163 : GF RX12 163 12 14 false := ⟨by decide, RX12, TX12, 41, rfl, rfl, by decide, iX12, tyX12_ok, nmX12, bw_in (lwt_6 (List.mem_of_getElem? (i := 171) rfl)) rfl, rfl, rfl⟩
theorem gf_RX12_29 : GF RX12 29 12 15 true := ⟨by decide, RX12, TX12, 41, rfl, rfl, by decide, iX12, tyX12_ok, nmX12, bw_in (lwt_6 (List.mem_of_getElem? (i := 172) rfl)) rfl, rfl, rfl⟩
theorem gf_RX12_166 : GF RX12 166 12 16 false := ⟨by decide, RX12, TX12, 41, rfl, rfl, by decide, iX12, tyX12_ok, nmX12, bw_in (lwt_6 (List.mem_of_getElem? (i := 173) rfl)) rfl, rfl, rfl⟩
theorem gf_RX12_176 : GF RX12 176 12 17 false := ⟨by decide, RX12, TX12, 41, rfl, rfl, by decide, iX12, tyX12_ok, nmX12, bw_in (lwt_6 (List.mem_of_getElem? (i := 174) rfl)) rfl, rfl, rfl⟩
theorem gf_RX12_212 : GF RX12 212 12 18 false := ⟨by decide, RX12, TX12, 41, rfl, rfl, by decide, iX12, tyX12_ok, nmX12, bw_in (lwt_6 (List.mem_of_getElem? (i := 175) rfl)) rfl, rfl, rfl⟩
theorem gf_RX12_256 : GF RX12 256 12 19 false := ⟨by decide, RX12, TX12, 41, rfl, rfl, by decide, iX12, tyX12_ok, nmX12, bw_in (lwt_6 (List.mem_of_getElem? (i := 176) rfl)) rfl, rfl, rfl⟩
theorem gf_RX12_32 : GF RX12 32 12 20 true := ⟨by decide, RX12, TX12, 41, rfl, rfl, by decide, iX12, tyX12_ok, nmX12, bw_in (lwt_6 (List.mem_of_getElem? (i := 177) rfl)) rfl, rfl, rfl⟩
theorem gf_RX12_35 : GF RX12 35 12 21 true := ⟨by decide, RX12, TX12, 41, rfl, rfl, by decide, iX12, tyX12_ok, nmX12, bw_in (lwt_6 (List.mem_of_getElem? (i := 178) rfl)) rfl, rfl, rfl⟩
theorem gf_RX12_39 : GF RX12 39 12 22 true := ⟨by decide, RX12, TX12, 41, rfl, rfl, by decide, iX12, tyX12_ok, nmX12, bw_in (lwt_6 (List.mem_of_getElem? (i := 179) rfl)) rfl, rfl, rfl⟩
theorem gf_RX12_43 : GF RX12 43 12 23 false := ⟨by decide, RX12, TX12, 41, rfl, rfl, by decide, iX12, tyX12_ok, nmX12, bw_in (lwt_6 (List.mem_of_getElem? (i := 180) rfl)) rfl, rfl, rfl⟩
theorem gf_RX12_357 : GF RX12 357 12 24 false := ⟨by decide, RX12, TX12, 41, rfl, rfl, by decide, iX12, tyX12_ok, nmX12, bw_in (lwt_6 (List.mem_of_getElem? (i := 181) rfl)) rfl, rfl, rfl⟩
theorem gf_RX12_47 : GF RX12 47 12 25 true := ⟨by decide, RX12, TX12, 41, rfl, rfl, by decide, iX12, tyX12_ok, nmX12, bw_in (lwt_6 (List.mem_of_getElem? (i := 182) rfl)) rfl, rfl, rfl⟩
theorem gf_RX12_50 : GF RX12 50 12 26 true := ⟨by decide, RX12, TX12, 41, rfl, rfl, by decide, iX12, tyX12_ok, nmX12, bw_in (lwt_6 (List.mem_of_getElem? (i := 183) rfl)) rfl, rfl, rfl⟩
theorem gf_RX12_53 : GF RX12 53 12 27 true := ⟨by decide, RX12, TX12, 41, rfl, rfl, by decide, iX12, tyX12_ok, nmX12, bw_in (lwt_6 (List.mem_of_getElem? (i := 184) rfl)) rfl, rfl, rfl⟩
theorem gf_RX12_56 : GF RX12 56 12 28 true := ⟨by decide, RX12, TX12, 41, rfl, rfl, by decide, iX12, tyX12_ok, nmX12, bw_in (lwt_6 (List.mem_of_getElem? (i := 185) rfl)) rfl, rfl, rfl⟩
theorem gf_RX12_59 : GF RX12 59 12 29 true := ⟨by decide, RX12, TX12, 41, rfl, rfl, by decide, iX12, tyX12_ok, nmX12, bw_in (lwt_6 (List.mem_of_getElem? (i := 186) rfl)) rfl, rfl, rfl⟩
theorem gf_RX12_439 : GF RX12 439 12 30 false := ⟨by decide, RX12, TX12, 41, rfl, rfl, by decide, iX12, tyX12_ok, nmX12, bw_in (lwt_6 (List.mem_of_getElem? (i := 187) rfl)) rfl, rfl, rfl⟩
theorem gf_RX12_445 : GF RX12 445 12 31 false := ⟨by decide, RX12, TX12, 41, rfl, rfl, by decide, iX12, tyX12_ok, nmX12, bw_in (lwt_6 (List.mem_of_getElem? (i := 188) rfl)) rfl, rfl, rfl⟩
theorem gf_RX12_455 : GF RX12 455 12 32 false := ⟨by decide, RX12, TX12, 41, rfl, rfl, by decide, iX12, tyX12_ok, nmX12, bw_in (lwt_6 (List.mem_of_getElem? (i := 189) rfl)) rfl, rfl, rfl⟩
theorem gf_RX12_62 : GF RX12 62 12 33 true := ⟨by decide, RX12, TX12, 41, rfl, rfl, by decide, iX12, tyX12_ok, nmX12, bw_in (lwt_6 (List.mem_of_getElem? (i := 190) rfl)) rfl, rfl, rfl⟩
theorem gf_RX12_65 : GF RX12 65 12 34 true := ⟨by decide, RX12, TX12, 41, rfl, rfl, by decide, iX12, tyX12_ok, nmX12, bw_in (lwt_6 (List.mem_of_getElem? (i := 191) rfl)) rfl, rfl, rfl⟩
theorem gf_RX12_68 : GF RX12 68 12 35 true := ⟨by decide, RX12, TX12, 41, rfl, rfl, by decide, iX12, tyX12_ok, nmX12, bw_in (lwt_6 (List.mem_of_getElem? (i := 192) rfl)) rfl, rfl, rfl⟩
theorem gf_RX12_467 : GF RX12 467 12 36 false := ⟨by decide, RX12, TX12, 41, rfl, rfl, by decide, iX12, tyX12_ok, nmX12, bw_in (lwt_6 (List.mem_of_getElem? (i := 193) rfl)) rfl, rfl, rfl⟩
theorem gf_RX12_71 : GF RX12 71 12 37 true := ⟨by decide, RX12, TX12, 41, rfl, rfl, by decide, iX12, tyX12_ok, nmX12, bw_in (lwt_6 (List.mem_of_getElem? (i := 194) rfl)) rfl, rfl, rfl⟩
theorem gf_RX12_74 : GF RX12 74 12 38 true := ⟨by decide, RX12, TX12, 41, rfl, rfl, by decide, iX12, tyX12_ok, nmX12, bw_in (lwt_6 (List.mem_of_getElem? (i := 195) rfl)) rfl, rfl, rfl⟩
theorem gf_RX12_479 : GF RX12 479 12 39 false := ⟨by decide, RX12, TX12, 41, rfl, rfl, by decide, iX12, tyX12_ok, nmX12, bw_in (lwt_6 (List.mem_of_getElem? (i := 196) rfl)) rfl, rfl, rfl⟩
theorem gf_RX12_482 : GF RX12 482 12 40 false := ⟨by decide, RX12, TX12, 41, rfl, rfl, by decide, iX12, tyX12_ok, nmX12, bw_in (lwt_6 (List.mem_of_getElem? (i := 197) rfl)) rfl, rfl, rfl⟩
theorem md_X11_init : MDf mX11_init 0 := ⟨bw_in (lwt_1 (List.mem_of_getElem? (i := 1) rfl)) rfl, bw_in (lwt_1 (List.mem_of_getElem? (i := 27) rfl)) rfl, by decide, by decide +kernel⟩
theorem cv_RL_9 : CIf RL 9 mX11_init 0 := ⟨md_X11_init, bw_in (lwt_1 (List.mem_of_getElem? (i := 25) rfl)) rfl, bw_in (lwt_1 (List.mem_of_getElem? (i := 26) rfl)) rfl, rfl, rfl⟩
theorem md_X10_init : MDf mX10_init 0 := ⟨bw_in (lwt_1 (List.mem_of_getElem? (i := 2) rfl)) rfl, bw_in (lwt_1 (List.mem_of_getElem? (i := 35) rfl)) rfl, by decide, by decide +kernel⟩
