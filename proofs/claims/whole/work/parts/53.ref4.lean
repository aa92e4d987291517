section Ref4
variable {n mc ms : Nat} {M : Md} {pc : Nat} {lv : List (Nat × Value)} {st : List Value} {k j : Nat} {Post : PT} {S : Sh} {I : CI} {R : CR} {A : Nat → Int} {tx : Nat → Nat → Int}
/-- a line in the book, if one is to be written -/
def wrB (z : Int) (A : Nat → Int) (q w : Int) : Nat → Int := if z = 1 then wrA A q w else A
theorem dX12_write_0 : decode prog_14_method_76_code 0 = .ok (.aload_n 0, 1) := by decide +kernel
theorem dX12_write_1 : decode prog_14_method_76_code 1 = .ok (.getfield 43, 3) := by decide +kernel
theorem dX12_write_4 : decode prog_14_method_76_code 4 = .ok (.ifCond .ne 4, 3) := by decide +kernel
theorem dX12_write_7 : decode prog_14_method_76_code 7 = .ok (.return_, 1) := by decide +kernel
theorem dX12_write_8 : decode prog_14_method_76_code 8 = .ok (.aload_n 0, 1) := by decide +kernel
theorem dX12_write_9 : decode prog_14_method_76_code 9 = .ok (.getfield 7, 3) := by decide +kernel
theorem dX12_write_12 : decode prog_14_method_76_code 12 = .ok (.bipush 11, 2) := by decide +kernel
theorem dX12_write_14 : decode prog_14_method_76_code 14 = .ok (.iaload, 1) := by decide +kernel
theorem dX12_write_15 : decode prog_14_method_76_code 15 = .ok (.bipush 30, 2) := by decide +kernel
theorem dX12_write_17 : decode prog_14_method_76_code 17 = .ok (.if_icmp .ne 72, 3) := by decide +kernel
theorem dX12_write_20 : decode prog_14_method_76_code 20 = .ok (.iconst 1, 1) := by decide +kernel
theorem dX12_write_21 : decode prog_14_method_76_code 21 = .ok (.istore_n 3, 1) := by decide +kernel
theorem dX12_write_22 : decode prog_14_method_76_code 22 = .ok (.iload_n 3, 1) := by decide +kernel
theorem dX12_write_23 : decode prog_14_method_76_code 23 = .ok (.bipush 30, 2) := by decide +kernel
theorem dX12_write_25 : decode prog_14_method_76_code 25 = .ok (.if_icmp .ge 53, 3) := by decide +kernel
theorem dX12_write_28 : decode prog_14_method_76_code 28 = .ok (.aload_n 0, 1) := by decide +kernel
theorem dX12_write_29 : decode prog_14_method_76_code 29 = .ok (.getfield 7, 3) := by decide +kernel
theorem dX12_write_32 : decode prog_14_method_76_code 32 = .ok (.sipush 2815, 3) := by decide +kernel
theorem dX12_write_35 : decode prog_14_method_76_code 35 = .ok (.iload_n 3, 1) := by decide +kernel
theorem dX12_write_36 : decode prog_14_method_76_code 36 = .ok (.iadd, 1) := by decide +kernel
theorem dX12_write_37 : decode prog_14_method_76_code 37 = .ok (.iconst 1, 1) := by decide +kernel
theorem dX12_write_38 : decode prog_14_method_76_code 38 = .ok (.isub, 1) := by decide +kernel
theorem dX12_write_39 : decode prog_14_method_76_code 39 = .ok (.aload_n 0, 1) := by decide +kernel
theorem dX12_write_40 : decode prog_14_method_76_code 40 = .ok (.getfield 7, 3) := by decide +kernel
theorem dX12_write_43 : decode prog_14_method_76_code 43 = .ok (.sipush 2815, 3) := by decide +kernel
theorem dX12_write_46 : decode prog_14_method_76_code 46 = .ok (.iload_n 3, 1) := by decide +kernel
theorem dX12_write_47 : decode prog_14_method_76_code 47 = .ok (.iadd, 1) := by decide +kernel
theorem dX12_write_48 : decode prog_14_method_76_code 48 = .ok (.iaload, 1) := by decide +kernel
theorem dX12_write_49 : decode prog_14_method_76_code 49 = .ok (.iastore, 1) := by decide +kernel
theorem dX12_write_50 : decode prog_14_method_76_code 50 = .ok (.aload_n 0, 1) := by decide +kernel
theorem dX12_write_51 : decode prog_14_method_76_code 51 = .ok (.getfield 7, 3) := by decide +kernel
theorem dX12_write_54 : decode prog_14_method_76_code 54 = .ok (.sipush 2845, 3) := by decide +kernel
theorem dX12_write_57 : decode prog_14_method_76_code 57 = .ok (.iload_n 3, 1) := by decide +kernel
theorem dX12_write_58 : decode prog_14_method_76_code 58 = .ok (.iadd, 1) := by decide +kernel
theorem dX12_write_59 : decode prog_14_method_76_code 59 = .ok (.iconst 1, 1) := by decide +kernel
theorem dX12_write_60 : decode prog_14_method_76_code 60 = .ok (.isub, 1) := by decide +kernel
theorem dX12_write_61 : decode prog_14_method_76_code 61 = .ok (.aload_n 0, 1) := by decide +kernel
theorem dX12_write_62 : decode prog_14_method_76_code 62 = .ok (.getfield 7, 3) := by decide +kernel
theorem dX12_write_65 : decode prog_14_method_76_code 65 = .ok (.sipush 2845, 3) := by decide +kernel
theorem dX12_write_68 : decode prog_14_method_76_code 68 = .ok (.iload_n 3, 1) := by decide +kernel
theorem dX12_write_69 : decode prog_14_method_76_code 69 = .ok (.iadd, 1) := by decide +kernel
theorem dX12_write_70 : decode prog_14_method_76_code 70 = .ok (.iaload, 1) := by decide +kernel
theorem dX12_write_71 : decode prog_14_method_76_code 71 = .ok (.iastore, 1) := by decide +kernel
theorem dX12_write_72 : decode prog_14_method_76_code 72 = .ok (.iinc 3 1, 3) := by decide +kernel
theorem dX12_write_75 : decode prog_14_method_76_code 75 = .ok (.goto (-53), 3) := by decide +kernel
theorem dX12_write_78 : decode prog_14_method_76_code 78 = .ok (.aload_n 0, 1) := by decide +kernel
theorem dX12_write_79 : decode prog_14_method_76_code 79 = .ok (.getfield 7, 3) := by decide +kernel
theorem dX12_write_82 : decode prog_14_method_76_code 82 = .ok (.bipush 11, 2) := by decide +kernel
theorem dX12_write_84 : decode prog_14_method_76_code 84 = .ok (.dup2, 1) := by decide +kernel
theorem dX12_write_85 : decode prog_14_method_76_code 85 = .ok (.iaload, 1) := by decide +kernel
theorem dX12_write_86 : decode prog_14_method_76_code 86 = .ok (.iconst 1, 1) := by decide +kernel
theorem dX12_write_87 : decode prog_14_method_76_code 87 = .ok (.isub, 1) := by decide +kernel
theorem dX12_write_88 : decode prog_14_method_76_code 88 = .ok (.iastore, 1) := by decide +kernel
theorem dX12_write_89 : decode prog_14_method_76_code 89 = .ok (.aload_n 0, 1) := by decide +kernel
theorem dX12_write_90 : decode prog_14_method_76_code 90 = .ok (.getfield 7, 3) := by decide +kernel
theorem dX12_write_93 : decode prog_14_method_76_code 93 = .ok (.sipush 2815, 3) := by decide +kernel
theorem dX12_write_96 : decode prog_14_method_76_code 96 = .ok (.aload_n 0, 1) := by decide +kernel
theorem dX12_write_97 : decode prog_14_method_76_code 97 = .ok (.getfield 7, 3) := by decide +kernel
theorem dX12_write_100 : decode prog_14_method_76_code 100 = .ok (.bipush 11, 2) := by decide +kernel
theorem dX12_write_102 : decode prog_14_method_76_code 102 = .ok (.iaload, 1) := by decide +kernel
theorem dX12_write_103 : decode prog_14_method_76_code 103 = .ok (.iadd, 1) := by decide +kernel
theorem dX12_write_104 : decode prog_14_method_76_code 104 = .ok (.aload_n 0, 1) := by decide +kernel
theorem dX12_write_105 : decode prog_14_method_76_code 105 = .ok (.getfield 7, 3) := by decide +kernel
theorem dX12_write_108 : decode prog_14_method_76_code 108 = .ok (.bipush 7, 2) := by decide +kernel
theorem dX12_write_110 : decode prog_14_method_76_code 110 = .ok (.iaload, 1) := by decide +kernel
theorem dX12_write_111 : decode prog_14_method_76_code 111 = .ok (.bipush 8, 2) := by decide +kernel
theorem dX12_write_113 : decode prog_14_method_76_code 113 = .ok (.imul, 1) := by decide +kernel
theorem dX12_write_114 : decode prog_14_method_76_code 114 = .ok (.iload_n 1, 1) := by decide +kernel
theorem dX12_write_115 : decode prog_14_method_76_code 115 = .ok (.iadd, 1) := by decide +kernel
theorem dX12_write_116 : decode prog_14_method_76_code 116 = .ok (.iconst 3, 1) := by decide +kernel
theorem dX12_write_117 : decode prog_14_method_76_code 117 = .ok (.imul, 1) := by decide +kernel
theorem dX12_write_118 : decode prog_14_method_76_code 118 = .ok (.iload_n 2, 1) := by decide +kernel
theorem dX12_write_119 : decode prog_14_method_76_code 119 = .ok (.iadd, 1) := by decide +kernel
theorem dX12_write_120 : decode prog_14_method_76_code 120 = .ok (.iastore, 1) := by decide +kernel
theorem dX12_write_121 : decode prog_14_method_76_code 121 = .ok (.aload_n 0, 1) := by decide +kernel
theorem dX12_write_122 : decode prog_14_method_76_code 122 = .ok (.getfield 7, 3) := by decide +kernel
theorem dX12_write_125 : decode prog_14_method_76_code 125 = .ok (.sipush 2845, 3) := by decide +kernel
theorem dX12_write_128 : decode prog_14_method_76_code 128 = .ok (.aload_n 0, 1) := by decide +kernel
theorem dX12_write_129 : decode prog_14_method_76_code 129 = .ok (.getfield 7, 3) := by decide +kernel
theorem dX12_write_132 : decode prog_14_method_76_code 132 = .ok (.bipush 11, 2) := by decide +kernel
theorem dX12_write_134 : decode prog_14_method_76_code 134 = .ok (.iaload, 1) := by decide +kernel
theorem dX12_write_135 : decode prog_14_method_76_code 135 = .ok (.iadd, 1) := by decide +kernel
theorem dX12_write_136 : decode prog_14_method_76_code 136 = .ok (.aload_n 0, 1) := by decide +kernel
theorem dX12_write_137 : decode prog_14_method_76_code 137 = .ok (.getfield 7, 3) := by decide +kernel
theorem dX12_write_140 : decode prog_14_method_76_code 140 = .ok (.bipush 9, 2) := by decide +kernel
theorem dX12_write_142 : decode prog_14_method_76_code 142 = .ok (.iaload, 1) := by decide +kernel
theorem dX12_write_143 : decode prog_14_method_76_code 143 = .ok (.iastore, 1) := by decide +kernel
theorem dX12_write_144 : decode prog_14_method_76_code 144 = .ok (.aload_n 0, 1) := by decide +kernel
theorem dX12_write_145 : decode prog_14_method_76_code 145 = .ok (.getfield 7, 3) := by decide +kernel
theorem dX12_write_148 : decode prog_14_method_76_code 148 = .ok (.bipush 11, 2) := by decide +kernel
theorem dX12_write_150 : decode prog_14_method_76_code 150 = .ok (.dup2, 1) := by decide +kernel
theorem dX12_write_151 : decode prog_14_method_76_code 151 = .ok (.iaload, 1) := by decide +kernel
theorem dX12_write_152 : decode prog_14_method_76_code 152 = .ok (.iconst 1, 1) := by decide +kernel
theorem dX12_write_153 : decode prog_14_method_76_code 153 = .ok (.iadd, 1) := by decide +kernel
theorem dX12_write_154 : decode prog_14_method_76_code 154 = .ok (.iastore, 1) := by decide +kernel
theorem dX12_write_155 : decode prog_14_method_76_code 155 = .ok (.return_, 1) := by decide +kernel
theorem sp_X12_write {q w : Int} (cs : CS S R) (hA : I 307 = A) (h11 : 0 ≤ A 11 ∧ A 11 < 30) (hz : I 306 23 = 0 ∨ I 306 23 = 1) (hp : ∀ I', I' 307 = wrB (I 306 23) A q w → F7 I I' → Post none S I' R) : Call n 0 0 mX12_write [.ref (S.2.1 306), .int (iI q), .int (iI w)] S I R Post := by
  unfold wrB at hp
  refine Call.of (by decide +kernel) (Nat.le_of_ble_eq_true rfl) ?_
  show WP _ _ _ _ _ 0 [(0, _), (1, _), (2, _)] [] 0 0 _ _ _
  refine x_aload_n dX12_write_0 rfl ?_
  refine x_getI dX12_write_1 gf_RX12_43 (k_ob_306 cs) (fun _ _ => rfl) ?_
  refine x_if_ne 8 dX12_write_4 (by decide) (by omega) (fun w4 => ?_) (fun w4 => ?_)
  · refine x_aload_n dX12_write_8 rfl ?_
    refine x_getR (b := 307) dX12_write_9 gf_RX12_7 (k_ob_306 cs) (fun _ _ => rfl) (k_r_306_0 cs) ?_
    refine x_bipush dX12_write_12 (by decide) ?_
    refine x_ald7 (kk := 11) (v := A 11) dX12_write_14 cs (by omega) (by omega) (by rw [hA]; repeat (first | rfl | rw [upA_s] | rw [upA_o (by omega)])) ?_
    refine x_bipush dX12_write_15 (by decide) ?_
    refine x_icmp_ne 89 dX12_write_17 (by decide) ⟨(by omega), (by omega)⟩ (fun w17 => ?_) (fun w17 => ?_)
    · refine x_aload_n dX12_write_89 rfl ?_
      refine x_getR (b := 307) dX12_write_90 gf_RX12_7 (k_ob_306 cs) (fun _ _ => rfl) (k_r_306_0 cs) ?_
      refine x_sipush dX12_write_93 (by decide) ?_
      refine x_aload_n dX12_write_96 rfl ?_
      refine x_getR (b := 307) dX12_write_97 gf_RX12_7 (k_ob_306 cs) (fun _ _ => rfl) (k_r_306_0 cs) ?_
      refine x_bipush dX12_write_100 (by decide) ?_
      refine x_ald7 (kk := 11) (v := A 11) dX12_write_102 cs (by omega) (by omega) (by rw [hA]; repeat (first | rfl | rw [upA_s] | rw [upA_o (by omega)])) ?_
      refine x_iadd dX12_write_103 ?_
      refine x_aload_n dX12_write_104 rfl ?_
      refine x_getR (b := 307) dX12_write_105 gf_RX12_7 (k_ob_306 cs) (fun _ _ => rfl) (k_r_306_0 cs) ?_
      refine x_bipush dX12_write_108 (by decide) ?_
      refine x_ald7 (kk := 7) (v := A 7) dX12_write_110 cs (by omega) (by omega) (by rw [hA]; repeat (first | rfl | rw [upA_s] | rw [upA_o (by omega)])) ?_
      refine x_bipush dX12_write_111 (by decide) ?_
      refine x_imul dX12_write_113 ?_
      refine x_iload_n dX12_write_114 rfl ?_
      refine x_iadd dX12_write_115 ?_
      refine x_iconst dX12_write_116 ?_
      refine x_imul dX12_write_117 ?_
      refine x_iload_n dX12_write_118 rfl ?_
      refine x_iadd dX12_write_119 ?_
      refine x_ast7 (kk := 2815 + (A 11).toNat) dX12_write_120 cs (by omega) (by omega) hA (fun J120 a120 f120 => ?_)
      refine x_aload_n dX12_write_121 rfl ?_
      refine x_getR (b := 307) dX12_write_122 gf_RX12_7 (k_ob_306 cs) (fun _ _ => rfl) (k_r_306_0 cs) ?_
      refine x_sipush dX12_write_125 (by decide) ?_
      refine x_aload_n dX12_write_128 rfl ?_
      refine x_getR (b := 307) dX12_write_129 gf_RX12_7 (k_ob_306 cs) (fun _ _ => rfl) (k_r_306_0 cs) ?_
      refine x_bipush dX12_write_132 (by decide) ?_
      refine x_ald7 (kk := 11) (v := A 11) dX12_write_134 cs (by omega) (by omega) (by rw [a120]; repeat (first | rfl | rw [upA_s] | rw [upA_o (by omega)])) ?_
      refine x_iadd dX12_write_135 ?_
      refine x_aload_n dX12_write_136 rfl ?_
      refine x_getR (b := 307) dX12_write_137 gf_RX12_7 (k_ob_306 cs) (fun _ _ => rfl) (k_r_306_0 cs) ?_
      refine x_bipush dX12_write_140 (by decide) ?_
      refine x_ald7 (kk := 9) (v := A 9) dX12_write_142 cs (by omega) (by omega) (by rw [a120]; repeat (first | rfl | rw [upA_s] | rw [upA_o (by omega)])) ?_
      refine x_ast7 (kk := 2845 + (A 11).toNat) dX12_write_143 cs (by omega) (by omega) a120 (fun J143 a143 f143 => ?_)
      refine x_aload_n dX12_write_144 rfl ?_
      refine x_getR (b := 307) dX12_write_145 gf_RX12_7 (k_ob_306 cs) (fun _ _ => rfl) (k_r_306_0 cs) ?_
      refine x_bipush dX12_write_148 (by decide) ?_
      refine x_dup2 dX12_write_150 rfl rfl ?_
      refine x_ald7 (kk := 11) (v := A 11) dX12_write_151 cs (by omega) (by omega) (by rw [a143]; repeat (first | rfl | rw [upA_s] | rw [upA_o (by omega)])) ?_
      refine x_iconst dX12_write_152 ?_
      refine x_iadd dX12_write_153 ?_
      refine x_ast7 (kk := 11) dX12_write_154 cs (by omega) (by omega) a143 (fun J154 a154 f154 => ?_)
      exact x_return dX12_write_155 rfl (by omega) (by omega) (by first | (rw [if_neg (by omega)] at hp; exact hp _ a154 (((F7.rf.tr f120).tr f143).tr f154)) | (rw [if_pos (by omega)] at hp; exact hp _ a154 (((F7.rf.tr f120).tr f143).tr f154)))
    · exfalso; omega
  · exact x_return dX12_write_7 rfl (by omega) (by omega) (by first | (rw [if_neg (by omega)] at hp; exact hp _ hA F7.rf) | (rw [if_pos (by omega)] at hp; exact hp _ hA F7.rf))
theorem dX12_anew_0 : decode prog_14_method_78_code 0 = .ok (.aload_n 0, 1) := by decide +kernel
theorem dX12_anew_1 : decode prog_14_method_78_code 1 = .ok (.getfield 7, 3) := by decide +kernel
theorem dX12_anew_4 : decode prog_14_method_78_code 4 = .ok (.bipush 8, 2) := by decide +kernel
theorem dX12_anew_6 : decode prog_14_method_78_code 6 = .ok (.aload_n 0, 1) := by decide +kernel
theorem dX12_anew_7 : decode prog_14_method_78_code 7 = .ok (.getfield 7, 3) := by decide +kernel
theorem dX12_anew_10 : decode prog_14_method_78_code 10 = .ok (.bipush 8, 2) := by decide +kernel
theorem dX12_anew_12 : decode prog_14_method_78_code 12 = .ok (.iaload, 1) := by decide +kernel
theorem dX12_anew_13 : decode prog_14_method_78_code 13 = .ok (.i2l, 1) := by decide +kernel
theorem dX12_anew_14 : decode prog_14_method_78_code 14 = .ok (.ldc2_w 336, 3) := by decide +kernel
theorem dX12_anew_17 : decode prog_14_method_78_code 17 = .ok (.lmul, 1) := by decide +kernel
theorem dX12_anew_18 : decode prog_14_method_78_code 18 = .ok (.ldc2_w 338, 3) := by decide +kernel
theorem dX12_anew_21 : decode prog_14_method_78_code 21 = .ok (.ladd, 1) := by decide +kernel
theorem dX12_anew_22 : decode prog_14_method_78_code 22 = .ok (.ldc2_w 340, 3) := by decide +kernel
theorem dX12_anew_25 : decode prog_14_method_78_code 25 = .ok (.lrem, 1) := by decide +kernel
theorem dX12_anew_26 : decode prog_14_method_78_code 26 = .ok (.l2i, 1) := by decide +kernel
theorem dX12_anew_27 : decode prog_14_method_78_code 27 = .ok (.iastore, 1) := by decide +kernel
theorem dX12_anew_28 : decode prog_14_method_78_code 28 = .ok (.return_, 1) := by decide +kernel
theorem sp_X12_anew  (cs : CS S R) (hA : I 307 = A) (h8 : 0 ≤ A 8 ∧ A 8 ≤ 30870) (hp : ∀ I', I' 307 = upA A 8 (anx (A 8)) → F7 I I' → Post none S I' R) : Call n 0 0 mX12_anew [.ref (S.2.1 306)] S I R Post := by
  refine Call.of (by decide +kernel) (Nat.le_of_ble_eq_true rfl) ?_
  show WP _ _ _ _ _ 0 [(0, _)] [] 0 0 _ _ _
  refine x_aload_n dX12_anew_0 rfl ?_
  refine x_getR (b := 307) dX12_anew_1 gf_RX12_7 (k_ob_306 cs) (fun _ _ => rfl) (k_r_306_0 cs) ?_
  refine x_bipush dX12_anew_4 (by decide) ?_
  refine x_aload_n dX12_anew_6 rfl ?_
  refine x_getR (b := 307) dX12_anew_7 gf_RX12_7 (k_ob_306 cs) (fun _ _ => rfl) (k_r_306_0 cs) ?_
  refine x_bipush dX12_anew_10 (by decide) ?_
  refine x_ald7 (kk := 8) (v := A 8) dX12_anew_12 cs (by omega) (by omega) (by rw [hA]; repeat (first | rfl | rw [upA_s] | rw [upA_o (by omega)])) ?_
  refine x_i2l dX12_anew_13 (by unfold Rg; omega) ?_
  refine x_ldc2 (z := 619) dX12_anew_14 (bw_in (lwt_8 (List.mem_of_getElem? (i := 121) (by decide +kernel))) (by decide +kernel)) ?_
  refine x_lmul dX12_anew_17 ?_
  refine x_ldc2 (z := 493) dX12_anew_18 (bw_in (lwt_8 (List.mem_of_getElem? (i := 122) (by decide +kernel))) (by decide +kernel)) ?_
  refine x_ladd dX12_anew_21 ?_
  refine x_ldc2 (z := 30871) dX12_anew_22 (bw_in (lwt_8 (List.mem_of_getElem? (i := 123) (by decide +kernel))) (by decide +kernel)) ?_
  refine x_lrem dX12_anew_25 (by unfold Rl; omega) ?_
  refine x_l2i dX12_anew_26 ?_
  refine x_ast7 (kk := 8) dX12_anew_27 cs (by omega) (by omega) hA (fun J27 a27 f27 => ?_)
  exact x_return dX12_anew_28 rfl (by omega) (by omega) (hp _ a27 (F7.rf.tr f27))
theorem dX12_drawnBy_0 : decode prog_14_method_77_code 0 = .ok (.aload_n 0, 1) := by decide +kernel
theorem dX12_drawnBy_1 : decode prog_14_method_77_code 1 = .ok (.getfield 7, 3) := by decide +kernel
theorem dX12_drawnBy_4 : decode prog_14_method_77_code 4 = .ok (.bipush 8, 2) := by decide +kernel
theorem dX12_drawnBy_6 : decode prog_14_method_77_code 6 = .ok (.iaload, 1) := by decide +kernel
theorem dX12_drawnBy_7 : decode prog_14_method_77_code 7 = .ok (.iload_n 1, 1) := by decide +kernel
theorem dX12_drawnBy_8 : decode prog_14_method_77_code 8 = .ok (.irem, 1) := by decide +kernel
theorem dX12_drawnBy_9 : decode prog_14_method_77_code 9 = .ok (.istore_n 2, 1) := by decide +kernel
theorem dX12_drawnBy_10 : decode prog_14_method_77_code 10 = .ok (.aload_n 0, 1) := by decide +kernel
theorem dX12_drawnBy_11 : decode prog_14_method_77_code 11 = .ok (.invokevirtual 333, 3) := by decide +kernel
theorem dX12_drawnBy_14 : decode prog_14_method_77_code 14 = .ok (.iload_n 2, 1) := by decide +kernel
theorem dX12_drawnBy_15 : decode prog_14_method_77_code 15 = .ok (.ireturn, 1) := by decide +kernel
theorem sp_X12_drawnBy {z : Int} (cs : CS S R) (hA : I 307 = A) (h8 : 0 ≤ A 8 ∧ A 8 ≤ 30870) (hz : 0 < z ∧ z < 1000) (hn : 1 ≤ n) (hp : ∀ I', I' 307 = upA A 8 (anx (A 8)) → F7 I I' → Post (some (.int (iI (A 8 % z)))) S I' R) : Call n 0 0 mX12_drawnBy [.ref (S.2.1 306), .int (iI z)] S I R Post := by
  refine Call.of (by decide +kernel) (Nat.le_of_ble_eq_true rfl) ?_
  show WP _ _ _ _ _ 0 [(0, _), (1, _)] [] 0 0 _ _ _
  refine x_aload_n dX12_drawnBy_0 rfl ?_
  refine x_getR (b := 307) dX12_drawnBy_1 gf_RX12_7 (k_ob_306 cs) (fun _ _ => rfl) (k_r_306_0 cs) ?_
  refine x_bipush dX12_drawnBy_4 (by decide) ?_
  refine x_ald7 (kk := 8) (v := A 8) dX12_drawnBy_6 cs (by omega) (by omega) (by rw [hA]; repeat (first | rfl | rw [upA_s] | rw [upA_o (by omega)])) ?_
  refine x_iload_n dX12_drawnBy_7 rfl ?_
  refine x_irem dX12_drawnBy_8 (by omega) ?_
  refine x_istore_n (lv2 := [(2, _), (0, _), (1, _)]) dX12_drawnBy_9 (by decide) rfl ?_
  refine x_aload_n dX12_drawnBy_10 rfl ?_
  refine x_callV0 (mc1 := 0) (ms1 := 0) dX12_drawnBy_11 cv_RX12_333 (ci := 12) (k_ob_306 cs) rfl (Nat.le_of_ble_eq_true rfl) (n1 := n - 1) (by omega) (by omega) (by omega) ?_
  refine sp_X12_anew cs hA (by omega) (fun J11 a11 f11 => ?_)
  refine x_iload_n dX12_drawnBy_14 rfl ?_
  exact x_ireturn dX12_drawnBy_15 rfl (by omega) (by omega) (hp _ a11 (F7.rf.tr f11))
theorem dX12_canPawn_0 : decode prog_14_method_79_code 0 = .ok (.aload_n 0, 1) := by decide +kernel
theorem dX12_canPawn_1 : decode prog_14_method_79_code 1 = .ok (.iload_n 1, 1) := by decide +kernel
theorem dX12_canPawn_2 : decode prog_14_method_79_code 2 = .ok (.invokevirtual 342, 3) := by decide +kernel
theorem dX12_canPawn_5 : decode prog_14_method_79_code 5 = .ok (.ifCond .eq 15, 3) := by decide +kernel
theorem dX12_canPawn_8 : decode prog_14_method_79_code 8 = .ok (.aload_n 0, 1) := by decide +kernel
theorem dX12_canPawn_9 : decode prog_14_method_79_code 9 = .ok (.iload_n 1, 1) := by decide +kernel
theorem dX12_canPawn_10 : decode prog_14_method_79_code 10 = .ok (.invokevirtual 85, 3) := by decide +kernel
theorem dX12_canPawn_13 : decode prog_14_method_79_code 13 = .ok (.ifCond .ne 7, 3) := by decide +kernel
theorem dX12_canPawn_16 : decode prog_14_method_79_code 16 = .ok (.iconst 1, 1) := by decide +kernel
theorem dX12_canPawn_17 : decode prog_14_method_79_code 17 = .ok (.goto 4, 3) := by decide +kernel
theorem dX12_canPawn_20 : decode prog_14_method_79_code 20 = .ok (.iconst 0, 1) := by decide +kernel
theorem dX12_canPawn_21 : decode prog_14_method_79_code 21 = .ok (.ireturn, 1) := by decide +kernel
theorem sp_X12_canPawn {q : Int} (cs : CS S R) (hA : I 307 = A) (hb : BA A) (hq : Rg q) (hn : 2 ≤ n) (hp : ∀ r, (r = 1 ∧ (0 ≤ q ∧ q < A 0 ∧ A (12 + 3 * q.toNat) = 0) ∨ r = 0 ∧ ¬ (0 ≤ q ∧ q < A 0 ∧ A (12 + 3 * q.toNat) = 0)) → Post (some (.int (iI r))) S I R) : Call n 0 0 mX12_canPawn [.ref (S.2.1 306), .int (iI q)] S I R Post := by
  have b0 := hb.1.1
  have b1 := hb.2.1.1
  have b2 := hb.2.1.2.1
  have b3 := hb.2.1.2.2.1
  have b4 := hb.2.1.2.2.2.1
  have b5 := hb.2.1.2.2.2.2.1
  have b6 := hb.2.1.2.2.2.2.2.1
  have b114 := hb.2.1.2.2.2.2.2.2
  have b7 : 0 ≤ A 7 ∧ A 7 ≤ 9999 := hb.1.2.1
  have b8 : 0 ≤ A 8 ∧ A 8 ≤ 30870 := hb.1.2.2.1
  have b9 : 0 ≤ A 9 ∧ A 9 ≤ 9999 := hb.1.2.2.2.1
  have b10 : 0 ≤ A 10 ∧ A 10 ≤ 1 := hb.1.2.2.2.2.1
  have b11 := BA_11 hb
  refine Call.of (by decide +kernel) (Nat.le_of_ble_eq_true rfl) ?_
  show WP _ _ _ _ _ 0 [(0, _), (1, _)] [] 0 0 _ _ _
  refine x_aload_n dX12_canPawn_0 rfl ?_
  refine x_iload_n dX12_canPawn_1 rfl ?_
  refine x_callV1 (mc1 := 0) (ms1 := 0) dX12_canPawn_2 cv_RX12_342 (ci := 12) (k_ob_306 cs) rfl (Nat.le_of_ble_eq_true rfl) (n1 := n - 1) (by omega) (by omega) (by omega) ?_
  refine sp_X12_isQuarrel cs hA (by omega) (by omega) (by omega) (fun r2 hr2 => ?_)
  refine x_if_eq 20 dX12_canPawn_5 (by decide) (by omega) (fun w5 => ?_) (fun w5 => ?_)
  · refine x_iconst dX12_canPawn_20 ?_
    exact x_zreturn (by omega) dX12_canPawn_21 rfl (by omega) (by omega) (by first | exact hp 1 (Or.inl ⟨rfl, by omega⟩) | exact hp 0 (Or.inr ⟨rfl, by omega⟩))
  · refine x_aload_n dX12_canPawn_8 rfl ?_
    refine x_iload_n dX12_canPawn_9 rfl ?_
    refine x_callV1 (mc1 := 0) (ms1 := 0) dX12_canPawn_10 cv_RX12_85 (ci := 12) (k_ob_306 cs) rfl (Nat.le_of_ble_eq_true rfl) (n1 := n - 1) (by omega) (by omega) (by omega) ?_
    have hq2 := (hb.1.2.2.2.2.2.1 q.toNat (by omega)).1
    rw [show 6 + 6 + 3 * q.toNat = 12 + 3 * q.toNat by omega] at hq2
    refine sp_X12_howOf_z cs hA (by omega) ?_
    refine x_if_ne 20 dX12_canPawn_13 (by decide) (by omega) (fun w13 => ?_) (fun w13 => ?_)
    · refine x_iconst dX12_canPawn_20 ?_
      exact x_zreturn (by omega) dX12_canPawn_21 rfl (by omega) (by omega) (by first | exact hp 1 (Or.inl ⟨rfl, by omega⟩) | exact hp 0 (Or.inr ⟨rfl, by omega⟩))
    · refine x_iconst dX12_canPawn_16 ?_
      refine x_goto 21 dX12_canPawn_17 (by decide) ?_
      exact x_zreturn (by omega) dX12_canPawn_21 rfl (by omega) (by omega) (by first | exact hp 1 (Or.inl ⟨rfl, by omega⟩) | exact hp 0 (Or.inr ⟨rfl, by omega⟩))
theorem dX12_canEarn_0 : decode prog_14_method_83_code 0 = .ok (.iload_n 1, 1) := by decide +kernel
theorem dX12_canEarn_1 : decode prog_14_method_83_code 1 = .ok (.iconst 1, 1) := by decide +kernel
theorem dX12_canEarn_2 : decode prog_14_method_83_code 2 = .ok (.sipush 999, 3) := by decide +kernel
theorem dX12_canEarn_5 : decode prog_14_method_83_code 5 = .ok (.invokestatic 81, 3) := by decide +kernel
theorem dX12_canEarn_8 : decode prog_14_method_83_code 8 = .ok (.ifCond .eq 22, 3) := by decide +kernel
theorem dX12_canEarn_11 : decode prog_14_method_83_code 11 = .ok (.aload_n 0, 1) := by decide +kernel
theorem dX12_canEarn_12 : decode prog_14_method_83_code 12 = .ok (.getfield 7, 3) := by decide +kernel
theorem dX12_canEarn_15 : decode prog_14_method_83_code 15 = .ok (.bipush 9, 2) := by decide +kernel
theorem dX12_canEarn_17 : decode prog_14_method_83_code 17 = .ok (.iaload, 1) := by decide +kernel
theorem dX12_canEarn_18 : decode prog_14_method_83_code 18 = .ok (.iload_n 1, 1) := by decide +kernel
theorem dX12_canEarn_19 : decode prog_14_method_83_code 19 = .ok (.iadd, 1) := by decide +kernel
theorem dX12_canEarn_20 : decode prog_14_method_83_code 20 = .ok (.sipush 9999, 3) := by decide +kernel
theorem dX12_canEarn_23 : decode prog_14_method_83_code 23 = .ok (.if_icmp .gt 7, 3) := by decide +kernel
theorem dX12_canEarn_26 : decode prog_14_method_83_code 26 = .ok (.iconst 1, 1) := by decide +kernel
theorem dX12_canEarn_27 : decode prog_14_method_83_code 27 = .ok (.goto 4, 3) := by decide +kernel
theorem dX12_canEarn_30 : decode prog_14_method_83_code 30 = .ok (.iconst 0, 1) := by decide +kernel
theorem dX12_canEarn_31 : decode prog_14_method_83_code 31 = .ok (.ireturn, 1) := by decide +kernel
theorem sp_X12_canEarn {s : Int} (cs : CS S R) (hA : I 307 = A) (hb : BA A) (hs : Rg s) (hn : 1 ≤ n) (hp : ∀ r, (r = 1 ∧ (1 ≤ s ∧ s ≤ 999 ∧ A 9 + s ≤ 9999) ∨ r = 0 ∧ ¬ (1 ≤ s ∧ s ≤ 999 ∧ A 9 + s ≤ 9999)) → Post (some (.int (iI r))) S I R) : Call n 0 0 mX12_canEarn [.ref (S.2.1 306), .int (iI s)] S I R Post := by
  have b0 := hb.1.1
  have b1 := hb.2.1.1
  have b2 := hb.2.1.2.1
  have b3 := hb.2.1.2.2.1
  have b4 := hb.2.1.2.2.2.1
  have b5 := hb.2.1.2.2.2.2.1
  have b6 := hb.2.1.2.2.2.2.2.1
  have b114 := hb.2.1.2.2.2.2.2.2
  have b7 : 0 ≤ A 7 ∧ A 7 ≤ 9999 := hb.1.2.1
  have b8 : 0 ≤ A 8 ∧ A 8 ≤ 30870 := hb.1.2.2.1
  have b9 : 0 ≤ A 9 ∧ A 9 ≤ 9999 := hb.1.2.2.2.1
  have b10 : 0 ≤ A 10 ∧ A 10 ≤ 1 := hb.1.2.2.2.2.1
  have b11 := BA_11 hb
  refine Call.of (by decide +kernel) (Nat.le_of_ble_eq_true rfl) ?_
  show WP _ _ _ _ _ 0 [(0, _), (1, _)] [] 0 0 _ _ _
  refine x_iload_n dX12_canEarn_0 rfl ?_
  refine x_iconst dX12_canEarn_1 ?_
  refine x_sipush dX12_canEarn_2 (by decide) ?_
  refine x_callS3 (mc1 := 0) (ms1 := 0) dX12_canEarn_5 cv_RX12_81 (Nat.le_of_ble_eq_true rfl) (n1 := n - 1) (by omega) (by omega) (by omega) ?_
  refine sp_X12_isIn (by omega) (by omega) (by omega) (fun r5 hr5 => ?_)
  refine x_if_eq 30 dX12_canEarn_8 (by decide) (by omega) (fun w8 => ?_) (fun w8 => ?_)
  · refine x_iconst dX12_canEarn_30 ?_
    exact x_zreturn (by omega) dX12_canEarn_31 rfl (by omega) (by omega) (by first | exact hp 1 (Or.inl ⟨rfl, by omega⟩) | exact hp 0 (Or.inr ⟨rfl, by omega⟩))
  · refine x_aload_n dX12_canEarn_11 rfl ?_
    refine x_getR (b := 307) dX12_canEarn_12 gf_RX12_7 (k_ob_306 cs) (fun _ _ => rfl) (k_r_306_0 cs) ?_
    refine x_bipush dX12_canEarn_15 (by decide) ?_
    refine x_ald7 (kk := 9) (v := A 9) dX12_canEarn_17 cs (by omega) (by omega) (by rw [hA]; repeat (first | rfl | rw [upA_s] | rw [upA_o (by omega)])) ?_
    refine x_iload_n dX12_canEarn_18 rfl ?_
    refine x_iadd dX12_canEarn_19 ?_
    refine x_sipush dX12_canEarn_20 (by decide) ?_
    refine x_icmp_gt 30 dX12_canEarn_23 (by decide) ⟨(by omega), (by omega)⟩ (fun w23 => ?_) (fun w23 => ?_)
    · refine x_iconst dX12_canEarn_30 ?_
      exact x_zreturn (by omega) dX12_canEarn_31 rfl (by omega) (by omega) (by first | exact hp 1 (Or.inl ⟨rfl, by omega⟩) | exact hp 0 (Or.inr ⟨rfl, by omega⟩))
    · refine x_iconst dX12_canEarn_26 ?_
      refine x_goto 31 dX12_canEarn_27 (by decide) ?_
      exact x_zreturn (by omega) dX12_canEarn_31 rfl (by omega) (by omega) (by first | exact hp 1 (Or.inl ⟨rfl, by omega⟩) | exact hp 0 (Or.inr ⟨rfl, by omega⟩))
theorem dX12_pawnNow_0 : decode prog_14_method_80_code 0 = .ok (.aload_n 0, 1) := by decide +kernel
theorem dX12_pawnNow_1 : decode prog_14_method_80_code 1 = .ok (.getfield 7, 3) := by decide +kernel
theorem dX12_pawnNow_4 : decode prog_14_method_80_code 4 = .ok (.bipush 12, 2) := by decide +kernel
theorem dX12_pawnNow_6 : decode prog_14_method_80_code 6 = .ok (.iconst 3, 1) := by decide +kernel
theorem dX12_pawnNow_7 : decode prog_14_method_80_code 7 = .ok (.iload_n 1, 1) := by decide +kernel
theorem dX12_pawnNow_8 : decode prog_14_method_80_code 8 = .ok (.imul, 1) := by decide +kernel
theorem dX12_pawnNow_9 : decode prog_14_method_80_code 9 = .ok (.iadd, 1) := by decide +kernel
theorem dX12_pawnNow_10 : decode prog_14_method_80_code 10 = .ok (.iconst 1, 1) := by decide +kernel
theorem dX12_pawnNow_11 : decode prog_14_method_80_code 11 = .ok (.iastore, 1) := by decide +kernel
theorem dX12_pawnNow_12 : decode prog_14_method_80_code 12 = .ok (.aload_n 0, 1) := by decide +kernel
theorem dX12_pawnNow_13 : decode prog_14_method_80_code 13 = .ok (.getfield 7, 3) := by decide +kernel
theorem dX12_pawnNow_16 : decode prog_14_method_80_code 16 = .ok (.bipush 12, 2) := by decide +kernel
theorem dX12_pawnNow_18 : decode prog_14_method_80_code 18 = .ok (.iconst 3, 1) := by decide +kernel
theorem dX12_pawnNow_19 : decode prog_14_method_80_code 19 = .ok (.iload_n 1, 1) := by decide +kernel
theorem dX12_pawnNow_20 : decode prog_14_method_80_code 20 = .ok (.imul, 1) := by decide +kernel
theorem dX12_pawnNow_21 : decode prog_14_method_80_code 21 = .ok (.iadd, 1) := by decide +kernel
theorem dX12_pawnNow_22 : decode prog_14_method_80_code 22 = .ok (.iconst 1, 1) := by decide +kernel
theorem dX12_pawnNow_23 : decode prog_14_method_80_code 23 = .ok (.iadd, 1) := by decide +kernel
theorem dX12_pawnNow_24 : decode prog_14_method_80_code 24 = .ok (.aload_n 0, 1) := by decide +kernel
theorem dX12_pawnNow_25 : decode prog_14_method_80_code 25 = .ok (.getfield 7, 3) := by decide +kernel
theorem dX12_pawnNow_28 : decode prog_14_method_80_code 28 = .ok (.bipush 7, 2) := by decide +kernel
theorem dX12_pawnNow_30 : decode prog_14_method_80_code 30 = .ok (.iaload, 1) := by decide +kernel
theorem dX12_pawnNow_31 : decode prog_14_method_80_code 31 = .ok (.iastore, 1) := by decide +kernel
theorem dX12_pawnNow_32 : decode prog_14_method_80_code 32 = .ok (.aload_n 0, 1) := by decide +kernel
theorem dX12_pawnNow_33 : decode prog_14_method_80_code 33 = .ok (.getfield 7, 3) := by decide +kernel
theorem dX12_pawnNow_36 : decode prog_14_method_80_code 36 = .ok (.bipush 9, 2) := by decide +kernel
theorem dX12_pawnNow_38 : decode prog_14_method_80_code 38 = .ok (.aload_n 0, 1) := by decide +kernel
theorem dX12_pawnNow_39 : decode prog_14_method_80_code 39 = .ok (.getfield 7, 3) := by decide +kernel
theorem dX12_pawnNow_42 : decode prog_14_method_80_code 42 = .ok (.bipush 9, 2) := by decide +kernel
theorem dX12_pawnNow_44 : decode prog_14_method_80_code 44 = .ok (.iaload, 1) := by decide +kernel
theorem dX12_pawnNow_45 : decode prog_14_method_80_code 45 = .ok (.aload_n 0, 1) := by decide +kernel
theorem dX12_pawnNow_46 : decode prog_14_method_80_code 46 = .ok (.getfield 7, 3) := by decide +kernel
theorem dX12_pawnNow_49 : decode prog_14_method_80_code 49 = .ok (.bipush 52, 2) := by decide +kernel
theorem dX12_pawnNow_51 : decode prog_14_method_80_code 51 = .ok (.iload_n 1, 1) := by decide +kernel
theorem dX12_pawnNow_52 : decode prog_14_method_80_code 52 = .ok (.iadd, 1) := by decide +kernel
theorem dX12_pawnNow_53 : decode prog_14_method_80_code 53 = .ok (.iaload, 1) := by decide +kernel
theorem dX12_pawnNow_54 : decode prog_14_method_80_code 54 = .ok (.iconst 2, 1) := by decide +kernel
theorem dX12_pawnNow_55 : decode prog_14_method_80_code 55 = .ok (.idiv, 1) := by decide +kernel
theorem dX12_pawnNow_56 : decode prog_14_method_80_code 56 = .ok (.iadd, 1) := by decide +kernel
theorem dX12_pawnNow_57 : decode prog_14_method_80_code 57 = .ok (.i2l, 1) := by decide +kernel
theorem dX12_pawnNow_58 : decode prog_14_method_80_code 58 = .ok (.iconst 0, 1) := by decide +kernel
theorem dX12_pawnNow_59 : decode prog_14_method_80_code 59 = .ok (.sipush 9999, 3) := by decide +kernel
theorem dX12_pawnNow_62 : decode prog_14_method_80_code 62 = .ok (.invokestatic 306, 3) := by decide +kernel
theorem dX12_pawnNow_65 : decode prog_14_method_80_code 65 = .ok (.iastore, 1) := by decide +kernel
theorem dX12_pawnNow_66 : decode prog_14_method_80_code 66 = .ok (.aload_n 0, 1) := by decide +kernel
theorem dX12_pawnNow_67 : decode prog_14_method_80_code 67 = .ok (.iload_n 1, 1) := by decide +kernel
theorem dX12_pawnNow_68 : decode prog_14_method_80_code 68 = .ok (.iconst 0, 1) := by decide +kernel
theorem dX12_pawnNow_69 : decode prog_14_method_80_code 69 = .ok (.invokevirtual 345, 3) := by decide +kernel
theorem dX12_pawnNow_72 : decode prog_14_method_80_code 72 = .ok (.return_, 1) := by decide +kernel
theorem sp_X12_pawnNow {q : Int} (cs : CS S R) (hA : I 307 = A) (hb : BA A) (hz : I 306 23 = 1) (hq : 0 ≤ q ∧ q < 8) (hn : 1 ≤ n) (hp : ∀ I', I' 307 = pawnA A q → F7 I I' → Post none S I' R) : Call n 0 0 mX12_pawnNow [.ref (S.2.1 306), .int (iI q)] S I R Post := by
  have b0 := hb.1.1
  have b1 := hb.2.1.1
  have b2 := hb.2.1.2.1
  have b3 := hb.2.1.2.2.1
  have b4 := hb.2.1.2.2.2.1
  have b5 := hb.2.1.2.2.2.2.1
  have b6 := hb.2.1.2.2.2.2.2.1
  have b114 := hb.2.1.2.2.2.2.2.2
  have b7 : 0 ≤ A 7 ∧ A 7 ≤ 9999 := hb.1.2.1
  have b8 : 0 ≤ A 8 ∧ A 8 ≤ 30870 := hb.1.2.2.1
  have b9 : 0 ≤ A 9 ∧ A 9 ≤ 9999 := hb.1.2.2.2.1
  have b10 : 0 ≤ A 10 ∧ A 10 ≤ 1 := hb.1.2.2.2.2.1
  have b11 := BA_11 hb
  have hw := (hb.2.2.1 q.toNat (by omega)).2.2.1
  refine Call.of (by decide +kernel) (Nat.le_of_ble_eq_true rfl) ?_
  show WP _ _ _ _ _ 0 [(0, _), (1, _)] [] 0 0 _ _ _
  refine x_aload_n dX12_pawnNow_0 rfl ?_
  refine x_getR (b := 307) dX12_pawnNow_1 gf_RX12_7 (k_ob_306 cs) (fun _ _ => rfl) (k_r_306_0 cs) ?_
  refine x_bipush dX12_pawnNow_4 (by decide) ?_
  refine x_iconst dX12_pawnNow_6 ?_
  refine x_iload_n dX12_pawnNow_7 rfl ?_
  refine x_imul dX12_pawnNow_8 ?_
  refine x_iadd dX12_pawnNow_9 ?_
  refine x_iconst dX12_pawnNow_10 ?_
  refine x_ast7 (kk := 12 + 3 * q.toNat) dX12_pawnNow_11 cs (by omega) (by omega) hA (fun J11 a11 f11 => ?_)
  refine x_aload_n dX12_pawnNow_12 rfl ?_
  refine x_getR (b := 307) dX12_pawnNow_13 gf_RX12_7 (k_ob_306 cs) (fun _ _ => rfl) (k_r_306_0 cs) ?_
  refine x_bipush dX12_pawnNow_16 (by decide) ?_
  refine x_iconst dX12_pawnNow_18 ?_
  refine x_iload_n dX12_pawnNow_19 rfl ?_
  refine x_imul dX12_pawnNow_20 ?_
  refine x_iadd dX12_pawnNow_21 ?_
  refine x_iconst dX12_pawnNow_22 ?_
  refine x_iadd dX12_pawnNow_23 ?_
  refine x_aload_n dX12_pawnNow_24 rfl ?_
  refine x_getR (b := 307) dX12_pawnNow_25 gf_RX12_7 (k_ob_306 cs) (fun _ _ => rfl) (k_r_306_0 cs) ?_
  refine x_bipush dX12_pawnNow_28 (by decide) ?_
  refine x_ald7 (kk := 7) (v := A 7) dX12_pawnNow_30 cs (by omega) (by omega) (by rw [a11]; repeat (first | rfl | rw [upA_s] | rw [upA_o (by omega)])) ?_
  refine x_ast7 (kk := 13 + 3 * q.toNat) dX12_pawnNow_31 cs (by omega) (by omega) a11 (fun J31 a31 f31 => ?_)
  refine x_aload_n dX12_pawnNow_32 rfl ?_
  refine x_getR (b := 307) dX12_pawnNow_33 gf_RX12_7 (k_ob_306 cs) (fun _ _ => rfl) (k_r_306_0 cs) ?_
  refine x_bipush dX12_pawnNow_36 (by decide) ?_
  refine x_aload_n dX12_pawnNow_38 rfl ?_
  refine x_getR (b := 307) dX12_pawnNow_39 gf_RX12_7 (k_ob_306 cs) (fun _ _ => rfl) (k_r_306_0 cs) ?_
  refine x_bipush dX12_pawnNow_42 (by decide) ?_
  refine x_ald7 (kk := 9) (v := A 9) dX12_pawnNow_44 cs (by omega) (by omega) (by rw [a31]; repeat (first | rfl | rw [upA_s] | rw [upA_o (by omega)])) ?_
  refine x_aload_n dX12_pawnNow_45 rfl ?_
  refine x_getR (b := 307) dX12_pawnNow_46 gf_RX12_7 (k_ob_306 cs) (fun _ _ => rfl) (k_r_306_0 cs) ?_
  refine x_bipush dX12_pawnNow_49 (by decide) ?_
  refine x_iload_n dX12_pawnNow_51 rfl ?_
  refine x_iadd dX12_pawnNow_52 ?_
  refine x_ald7 (kk := 52 + q.toNat) (v := A (52 + q.toNat)) dX12_pawnNow_53 cs (by omega) (by omega) (by rw [a31]; repeat (first | rfl | rw [upA_s] | rw [upA_o (by omega)])) ?_
  refine x_iconst dX12_pawnNow_54 ?_
  refine x_idiv dX12_pawnNow_55 (by omega) ?_
  refine x_iadd dX12_pawnNow_56 ?_
  refine x_i2l dX12_pawnNow_57 (by omega) ?_
  refine x_iconst dX12_pawnNow_58 ?_
  refine x_sipush dX12_pawnNow_59 (by decide) ?_
  refine x_callS3 (mc1 := 0) (ms1 := 0) dX12_pawnNow_62 cv_RX12_306 (Nat.le_of_ble_eq_true rfl) (n1 := n - 1) (by omega) (by omega) (by omega) ?_
  refine sp_X12_held (by omega) (by omega) (by omega) ?_
  refine x_ast7 (kk := 9) dX12_pawnNow_65 cs (by omega) (by omega) a31 (fun J65 a65 f65 => ?_)
  refine x_aload_n dX12_pawnNow_66 rfl ?_
  refine x_iload_n dX12_pawnNow_67 rfl ?_
  refine x_iconst dX12_pawnNow_68 ?_
  refine x_callV2 (mc1 := 0) (ms1 := 0) dX12_pawnNow_69 cv_RX12_345 (ci := 12) (k_ob_306 cs) rfl (Nat.le_of_ble_eq_true rfl) (n1 := n - 1) (by omega) (by omega) (by omega) ?_
  refine sp_X12_write cs a65 (by repeat (first | omega | rw [upA_o (by omega)])) (Or.inr (by rw [(((F7.rf.tr f11).tr f31).tr f65) 306 (by omega)]; exact hz)) (fun J69 a69 f69 => ?_)
  rw [show J65 306 23 = 1 from (by rw [(((F7.rf.tr f11).tr f31).tr f65) 306 (by omega)]; exact hz)] at a69
  exact x_return dX12_pawnNow_72 rfl (by omega) (by omega) (by
    refine hp _ ?_ ((((F7.rf.tr f11).tr f31).tr f65).tr f69)
    rw [a69]
    show wrB 1 _ q 0 = wrA (upA (upA (upA A (12 + 3 * q.toNat) 1) (13 + 3 * q.toNat) (A 7)) 9 (capP (A 9 + A (52 + q.toNat) / 2))) q 0
    unfold wrB capP clampI
    rw [if_pos rfl, if_neg (by omega)]
    by_cases h : 9999 < A 9 + A (52 + q.toNat) / 2
    · rw [if_pos h, if_pos (by omega)]
    · rw [if_neg h]
      by_cases h2 : 9999 ≤ A 9 + A (52 + q.toNat) / 2
      · rw [if_pos h2, show A 9 + A (52 + q.toNat) / 2 = 9999 by omega]
      · rw [if_neg h2])
theorem upA_id (A : Nat → Int) (k : Nat) : upA A k (A k) = A := by funext i; unfold upA; split; rename_i h; rw [h]; rfl
theorem dX12_warm_0 : decode prog_14_method_84_code 0 = .ok (.aload_n 0, 1) := by decide +kernel
theorem dX12_warm_1 : decode prog_14_method_84_code 1 = .ok (.iload_n 1, 1) := by decide +kernel
theorem dX12_warm_2 : decode prog_14_method_84_code 2 = .ok (.invokevirtual 85, 3) := by decide +kernel
theorem dX12_warm_5 : decode prog_14_method_84_code 5 = .ok (.ifCond .ne 7, 3) := by decide +kernel
theorem dX12_warm_8 : decode prog_14_method_84_code 8 = .ok (.iconst 1, 1) := by decide +kernel
theorem dX12_warm_9 : decode prog_14_method_84_code 9 = .ok (.goto 27, 3) := by decide +kernel
theorem dX12_warm_12 : decode prog_14_method_84_code 12 = .ok (.aload_n 0, 1) := by decide +kernel
theorem dX12_warm_13 : decode prog_14_method_84_code 13 = .ok (.iload_n 1, 1) := by decide +kernel
theorem dX12_warm_14 : decode prog_14_method_84_code 14 = .ok (.invokevirtual 89, 3) := by decide +kernel
theorem dX12_warm_17 : decode prog_14_method_84_code 17 = .ok (.ifCond .eq 18, 3) := by decide +kernel
theorem dX12_warm_20 : decode prog_14_method_84_code 20 = .ok (.aload_n 0, 1) := by decide +kernel
theorem dX12_warm_21 : decode prog_14_method_84_code 21 = .ok (.getfield 7, 3) := by decide +kernel
theorem dX12_warm_24 : decode prog_14_method_84_code 24 = .ok (.bipush 10, 2) := by decide +kernel
theorem dX12_warm_26 : decode prog_14_method_84_code 26 = .ok (.iaload, 1) := by decide +kernel
theorem dX12_warm_27 : decode prog_14_method_84_code 27 = .ok (.iconst 1, 1) := by decide +kernel
theorem dX12_warm_28 : decode prog_14_method_84_code 28 = .ok (.if_icmp .ne 7, 3) := by decide +kernel
theorem dX12_warm_31 : decode prog_14_method_84_code 31 = .ok (.iconst (-1), 1) := by decide +kernel
theorem dX12_warm_32 : decode prog_14_method_84_code 32 = .ok (.goto 4, 3) := by decide +kernel
theorem dX12_warm_35 : decode prog_14_method_84_code 35 = .ok (.iconst 0, 1) := by decide +kernel
theorem dX12_warm_36 : decode prog_14_method_84_code 36 = .ok (.istore_n 2, 1) := by decide +kernel
theorem dX12_warm_37 : decode prog_14_method_84_code 37 = .ok (.aload_n 0, 1) := by decide +kernel
theorem dX12_warm_38 : decode prog_14_method_84_code 38 = .ok (.getfield 7, 3) := by decide +kernel
theorem dX12_warm_41 : decode prog_14_method_84_code 41 = .ok (.bipush 12, 2) := by decide +kernel
theorem dX12_warm_43 : decode prog_14_method_84_code 43 = .ok (.iconst 3, 1) := by decide +kernel
theorem dX12_warm_44 : decode prog_14_method_84_code 44 = .ok (.iload_n 1, 1) := by decide +kernel
theorem dX12_warm_45 : decode prog_14_method_84_code 45 = .ok (.imul, 1) := by decide +kernel
theorem dX12_warm_46 : decode prog_14_method_84_code 46 = .ok (.iadd, 1) := by decide +kernel
theorem dX12_warm_47 : decode prog_14_method_84_code 47 = .ok (.iconst 2, 1) := by decide +kernel
theorem dX12_warm_48 : decode prog_14_method_84_code 48 = .ok (.iadd, 1) := by decide +kernel
theorem dX12_warm_49 : decode prog_14_method_84_code 49 = .ok (.aload_n 0, 1) := by decide +kernel
theorem dX12_warm_50 : decode prog_14_method_84_code 50 = .ok (.iload_n 1, 1) := by decide +kernel
theorem dX12_warm_51 : decode prog_14_method_84_code 51 = .ok (.invokevirtual 281, 3) := by decide +kernel
theorem dX12_warm_54 : decode prog_14_method_84_code 54 = .ok (.iload_n 2, 1) := by decide +kernel
theorem dX12_warm_55 : decode prog_14_method_84_code 55 = .ok (.iadd, 1) := by decide +kernel
theorem dX12_warm_56 : decode prog_14_method_84_code 56 = .ok (.i2l, 1) := by decide +kernel
theorem dX12_warm_57 : decode prog_14_method_84_code 57 = .ok (.iconst 0, 1) := by decide +kernel
theorem dX12_warm_58 : decode prog_14_method_84_code 58 = .ok (.bipush 9, 2) := by decide +kernel
theorem dX12_warm_60 : decode prog_14_method_84_code 60 = .ok (.invokestatic 306, 3) := by decide +kernel
theorem dX12_warm_63 : decode prog_14_method_84_code 63 = .ok (.iastore, 1) := by decide +kernel
theorem dX12_warm_64 : decode prog_14_method_84_code 64 = .ok (.return_, 1) := by decide +kernel
theorem sp_X12_warm {q : Int} (cs : CS S R) (hA : I 307 = A) (hq : 0 ≤ q ∧ q < 8) (hh : 0 ≤ A (12 + 3 * q.toNat) ∧ A (12 + 3 * q.toNat) ≤ 3) (he : 0 ≤ A (14 + 3 * q.toNat) ∧ A (14 + 3 * q.toNat) ≤ 9) (hr : 0 ≤ A 10 ∧ A 10 ≤ 1) (hn : 2 ≤ n) (hp : ∀ I', I' 307 = warmA A q → F7 I I' → Post none S I' R) : Call n 0 0 mX12_warm [.ref (S.2.1 306), .int (iI q)] S I R Post := by
  refine Call.of (by decide +kernel) (Nat.le_of_ble_eq_true rfl) ?_
  show WP _ _ _ _ _ 0 [(0, _), (1, _)] [] 0 0 _ _ _
  refine x_aload_n dX12_warm_0 rfl ?_
  refine x_iload_n dX12_warm_1 rfl ?_
  refine x_callV1 (mc1 := 0) (ms1 := 0) dX12_warm_2 cv_RX12_85 (ci := 12) (k_ob_306 cs) rfl (Nat.le_of_ble_eq_true rfl) (n1 := n - 1) (by omega) (by omega) (by omega) ?_
  refine sp_X12_howOf_z cs hA (by omega) ?_
  refine x_if_ne 12 dX12_warm_5 (by decide) (by omega) (fun w5 => ?_) (fun w5 => ?_)
  · refine x_aload_n dX12_warm_12 rfl ?_
    refine x_iload_n dX12_warm_13 rfl ?_
    refine x_callV1 (mc1 := 0) (ms1 := 0) dX12_warm_14 cv_RX12_89 (ci := 12) (k_ob_306 cs) rfl (Nat.le_of_ble_eq_true rfl) (n1 := n - 1) (by omega) (by omega) (by omega) ?_
    refine sp_X12_isPawned_z cs hA (by omega) (by omega) (by omega) (fun r14 hr14 => ?_)
    refine x_if_eq 35 dX12_warm_17 (by decide) (by omega) (fun w17 => ?_) (fun w17 => ?_)
    · refine x_iconst dX12_warm_35 ?_
      refine x_istore_n (lv2 := [(2, _), (0, _), (1, _)]) dX12_warm_36 (by decide) rfl ?_
      refine x_aload_n dX12_warm_37 rfl ?_
      refine x_getR (b := 307) dX12_warm_38 gf_RX12_7 (k_ob_306 cs) (fun _ _ => rfl) (k_r_306_0 cs) ?_
      refine x_bipush dX12_warm_41 (by decide) ?_
      refine x_iconst dX12_warm_43 ?_
      refine x_iload_n dX12_warm_44 rfl ?_
      refine x_imul dX12_warm_45 ?_
      refine x_iadd dX12_warm_46 ?_
      refine x_iconst dX12_warm_47 ?_
      refine x_iadd dX12_warm_48 ?_
      refine x_aload_n dX12_warm_49 rfl ?_
      refine x_iload_n dX12_warm_50 rfl ?_
      refine x_callV1 (mc1 := 0) (ms1 := 0) dX12_warm_51 cv_RX12_281 (ci := 12) (k_ob_306 cs) rfl (Nat.le_of_ble_eq_true rfl) (n1 := n - 1) (by omega) (by omega) (by omega) ?_
      refine sp_X12_heatOf_z cs hA (by omega) ?_
      refine x_iload_n dX12_warm_54 rfl ?_
      refine x_iadd dX12_warm_55 ?_
      refine x_i2l dX12_warm_56 (by unfold Rg; omega) ?_
      refine x_iconst dX12_warm_57 ?_
      refine x_bipush dX12_warm_58 (by decide) ?_
      refine x_callS3 (mc1 := 0) (ms1 := 0) dX12_warm_60 cv_RX12_306 (Nat.le_of_ble_eq_true rfl) (n1 := n - 1) (by omega) (by omega) (by omega) ?_
      refine sp_X12_held (by omega) (by omega) (by omega) ?_
      refine x_ast7 (kk := 14 + 3 * q.toNat) dX12_warm_63 cs (by omega) (by omega) hA (fun J63 a63 f63 => ?_)
      exact x_return dX12_warm_64 rfl (by omega) (by omega) (by
    refine hp _ ?_ (F7.rf.tr f63)
    rw [a63]
    unfold warmA clampI
    first
      | (rw [if_pos (show A (12 + 3 * q.toNat) = 0 by omega), if_neg (by omega)]
         by_cases h : 9 < A (14 + 3 * q.toNat) + 1
         · rw [if_pos h, if_pos (by omega)]
         · rw [if_neg h]
           by_cases h2 : 9 ≤ A (14 + 3 * q.toNat) + 1
           · rw [if_pos h2, show A (14 + 3 * q.toNat) + 1 = 9 by omega]
           · rw [if_neg h2])
      | (rw [if_neg (show ¬ A (12 + 3 * q.toNat) = 0 by omega), if_pos (show A (12 + 3 * q.toNat) = 1 ∧ A 10 = 1 by omega)]
         by_cases h : A (14 + 3 * q.toNat) + -1 < 0
         · rw [if_pos h, if_pos (by omega)]
         · rw [if_neg h, if_neg (by omega)]
           by_cases h2 : A (14 + 3 * q.toNat) - 1 ≤ 0
           · rw [if_pos h2, show A (14 + 3 * q.toNat) + -1 = 0 by omega]
           · rw [if_neg h2]; rfl)
      | (rw [if_neg (show ¬ A (12 + 3 * q.toNat) = 0 by omega), if_neg (show ¬ (A (12 + 3 * q.toNat) = 1 ∧ A 10 = 1) by omega), Int.add_zero, if_neg (by omega), if_neg (by omega)]
         exact upA_id A _))
    · refine x_aload_n dX12_warm_20 rfl ?_
      refine x_getR (b := 307) dX12_warm_21 gf_RX12_7 (k_ob_306 cs) (fun _ _ => rfl) (k_r_306_0 cs) ?_
      refine x_bipush dX12_warm_24 (by decide) ?_
      refine x_ald7 (kk := 10) (v := A 10) dX12_warm_26 cs (by omega) (by omega) (by rw [hA]; repeat (first | rfl | rw [upA_s] | rw [upA_o (by omega)])) ?_
      refine x_iconst dX12_warm_27 ?_
      refine x_icmp_ne 35 dX12_warm_28 (by decide) ⟨(by omega), (by omega)⟩ (fun w28 => ?_) (fun w28 => ?_)
      · refine x_iconst dX12_warm_35 ?_
        refine x_istore_n (lv2 := [(2, _), (0, _), (1, _)]) dX12_warm_36 (by decide) rfl ?_
        refine x_aload_n dX12_warm_37 rfl ?_
        refine x_getR (b := 307) dX12_warm_38 gf_RX12_7 (k_ob_306 cs) (fun _ _ => rfl) (k_r_306_0 cs) ?_
        refine x_bipush dX12_warm_41 (by decide) ?_
        refine x_iconst dX12_warm_43 ?_
        refine x_iload_n dX12_warm_44 rfl ?_
        refine x_imul dX12_warm_45 ?_
        refine x_iadd dX12_warm_46 ?_
        refine x_iconst dX12_warm_47 ?_
        refine x_iadd dX12_warm_48 ?_
        refine x_aload_n dX12_warm_49 rfl ?_
        refine x_iload_n dX12_warm_50 rfl ?_
        refine x_callV1 (mc1 := 0) (ms1 := 0) dX12_warm_51 cv_RX12_281 (ci := 12) (k_ob_306 cs) rfl (Nat.le_of_ble_eq_true rfl) (n1 := n - 1) (by omega) (by omega) (by omega) ?_
        refine sp_X12_heatOf_z cs hA (by omega) ?_
        refine x_iload_n dX12_warm_54 rfl ?_
        refine x_iadd dX12_warm_55 ?_
        refine x_i2l dX12_warm_56 (by unfold Rg; omega) ?_
        refine x_iconst dX12_warm_57 ?_
        refine x_bipush dX12_warm_58 (by decide) ?_
        refine x_callS3 (mc1 := 0) (ms1 := 0) dX12_warm_60 cv_RX12_306 (Nat.le_of_ble_eq_true rfl) (n1 := n - 1) (by omega) (by omega) (by omega) ?_
        refine sp_X12_held (by omega) (by omega) (by omega) ?_
        refine x_ast7 (kk := 14 + 3 * q.toNat) dX12_warm_63 cs (by omega) (by omega) hA (fun J63 a63 f63 => ?_)
        exact x_return dX12_warm_64 rfl (by omega) (by omega) (by
    refine hp _ ?_ (F7.rf.tr f63)
    rw [a63]
    unfold warmA clampI
    first
      | (rw [if_pos (show A (12 + 3 * q.toNat) = 0 by omega), if_neg (by omega)]
         by_cases h : 9 < A (14 + 3 * q.toNat) + 1
         · rw [if_pos h, if_pos (by omega)]
         · rw [if_neg h]
           by_cases h2 : 9 ≤ A (14 + 3 * q.toNat) + 1
           · rw [if_pos h2, show A (14 + 3 * q.toNat) + 1 = 9 by omega]
           · rw [if_neg h2])
      | (rw [if_neg (show ¬ A (12 + 3 * q.toNat) = 0 by omega), if_pos (show A (12 + 3 * q.toNat) = 1 ∧ A 10 = 1 by omega)]
         by_cases h : A (14 + 3 * q.toNat) + -1 < 0
         · rw [if_pos h, if_pos (by omega)]
         · rw [if_neg h, if_neg (by omega)]
           by_cases h2 : A (14 + 3 * q.toNat) - 1 ≤ 0
           · rw [if_pos h2, show A (14 + 3 * q.toNat) + -1 = 0 by omega]
           · rw [if_neg h2]; rfl)
      | (rw [if_neg (show ¬ A (12 + 3 * q.toNat) = 0 by omega), if_neg (show ¬ (A (12 + 3 * q.toNat) = 1 ∧ A 10 = 1) by omega), Int.add_zero, if_neg (by omega), if_neg (by omega)]
         exact upA_id A _))
      · refine x_iconst dX12_warm_31 ?_
        refine x_goto 36 dX12_warm_32 (by decide) ?_
        refine x_istore_n (lv2 := [(2, _), (0, _), (1, _)]) dX12_warm_36 (by decide) rfl ?_
        refine x_aload_n dX12_warm_37 rfl ?_
        refine x_getR (b := 307) dX12_warm_38 gf_RX12_7 (k_ob_306 cs) (fun _ _ => rfl) (k_r_306_0 cs) ?_
        refine x_bipush dX12_warm_41 (by decide) ?_
        refine x_iconst dX12_warm_43 ?_
        refine x_iload_n dX12_warm_44 rfl ?_
        refine x_imul dX12_warm_45 ?_
        refine x_iadd dX12_warm_46 ?_
        refine x_iconst dX12_warm_47 ?_
        refine x_iadd dX12_warm_48 ?_
        refine x_aload_n dX12_warm_49 rfl ?_
        refine x_iload_n dX12_warm_50 rfl ?_
        refine x_callV1 (mc1 := 0) (ms1 := 0) dX12_warm_51 cv_RX12_281 (ci := 12) (k_ob_306 cs) rfl (Nat.le_of_ble_eq_true rfl) (n1 := n - 1) (by omega) (by omega) (by omega) ?_
        refine sp_X12_heatOf_z cs hA (by omega) ?_
        refine x_iload_n dX12_warm_54 rfl ?_
        refine x_iadd dX12_warm_55 ?_
        refine x_i2l dX12_warm_56 (by unfold Rg; omega) ?_
        refine x_iconst dX12_warm_57 ?_
        refine x_bipush dX12_warm_58 (by decide) ?_
        refine x_callS3 (mc1 := 0) (ms1 := 0) dX12_warm_60 cv_RX12_306 (Nat.le_of_ble_eq_true rfl) (n1 := n - 1) (by omega) (by omega) (by omega) ?_
        refine sp_X12_held (by omega) (by omega) (by omega) ?_
        refine x_ast7 (kk := 14 + 3 * q.toNat) dX12_warm_63 cs (by omega) (by omega) hA (fun J63 a63 f63 => ?_)
        exact x_return dX12_warm_64 rfl (by omega) (by omega) (by
    refine hp _ ?_ (F7.rf.tr f63)
    rw [a63]
    unfold warmA clampI
    first
      | (rw [if_pos (show A (12 + 3 * q.toNat) = 0 by omega), if_neg (by omega)]
         by_cases h : 9 < A (14 + 3 * q.toNat) + 1
         · rw [if_pos h, if_pos (by omega)]
         · rw [if_neg h]
           by_cases h2 : 9 ≤ A (14 + 3 * q.toNat) + 1
           · rw [if_pos h2, show A (14 + 3 * q.toNat) + 1 = 9 by omega]
           · rw [if_neg h2])
      | (rw [if_neg (show ¬ A (12 + 3 * q.toNat) = 0 by omega), if_pos (show A (12 + 3 * q.toNat) = 1 ∧ A 10 = 1 by omega)]
         by_cases h : A (14 + 3 * q.toNat) + -1 < 0
         · rw [if_pos h, if_pos (by omega)]
         · rw [if_neg h, if_neg (by omega)]
           by_cases h2 : A (14 + 3 * q.toNat) - 1 ≤ 0
           · rw [if_pos h2, show A (14 + 3 * q.toNat) + -1 = 0 by omega]
           · rw [if_neg h2]; rfl)
      | (rw [if_neg (show ¬ A (12 + 3 * q.toNat) = 0 by omega), if_neg (show ¬ (A (12 + 3 * q.toNat) = 1 ∧ A 10 = 1) by omega), Int.add_zero, if_neg (by omega), if_neg (by omega)]
         exact upA_id A _))
  · refine x_iconst dX12_warm_8 ?_
    refine x_goto 36 dX12_warm_9 (by decide) ?_
    refine x_istore_n (lv2 := [(2, _), (0, _), (1, _)]) dX12_warm_36 (by decide) rfl ?_
    refine x_aload_n dX12_warm_37 rfl ?_
    refine x_getR (b := 307) dX12_warm_38 gf_RX12_7 (k_ob_306 cs) (fun _ _ => rfl) (k_r_306_0 cs) ?_
    refine x_bipush dX12_warm_41 (by decide) ?_
    refine x_iconst dX12_warm_43 ?_
    refine x_iload_n dX12_warm_44 rfl ?_
    refine x_imul dX12_warm_45 ?_
    refine x_iadd dX12_warm_46 ?_
    refine x_iconst dX12_warm_47 ?_
    refine x_iadd dX12_warm_48 ?_
    refine x_aload_n dX12_warm_49 rfl ?_
    refine x_iload_n dX12_warm_50 rfl ?_
    refine x_callV1 (mc1 := 0) (ms1 := 0) dX12_warm_51 cv_RX12_281 (ci := 12) (k_ob_306 cs) rfl (Nat.le_of_ble_eq_true rfl) (n1 := n - 1) (by omega) (by omega) (by omega) ?_
    refine sp_X12_heatOf_z cs hA (by omega) ?_
    refine x_iload_n dX12_warm_54 rfl ?_
    refine x_iadd dX12_warm_55 ?_
    refine x_i2l dX12_warm_56 (by unfold Rg; omega) ?_
    refine x_iconst dX12_warm_57 ?_
    refine x_bipush dX12_warm_58 (by decide) ?_
    refine x_callS3 (mc1 := 0) (ms1 := 0) dX12_warm_60 cv_RX12_306 (Nat.le_of_ble_eq_true rfl) (n1 := n - 1) (by omega) (by omega) (by omega) ?_
    refine sp_X12_held (by omega) (by omega) (by omega) ?_
    refine x_ast7 (kk := 14 + 3 * q.toNat) dX12_warm_63 cs (by omega) (by omega) hA (fun J63 a63 f63 => ?_)
    exact x_return dX12_warm_64 rfl (by omega) (by omega) (by
    refine hp _ ?_ (F7.rf.tr f63)
    rw [a63]
    unfold warmA clampI
    first
      | (rw [if_pos (show A (12 + 3 * q.toNat) = 0 by omega), if_neg (by omega)]
         by_cases h : 9 < A (14 + 3 * q.toNat) + 1
         · rw [if_pos h, if_pos (by omega)]
         · rw [if_neg h]
           by_cases h2 : 9 ≤ A (14 + 3 * q.toNat) + 1
           · rw [if_pos h2, show A (14 + 3 * q.toNat) + 1 = 9 by omega]
           · rw [if_neg h2])
      | (rw [if_neg (show ¬ A (12 + 3 * q.toNat) = 0 by omega), if_pos (show A (12 + 3 * q.toNat) = 1 ∧ A 10 = 1 by omega)]
         by_cases h : A (14 + 3 * q.toNat) + -1 < 0
         · rw [if_pos h, if_pos (by omega)]
         · rw [if_neg h, if_neg (by omega)]
           by_cases h2 : A (14 + 3 * q.toNat) - 1 ≤ 0
           · rw [if_pos h2, show A (14 + 3 * q.toNat) + -1 = 0 by omega]
           · rw [if_neg h2]; rfl)
      | (rw [if_neg (show ¬ A (12 + 3 * q.toNat) = 0 by omega), if_neg (show ¬ (A (12 + 3 * q.toNat) = 1 ∧ A 10 = 1) by omega), Int.add_zero, if_neg (by omega), if_neg (by omega)]
         exact upA_id A _))
/-- k places from lo on are those from src on -/
def mvA (A : Nat → Int) (lo src k : Nat) : Nat → Int := fun i => if lo ≤ i ∧ i < lo + k then A (src + (i - lo)) else A i
theorem mvA_0 {lo src : Nat} : mvA A lo src 0 = A := by funext i; unfold mvA; rw [if_neg (by omega)]
theorem mvA_s {lo src k : Nat} : upA (mvA A lo src k) (lo + k) (A (src + k)) = mvA A lo src (k + 1) := by
  funext i; unfold upA mvA
  by_cases h : i = lo + k
  · rw [if_pos h, if_pos (by omega), h, show lo + k - lo = k by omega]
  · rw [if_neg h]
    by_cases h2 : lo ≤ i ∧ i < lo + k
    · rw [if_pos h2, if_pos (by omega)]
    · rw [if_neg h2, if_neg (by omega)]
theorem mvA_at {lo src k i : Nat} (h : i < lo ∨ lo + k ≤ i) : mvA A lo src k i = A i := by unfold mvA; rw [if_neg (by omega)]
theorem dX12_keep_0 : decode prog_14_method_86_code 0 = .ok (.aload_n 0, 1) := by decide +kernel
theorem dX12_keep_1 : decode prog_14_method_86_code 1 = .ok (.getfield 7, 3) := by decide +kernel
theorem dX12_keep_4 : decode prog_14_method_86_code 4 = .ok (.iconst 3, 1) := by decide +kernel
theorem dX12_keep_5 : decode prog_14_method_86_code 5 = .ok (.iaload, 1) := by decide +kernel
theorem dX12_keep_6 : decode prog_14_method_86_code 6 = .ok (.bipush 30, 2) := by decide +kernel
theorem dX12_keep_8 : decode prog_14_method_86_code 8 = .ok (.if_icmp .ne 47, 3) := by decide +kernel
theorem dX12_keep_11 : decode prog_14_method_86_code 11 = .ok (.iconst 0, 1) := by decide +kernel
theorem dX12_keep_12 : decode prog_14_method_86_code 12 = .ok (.istore_n 1, 1) := by decide +kernel
theorem dX12_keep_13 : decode prog_14_method_86_code 13 = .ok (.iload_n 1, 1) := by decide +kernel
theorem dX12_keep_14 : decode prog_14_method_86_code 14 = .ok (.sipush 2610, 3) := by decide +kernel
theorem dX12_keep_17 : decode prog_14_method_86_code 17 = .ok (.if_icmp .ge 28, 3) := by decide +kernel
theorem dX12_keep_20 : decode prog_14_method_86_code 20 = .ok (.aload_n 0, 1) := by decide +kernel
theorem dX12_keep_21 : decode prog_14_method_86_code 21 = .ok (.getfield 7, 3) := by decide +kernel
theorem dX12_keep_24 : decode prog_14_method_86_code 24 = .ok (.bipush 115, 2) := by decide +kernel
theorem dX12_keep_26 : decode prog_14_method_86_code 26 = .ok (.iload_n 1, 1) := by decide +kernel
theorem dX12_keep_27 : decode prog_14_method_86_code 27 = .ok (.iadd, 1) := by decide +kernel
theorem dX12_keep_28 : decode prog_14_method_86_code 28 = .ok (.aload_n 0, 1) := by decide +kernel
theorem dX12_keep_29 : decode prog_14_method_86_code 29 = .ok (.getfield 7, 3) := by decide +kernel
theorem dX12_keep_32 : decode prog_14_method_86_code 32 = .ok (.sipush 205, 3) := by decide +kernel
theorem dX12_keep_35 : decode prog_14_method_86_code 35 = .ok (.iload_n 1, 1) := by decide +kernel
theorem dX12_keep_36 : decode prog_14_method_86_code 36 = .ok (.iadd, 1) := by decide +kernel
theorem dX12_keep_37 : decode prog_14_method_86_code 37 = .ok (.iaload, 1) := by decide +kernel
theorem dX12_keep_38 : decode prog_14_method_86_code 38 = .ok (.iastore, 1) := by decide +kernel
theorem dX12_keep_39 : decode prog_14_method_86_code 39 = .ok (.iinc 1 1, 3) := by decide +kernel
theorem dX12_keep_42 : decode prog_14_method_86_code 42 = .ok (.goto (-29), 3) := by decide +kernel
theorem dX12_keep_45 : decode prog_14_method_86_code 45 = .ok (.aload_n 0, 1) := by decide +kernel
theorem dX12_keep_46 : decode prog_14_method_86_code 46 = .ok (.getfield 7, 3) := by decide +kernel
theorem dX12_keep_49 : decode prog_14_method_86_code 49 = .ok (.iconst 3, 1) := by decide +kernel
theorem dX12_keep_50 : decode prog_14_method_86_code 50 = .ok (.dup2, 1) := by decide +kernel
theorem dX12_keep_51 : decode prog_14_method_86_code 51 = .ok (.iaload, 1) := by decide +kernel
theorem dX12_keep_52 : decode prog_14_method_86_code 52 = .ok (.iconst 1, 1) := by decide +kernel
theorem dX12_keep_53 : decode prog_14_method_86_code 53 = .ok (.isub, 1) := by decide +kernel
theorem dX12_keep_54 : decode prog_14_method_86_code 54 = .ok (.iastore, 1) := by decide +kernel
theorem dX12_keep_55 : decode prog_14_method_86_code 55 = .ok (.bipush 115, 2) := by decide +kernel
theorem dX12_keep_57 : decode prog_14_method_86_code 57 = .ok (.bipush 90, 2) := by decide +kernel
theorem dX12_keep_59 : decode prog_14_method_86_code 59 = .ok (.aload_n 0, 1) := by decide +kernel
theorem dX12_keep_60 : decode prog_14_method_86_code 60 = .ok (.getfield 7, 3) := by decide +kernel
theorem dX12_keep_63 : decode prog_14_method_86_code 63 = .ok (.iconst 3, 1) := by decide +kernel
theorem dX12_keep_64 : decode prog_14_method_86_code 64 = .ok (.iaload, 1) := by decide +kernel
theorem dX12_keep_65 : decode prog_14_method_86_code 65 = .ok (.imul, 1) := by decide +kernel
theorem dX12_keep_66 : decode prog_14_method_86_code 66 = .ok (.iadd, 1) := by decide +kernel
theorem dX12_keep_67 : decode prog_14_method_86_code 67 = .ok (.istore_n 1, 1) := by decide +kernel
theorem dX12_keep_68 : decode prog_14_method_86_code 68 = .ok (.aload_n 0, 1) := by decide +kernel
theorem dX12_keep_69 : decode prog_14_method_86_code 69 = .ok (.getfield 7, 3) := by decide +kernel
theorem dX12_keep_72 : decode prog_14_method_86_code 72 = .ok (.iload_n 1, 1) := by decide +kernel
theorem dX12_keep_73 : decode prog_14_method_86_code 73 = .ok (.aload_n 0, 1) := by decide +kernel
theorem dX12_keep_74 : decode prog_14_method_86_code 74 = .ok (.getfield 7, 3) := by decide +kernel
theorem dX12_keep_77 : decode prog_14_method_86_code 77 = .ok (.iconst 0, 1) := by decide +kernel
theorem dX12_keep_78 : decode prog_14_method_86_code 78 = .ok (.iaload, 1) := by decide +kernel
theorem dX12_keep_79 : decode prog_14_method_86_code 79 = .ok (.iastore, 1) := by decide +kernel
theorem dX12_keep_80 : decode prog_14_method_86_code 80 = .ok (.iconst 0, 1) := by decide +kernel
theorem dX12_keep_81 : decode prog_14_method_86_code 81 = .ok (.istore_n 2, 1) := by decide +kernel
theorem dX12_keep_82 : decode prog_14_method_86_code 82 = .ok (.iload_n 2, 1) := by decide +kernel
theorem dX12_keep_83 : decode prog_14_method_86_code 83 = .ok (.bipush 29, 2) := by decide +kernel
theorem dX12_keep_85 : decode prog_14_method_86_code 85 = .ok (.if_icmp .ge 28, 3) := by decide +kernel
theorem dX12_keep_88 : decode prog_14_method_86_code 88 = .ok (.aload_n 0, 1) := by decide +kernel
theorem dX12_keep_89 : decode prog_14_method_86_code 89 = .ok (.getfield 7, 3) := by decide +kernel
theorem dX12_keep_92 : decode prog_14_method_86_code 92 = .ok (.iload_n 1, 1) := by decide +kernel
theorem dX12_keep_93 : decode prog_14_method_86_code 93 = .ok (.iconst 1, 1) := by decide +kernel
theorem dX12_keep_94 : decode prog_14_method_86_code 94 = .ok (.iadd, 1) := by decide +kernel
theorem dX12_keep_95 : decode prog_14_method_86_code 95 = .ok (.iload_n 2, 1) := by decide +kernel
theorem dX12_keep_96 : decode prog_14_method_86_code 96 = .ok (.iadd, 1) := by decide +kernel
theorem dX12_keep_97 : decode prog_14_method_86_code 97 = .ok (.aload_n 0, 1) := by decide +kernel
theorem dX12_keep_98 : decode prog_14_method_86_code 98 = .ok (.getfield 7, 3) := by decide +kernel
theorem dX12_keep_101 : decode prog_14_method_86_code 101 = .ok (.bipush 7, 2) := by decide +kernel
theorem dX12_keep_103 : decode prog_14_method_86_code 103 = .ok (.iload_n 2, 1) := by decide +kernel
theorem dX12_keep_104 : decode prog_14_method_86_code 104 = .ok (.iadd, 1) := by decide +kernel
theorem dX12_keep_105 : decode prog_14_method_86_code 105 = .ok (.iaload, 1) := by decide +kernel
theorem dX12_keep_106 : decode prog_14_method_86_code 106 = .ok (.iastore, 1) := by decide +kernel
theorem dX12_keep_107 : decode prog_14_method_86_code 107 = .ok (.iinc 2 1, 3) := by decide +kernel
theorem dX12_keep_110 : decode prog_14_method_86_code 110 = .ok (.goto (-28), 3) := by decide +kernel
theorem dX12_keep_113 : decode prog_14_method_86_code 113 = .ok (.iconst 0, 1) := by decide +kernel
theorem dX12_keep_114 : decode prog_14_method_86_code 114 = .ok (.istore_n 2, 1) := by decide +kernel
theorem dX12_keep_115 : decode prog_14_method_86_code 115 = .ok (.iload_n 2, 1) := by decide +kernel
theorem dX12_keep_116 : decode prog_14_method_86_code 116 = .ok (.bipush 60, 2) := by decide +kernel
theorem dX12_keep_118 : decode prog_14_method_86_code 118 = .ok (.if_icmp .ge 30, 3) := by decide +kernel
theorem dX12_keep_121 : decode prog_14_method_86_code 121 = .ok (.aload_n 0, 1) := by decide +kernel
theorem dX12_keep_122 : decode prog_14_method_86_code 122 = .ok (.getfield 7, 3) := by decide +kernel
theorem dX12_keep_125 : decode prog_14_method_86_code 125 = .ok (.iload_n 1, 1) := by decide +kernel
theorem dX12_keep_126 : decode prog_14_method_86_code 126 = .ok (.bipush 30, 2) := by decide +kernel
theorem dX12_keep_128 : decode prog_14_method_86_code 128 = .ok (.iadd, 1) := by decide +kernel
theorem dX12_keep_129 : decode prog_14_method_86_code 129 = .ok (.iload_n 2, 1) := by decide +kernel
theorem dX12_keep_130 : decode prog_14_method_86_code 130 = .ok (.iadd, 1) := by decide +kernel
theorem dX12_keep_131 : decode prog_14_method_86_code 131 = .ok (.aload_n 0, 1) := by decide +kernel
theorem dX12_keep_132 : decode prog_14_method_86_code 132 = .ok (.getfield 7, 3) := by decide +kernel
theorem dX12_keep_135 : decode prog_14_method_86_code 135 = .ok (.sipush 2815, 3) := by decide +kernel
theorem dX12_keep_138 : decode prog_14_method_86_code 138 = .ok (.iload_n 2, 1) := by decide +kernel
theorem dX12_keep_139 : decode prog_14_method_86_code 139 = .ok (.iadd, 1) := by decide +kernel
theorem dX12_keep_140 : decode prog_14_method_86_code 140 = .ok (.iaload, 1) := by decide +kernel
theorem dX12_keep_141 : decode prog_14_method_86_code 141 = .ok (.iastore, 1) := by decide +kernel
theorem dX12_keep_142 : decode prog_14_method_86_code 142 = .ok (.iinc 2 1, 3) := by decide +kernel
theorem dX12_keep_145 : decode prog_14_method_86_code 145 = .ok (.goto (-30), 3) := by decide +kernel
theorem dX12_keep_148 : decode prog_14_method_86_code 148 = .ok (.aload_n 0, 1) := by decide +kernel
theorem dX12_keep_149 : decode prog_14_method_86_code 149 = .ok (.getfield 7, 3) := by decide +kernel
theorem dX12_keep_152 : decode prog_14_method_86_code 152 = .ok (.iconst 3, 1) := by decide +kernel
theorem dX12_keep_153 : decode prog_14_method_86_code 153 = .ok (.dup2, 1) := by decide +kernel
theorem dX12_keep_154 : decode prog_14_method_86_code 154 = .ok (.iaload, 1) := by decide +kernel
theorem dX12_keep_155 : decode prog_14_method_86_code 155 = .ok (.iconst 1, 1) := by decide +kernel
theorem dX12_keep_156 : decode prog_14_method_86_code 156 = .ok (.iadd, 1) := by decide +kernel
theorem dX12_keep_157 : decode prog_14_method_86_code 157 = .ok (.iastore, 1) := by decide +kernel
theorem dX12_keep_158 : decode prog_14_method_86_code 158 = .ok (.return_, 1) := by decide +kernel
theorem lp1_keep {B : Nat → Int}  (cs : CS S R) (hK : ∀ J, J 307 = mvA B (115) (205) 2610 → F7 I J → WP n 0 0 mX12_keep Post 45 [(0, .ref (S.2.1 306))] [] 0 0 S J R) : ∀ (d k : Nat) (J : CI), k ≤ 2610 → 2610 - k = d → J 307 = mvA B (115) (205) k → F7 I J → WP n 0 0 mX12_keep Post 13 [(0, .ref (S.2.1 306)), (1, .int (iI (k : Int)))] [] 0 0 S J R := by
  intro d
  induction d using Nat.strongRecOn with
  | ind d ih =>
    intro k J k1 k2 hA hF
    refine x_iload_n dX12_keep_13 rfl ?_
    refine x_sipush dX12_keep_14 (by decide) ?_
    refine x_icmp_ge 45 dX12_keep_17 (by decide) ⟨(by omega), (by omega)⟩ (fun w17 => ?_) (fun w17 => ?_)
    · refine x_sub [0] rfl ?_
      obtain rfl : k = 2610 := by omega
      exact hK _ hA hF
    · refine x_aload_n dX12_keep_20 rfl ?_
      refine x_getR (b := 307) dX12_keep_21 gf_RX12_7 (k_ob_306 cs) (fun _ _ => rfl) (k_r_306_0 cs) ?_
      refine x_bipush dX12_keep_24 (by decide) ?_
      refine x_iload_n dX12_keep_26 rfl ?_
      refine x_iadd dX12_keep_27 ?_
      refine x_aload_n dX12_keep_28 rfl ?_
      refine x_getR (b := 307) dX12_keep_29 gf_RX12_7 (k_ob_306 cs) (fun _ _ => rfl) (k_r_306_0 cs) ?_
      refine x_sipush dX12_keep_32 (by decide) ?_
      refine x_iload_n dX12_keep_35 rfl ?_
      refine x_iadd dX12_keep_36 ?_
      refine x_ald7 (kk := 205 + k) (v := B (205 + k)) dX12_keep_37 cs (by omega) (by omega) (by rw [hA]; exact mvA_at (by omega)) ?_
      refine x_ast7 (kk := 115 + k) dX12_keep_38 cs (by omega) (by omega) hA (fun J38 a38 f38 => ?_)
      refine x_iinc (lv2 := [(1, _), (0, _)]) dX12_keep_39 rfl (by decide) rfl ?_
      refine x_goto 13 dX12_keep_42 (by decide) ?_
      refine x_sub [1, 0] rfl ?_
      refine ih _ (by omega) (k + 1) _ (by omega) rfl ?_ (hF.tr (F7.rf.tr f38))
      rw [a38]
      exact mvA_s
theorem lp2_keep {B : Nat → Int} {x : Nat} (hx : 115 ≤ x ∧ x ≤ 2725) (cs : CS S R) (hK : ∀ J, J 307 = mvA B (x + 1) (7) 29 → F7 I J → WP n 0 0 mX12_keep Post 113 [(0, .ref (S.2.1 306)), (1, .int (iI (x : Int)))] [] 0 0 S J R) : ∀ (d k : Nat) (J : CI), k ≤ 29 → 29 - k = d → J 307 = mvA B (x + 1) (7) k → F7 I J → WP n 0 0 mX12_keep Post 82 [(0, .ref (S.2.1 306)), (1, .int (iI (x : Int))), (2, .int (iI (k : Int)))] [] 0 0 S J R := by
  intro d
  induction d using Nat.strongRecOn with
  | ind d ih =>
    intro k J k1 k2 hA hF
    refine x_iload_n dX12_keep_82 rfl ?_
    refine x_bipush dX12_keep_83 (by decide) ?_
    refine x_icmp_ge 113 dX12_keep_85 (by decide) ⟨(by omega), (by omega)⟩ (fun w85 => ?_) (fun w85 => ?_)
    · refine x_sub [0, 1] rfl ?_
      obtain rfl : k = 29 := by omega
      exact hK _ hA hF
    · refine x_aload_n dX12_keep_88 rfl ?_
      refine x_getR (b := 307) dX12_keep_89 gf_RX12_7 (k_ob_306 cs) (fun _ _ => rfl) (k_r_306_0 cs) ?_
      refine x_iload_n dX12_keep_92 rfl ?_
      refine x_iconst dX12_keep_93 ?_
      refine x_iadd dX12_keep_94 ?_
      refine x_iload_n dX12_keep_95 rfl ?_
      refine x_iadd dX12_keep_96 ?_
      refine x_aload_n dX12_keep_97 rfl ?_
      refine x_getR (b := 307) dX12_keep_98 gf_RX12_7 (k_ob_306 cs) (fun _ _ => rfl) (k_r_306_0 cs) ?_
      refine x_bipush dX12_keep_101 (by decide) ?_
      refine x_iload_n dX12_keep_103 rfl ?_
      refine x_iadd dX12_keep_104 ?_
      refine x_ald7 (kk := 7 + k) (v := B (7 + k)) dX12_keep_105 cs (by omega) (by omega) (by rw [hA]; exact mvA_at (by omega)) ?_
      refine x_ast7 (kk := x + 1 + k) dX12_keep_106 cs (by omega) (by omega) hA (fun J106 a106 f106 => ?_)
      refine x_iinc (lv2 := [(2, _), (0, _), (1, _)]) dX12_keep_107 rfl (by decide) rfl ?_
      refine x_goto 82 dX12_keep_110 (by decide) ?_
      refine x_sub [1, 2, 0] rfl ?_
      refine ih _ (by omega) (k + 1) _ (by omega) rfl ?_ (hF.tr (F7.rf.tr f106))
      rw [a106]
      exact mvA_s
theorem lp3_keep {B : Nat → Int} {x : Nat} (hx : 115 ≤ x ∧ x ≤ 2725) (cs : CS S R) (hK : ∀ J, J 307 = mvA B (x + 30) (2815) 60 → F7 I J → WP n 0 0 mX12_keep Post 148 [(0, .ref (S.2.1 306))] [] 0 0 S J R) : ∀ (d k : Nat) (J : CI), k ≤ 60 → 60 - k = d → J 307 = mvA B (x + 30) (2815) k → F7 I J → WP n 0 0 mX12_keep Post 115 [(0, .ref (S.2.1 306)), (1, .int (iI (x : Int))), (2, .int (iI (k : Int)))] [] 0 0 S J R := by
  intro d
  induction d using Nat.strongRecOn with
  | ind d ih =>
    intro k J k1 k2 hA hF
    refine x_iload_n dX12_keep_115 rfl ?_
    refine x_bipush dX12_keep_116 (by decide) ?_
    refine x_icmp_ge 148 dX12_keep_118 (by decide) ⟨(by omega), (by omega)⟩ (fun w118 => ?_) (fun w118 => ?_)
    · refine x_sub [0] rfl ?_
      obtain rfl : k = 60 := by omega
      exact hK _ hA hF
    · refine x_aload_n dX12_keep_121 rfl ?_
      refine x_getR (b := 307) dX12_keep_122 gf_RX12_7 (k_ob_306 cs) (fun _ _ => rfl) (k_r_306_0 cs) ?_
      refine x_iload_n dX12_keep_125 rfl ?_
      refine x_bipush dX12_keep_126 (by decide) ?_
      refine x_iadd dX12_keep_128 ?_
      refine x_iload_n dX12_keep_129 rfl ?_
      refine x_iadd dX12_keep_130 ?_
      refine x_aload_n dX12_keep_131 rfl ?_
      refine x_getR (b := 307) dX12_keep_132 gf_RX12_7 (k_ob_306 cs) (fun _ _ => rfl) (k_r_306_0 cs) ?_
      refine x_sipush dX12_keep_135 (by decide) ?_
      refine x_iload_n dX12_keep_138 rfl ?_
      refine x_iadd dX12_keep_139 ?_
      refine x_ald7 (kk := 2815 + k) (v := B (2815 + k)) dX12_keep_140 cs (by omega) (by omega) (by rw [hA]; exact mvA_at (by omega)) ?_
      refine x_ast7 (kk := x + 30 + k) dX12_keep_141 cs (by omega) (by omega) hA (fun J141 a141 f141 => ?_)
      refine x_iinc (lv2 := [(2, _), (0, _), (1, _)]) dX12_keep_142 rfl (by decide) rfl ?_
      refine x_goto 115 dX12_keep_145 (by decide) ?_
      refine x_sub [1, 2, 0] rfl ?_
      refine ih _ (by omega) (k + 1) _ (by omega) rfl ?_ (hF.tr (F7.rf.tr f141))
      rw [a141]
      exact mvA_s
theorem keep_eq {B : Nat → Int} (hB : 0 ≤ A 3 ∧ A 3 ≤ 30) (h : B = if A 3 = 30 then upA (mvA A 115 205 2610) 3 29 else A) : upA (mvA (mvA (upA B (115 + 90 * kpS A) (B 0)) (115 + 90 * kpS A + 1) 7 29) (115 + 90 * kpS A + 30) 2815 60) 3 ((kpS A : Int) + 1) = keepA A := by
  obtain ⟨k1, k2, k3⟩ := kp_b hB
  obtain ⟨K, hK⟩ : ∃ K, K = kpS A := ⟨_, rfl⟩
  have hlo : ∀ i, i ≠ 3 → (i < 115 ∨ 2725 ≤ i) → B i = A i := by
    intro i h1 h2
    rw [h]
    split
    · rw [upA_o h1]; exact mvA_at (by omega)
    · rfl
  have hmid : ∀ i, 115 ≤ i → i < 115 + 90 * K → B i = if A 3 = 30 then A (i + 90) else A i := by
    intro i h1 h2
    rw [h]
    by_cases h30 : A 3 = 30
    · rw [if_pos h30, if_pos h30, upA_o (by omega)]
      unfold mvA
      rw [if_pos (by omega), show 205 + (i - 115) = i + 90 by omega]
    · rw [if_neg h30, if_neg h30]
  have hhi : ∀ i, 205 + 90 * K ≤ i → B i = A i := by
    intro i h1
    rw [h]
    by_cases h30 : A 3 = 30
    · rw [if_pos h30, upA_o (by omega)]; exact mvA_at (by omega)
    · rw [if_neg h30]
  have h0 := hlo 0 (by omega) (by omega)
  funext i
  unfold keepA
  rw [← hK]
  rw [← hK] at k1 k2 k3
  by_cases c1 : i = 3
  · rw [if_pos c1, c1, upA_s]
  · rw [if_neg c1, upA_o c1]
    by_cases c2 : i < 115 ∨ 2815 ≤ i
    · rw [if_pos c2, mvA_at (by omega), mvA_at (by omega), upA_o (by omega), hlo i c1 (by omega)]
    · rw [if_neg c2]
      by_cases c3 : i < 115 + 90 * K
      · rw [if_pos c3, mvA_at (by omega), mvA_at (by omega), upA_o (by omega), hmid i (by omega) c3]
      · rw [if_neg c3]
        by_cases c4 : i = 115 + 90 * K
        · rw [if_pos c4, c4, mvA_at (by omega), mvA_at (by omega), upA_s, h0]
        · rw [if_neg c4]
          by_cases c5 : i < 145 + 90 * K
          · rw [if_pos c5, mvA_at (by omega)]
            unfold mvA
            rw [if_pos (by omega), upA_o (by omega), hlo _ (by omega) (by omega), show 7 + (i - (115 + 90 * K + 1)) = i - (115 + 90 * K) + 6 by omega]
          · rw [if_neg c5]
            by_cases c6 : i < 205 + 90 * K
            · rw [if_pos c6]
              show mvA _ _ _ _ i = _
              rw [show mvA (mvA (upA B (115 + 90 * K) (B 0)) (115 + 90 * K + 1) 7 29) (115 + 90 * K + 30) 2815 60 i = mvA (upA B (115 + 90 * K) (B 0)) (115 + 90 * K + 1) 7 29 (2815 + (i - (115 + 90 * K + 30))) from if_pos (by omega), mvA_at (by omega), upA_o (by omega), hlo _ (by omega) (by omega), show 2815 + (i - (115 + 90 * K + 30)) = i - (115 + 90 * K) + 2785 by omega]
            · rw [if_neg c6, mvA_at (by omega), mvA_at (by omega), upA_o (by omega), hhi i (by omega)]
theorem lp4_keep {B : Nat → Int} {K : Nat} (cs : CS S R) (hA : I 307 = B) (h3 : B 3 = (K : Int)) (hK : K ≤ 29) (hp : ∀ I', I' 307 = upA (mvA (mvA (upA B (115 + 90 * K) (B 0)) (115 + 90 * K + 1) 7 29) (115 + 90 * K + 30) 2815 60) 3 ((K : Int) + 1) → F7 I I' → Post none S I' R) : WP n 0 0 mX12_keep Post 55 [(0, .ref (S.2.1 306))] [] 0 0 S I R := by
  refine x_bipush dX12_keep_55 (by decide) ?_
  refine x_bipush dX12_keep_57 (by decide) ?_
  refine x_aload_n dX12_keep_59 rfl ?_
  refine x_getR (b := 307) dX12_keep_60 gf_RX12_7 (k_ob_306 cs) (fun _ _ => rfl) (k_r_306_0 cs) ?_
  refine x_iconst dX12_keep_63 ?_
  refine x_ald7 (kk := 3) (v := (K : Int)) dX12_keep_64 cs (by omega) (by omega) (by rw [hA]; exact h3) ?_
  refine x_imul dX12_keep_65 ?_
  refine x_iadd dX12_keep_66 ?_
  refine x_istore_n (lv2 := [(1, _), (0, _)]) dX12_keep_67 (by decide) rfl ?_
  refine x_aload_n dX12_keep_68 rfl ?_
  refine x_getR (b := 307) dX12_keep_69 gf_RX12_7 (k_ob_306 cs) (fun _ _ => rfl) (k_r_306_0 cs) ?_
  refine x_iload_n dX12_keep_72 rfl ?_
  refine x_aload_n dX12_keep_73 rfl ?_
  refine x_getR (b := 307) dX12_keep_74 gf_RX12_7 (k_ob_306 cs) (fun _ _ => rfl) (k_r_306_0 cs) ?_
  refine x_iconst dX12_keep_77 ?_
  refine x_ald7 (kk := 0) (v := B 0) dX12_keep_78 cs (by omega) (by omega) (by rw [hA]; done) ?_
  refine x_ast7 (kk := 115 + 90 * K) dX12_keep_79 cs (by omega) (by omega) hA (fun J79 a79 f79 => ?_)
  refine x_iconst dX12_keep_80 ?_
  refine x_istore_n (lv2 := [(2, _), (1, _), (0, _)]) dX12_keep_81 (by decide) rfl ?_
  refine x_sub [2, 1, 0] rfl ?_
  rw [show (115 : Int) + 90 * (K : Int) = ((115 + 90 * K : Nat) : Int) by omega]
  refine lp2_keep (x := 115 + 90 * K) (by omega) cs (fun J1 a1 f1 => ?_) _ 0 _ (by omega) rfl (by rw [a79, mvA_0]) F7.rf
  refine x_iconst dX12_keep_113 ?_
  refine x_istore_n (lv2 := [(2, _), (0, _), (1, _)]) dX12_keep_114 (by decide) rfl ?_
  refine x_sub [1, 2, 0] rfl ?_
  refine lp3_keep (x := 115 + 90 * K) (by omega) cs (fun J2 a2 f2 => ?_) _ 0 _ (by omega) rfl (by rw [a1, mvA_0]) F7.rf
  refine x_aload_n dX12_keep_148 rfl ?_
  refine x_getR (b := 307) dX12_keep_149 gf_RX12_7 (k_ob_306 cs) (fun _ _ => rfl) (k_r_306_0 cs) ?_
  refine x_iconst dX12_keep_152 ?_
  refine x_dup2 dX12_keep_153 rfl rfl ?_
  refine x_ald7 (kk := 3) (v := (K : Int)) dX12_keep_154 cs (by omega) (by omega) (by rw [a2]; rw [mvA_at (by omega), mvA_at (by omega), upA_o (by omega)]; exact h3) ?_
  refine x_iconst dX12_keep_155 ?_
  refine x_iadd dX12_keep_156 ?_
  refine x_ast7 (kk := 3) dX12_keep_157 cs (by omega) (by omega) a2 (fun J157 a157 f157 => ?_)
  exact x_return dX12_keep_158 rfl (by omega) (by omega) (hp _ a157 ((F7.tr (by assumption) f1).tr (f2.tr ((F7.rf.tr f157)))))
theorem sp_X12_keep  (cs : CS S R) (hA : I 307 = A) (hb : BA A) (hp : ∀ I', I' 307 = keepA A → F7 I I' → Post none S I' R) : Call n 0 0 mX12_keep [.ref (S.2.1 306)] S I R Post := by
  have b0 := hb.1.1
  have b1 := hb.2.1.1
  have b2 := hb.2.1.2.1
  have b3 := hb.2.1.2.2.1
  have b4 := hb.2.1.2.2.2.1
  have b5 := hb.2.1.2.2.2.2.1
  have b6 := hb.2.1.2.2.2.2.2.1
  have b114 := hb.2.1.2.2.2.2.2.2
  have b7 : 0 ≤ A 7 ∧ A 7 ≤ 9999 := hb.1.2.1
  have b8 : 0 ≤ A 8 ∧ A 8 ≤ 30870 := hb.1.2.2.1
  have b9 : 0 ≤ A 9 ∧ A 9 ≤ 9999 := hb.1.2.2.2.1
  have b10 : 0 ≤ A 10 ∧ A 10 ≤ 1 := hb.1.2.2.2.2.1
  have b11 := BA_11 hb
  obtain ⟨k1, k2, k3⟩ := kp_b b3
  refine Call.of (by decide +kernel) (Nat.le_of_ble_eq_true rfl) ?_
  show WP _ _ _ _ _ 0 [(0, _)] [] 0 0 _ _ _
  refine x_aload_n dX12_keep_0 rfl ?_
  refine x_getR (b := 307) dX12_keep_1 gf_RX12_7 (k_ob_306 cs) (fun _ _ => rfl) (k_r_306_0 cs) ?_
  refine x_iconst dX12_keep_4 ?_
  refine x_ald7 (kk := 3) (v := A 3) dX12_keep_5 cs (by omega) (by omega) (by rw [hA]; repeat (first | rfl | rw [upA_s] | rw [upA_o (by omega)])) ?_
  refine x_bipush dX12_keep_6 (by decide) ?_
  refine x_icmp_ne 55 dX12_keep_8 (by decide) ⟨(by omega), (by omega)⟩ (fun w8 => ?_) (fun w8 => ?_)
  · refine lp4_keep (K := kpS A) cs hA (by omega) (by omega) (fun J3 a3 f3 => ?_)
    have hk := keep_eq (A := A) b3 (B := A) (by rw [if_neg (by omega)])
    exact hp _ (by rw [a3]; exact hk) f3
  · refine x_iconst dX12_keep_11 ?_
    refine x_istore_n (lv2 := [(1, _), (0, _)]) dX12_keep_12 (by decide) rfl ?_
    refine x_sub [1, 0] rfl ?_
    refine lp1_keep (B := A) cs (fun J1 a1 f1 => ?_) _ 0 _ (by omega) rfl (by rw [hA, mvA_0]) F7.rf
    refine x_aload_n dX12_keep_45 rfl ?_
    refine x_getR (b := 307) dX12_keep_46 gf_RX12_7 (k_ob_306 cs) (fun _ _ => rfl) (k_r_306_0 cs) ?_
    refine x_iconst dX12_keep_49 ?_
    refine x_dup2 dX12_keep_50 rfl rfl ?_
    refine x_ald7 (kk := 3) (v := 30) dX12_keep_51 cs (by omega) (by omega) (by rw [a1, mvA_at (by omega)]; omega) ?_
    refine x_iconst dX12_keep_52 ?_
    refine x_isub dX12_keep_53 ?_
    refine x_ast7 (kk := 3) dX12_keep_54 cs (by omega) (by omega) a1 (fun J2 a2 f2 => ?_)
    refine lp4_keep (K := 29) cs a2 (by rw [upA_s]; rfl) (by omega) (fun J3 a3 f3 => ?_)
    have hk := keep_eq (A := A) b3 (B := upA (mvA A 115 205 2610) 3 29) (by rw [if_pos (by omega)])
    rw [k2 (by omega)] at hk
    exact hp _ (by rw [a3]; exact hk) ((f1.tr f2).tr f3)
end Ref4
