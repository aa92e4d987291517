section Next2
variable {n mc ms : Nat} {M : Md} {pc : Nat} {lv : List (Nat × Value)} {st : List Value} {k j : Nat} {Post : PT} {S : Sh} {I : CI} {R : CR} {A : Nat → Int} {tx : Nat → Nat → Int}
theorem lp_nx3 {t : Nat → Int} {l s : Nat} (cs : CS S R) (hn : 2 ≤ n) (hT : TpR I t l) (hs : s ≤ l) (h7 : I 306 7 = (s : Int)) (hp : ∀ J, CuR J t l s → FcR I J → Post none S J R) : WP n 0 0 mX12_nextToken Post 39 [(0, .ref (S.2.1 306))] [] 0 0 S I R := by
  have l3 := hT.2.2.1
  have hb2 : l ≤ s ∨ (0 ≤ t s ∧ t s < 256) := by
    by_cases h : s < l
    · exact Or.inr (hT.2.2.2 s (by omega))
    · exact Or.inl (by omega)
  have j7 := h7
  refine x_aload_n dX12_nextToken_39 rfl ?_
  refine x_aload_n dX12_nextToken_40 rfl ?_
  refine x_getIv (z := (s : Int)) dX12_nextToken_41 gf_RX12_106 (k_ob_306 cs) (fun _ _ => rfl) (by first | exact j7 | (rw [uI_o (by omega)]; exact j7) | (rw [uI_o (by omega), uI_o (by omega)]; exact j7) | (rw [uI_s]; omega) | (rw [uI_o (by omega), uI_s]; omega)) ?_
  refine x_putI dX12_nextToken_44 gf_RX12_112 (k_ob_306 cs) rfl ?_
  refine x_aload_n dX12_nextToken_47 rfl ?_
  refine x_aload_n dX12_nextToken_48 rfl ?_
  refine x_getIv (z := (s : Int)) dX12_nextToken_49 gf_RX12_106 (k_ob_306 cs) (fun _ _ => rfl) (by first | exact j7 | (rw [uI_o (by omega)]; exact j7) | (rw [uI_o (by omega), uI_o (by omega)]; exact j7) | (rw [uI_s]; omega) | (rw [uI_o (by omega), uI_s]; omega)) ?_
  refine x_callV1 (mc1 := 0) (ms1 := 0) dX12_nextToken_52 cv_RX12_109 (ci := 12) (k_ob_306 cs) rfl (Nat.le_of_ble_eq_true rfl) (n1 := n - 1) (by omega) (by omega) (by omega) ?_
  refine sp_X12_byteAt (p := s) cs (TpR.f hT (FcR.rf.u (by omega))) (by omega) (fun r52 hr52 hg52 => ?_)
  refine x_istore_n (lv2 := [(1, _), (0, _)]) dX12_nextToken_55 (by decide) rfl ?_
  refine x_iload_n dX12_nextToken_56 rfl ?_
  refine x_if_ge 68 dX12_nextToken_57 (by decide) (by omega) (fun w57 => ?_) (fun w57 => ?_)
  · refine x_iload_n dX12_nextToken_68 rfl ?_
    refine x_callS1 (mc1 := 0) (ms1 := 0) dX12_nextToken_69 cv_RX12_118 (Nat.le_of_ble_eq_true rfl) (n1 := n - 1) (by omega) (by omega) (by omega) ?_
    refine sp_X12_isFigure (by omega) (fun r69 hr69 => ?_)
    refine x_if_eq 151 dX12_nextToken_72 (by decide) (by omega) (fun w72 => ?_) (fun w72 => ?_)
    · refine x_iload_n dX12_nextToken_151 rfl ?_
      refine x_callS1 (mc1 := 0) (ms1 := 0) dX12_nextToken_152 cv_RX12_125 (Nat.le_of_ble_eq_true rfl) (n1 := n - 1) (by omega) (by omega) (by omega) ?_
      refine sp_X12_isLetterByte (by omega) (fun r152 hr152 => ?_)
      refine x_if_eq 234 dX12_nextToken_155 (by decide) (by omega) (fun w155 => ?_) (fun w155 => ?_)
      · refine x_aload_n dX12_nextToken_234 rfl ?_
        refine x_iload_n dX12_nextToken_235 rfl ?_
        refine x_callS1 (mc1 := 0) (ms1 := 0) dX12_nextToken_236 cv_RX12_134 (Nat.le_of_ble_eq_true rfl) (n1 := n - 1) (by omega) (by omega) (by omega) ?_
        refine sp_X12_isSign (by omega) (fun r236 hr236 => ?_)
        refine x_if_eq 246 dX12_nextToken_239 (by decide) (by omega) (fun w239 => ?_) (fun w239 => ?_)
        · refine x_iconst dX12_nextToken_246 ?_
          refine x_putI dX12_nextToken_247 gf_RX12_115 (k_ob_306 cs) rfl ?_
          refine x_aload_n dX12_nextToken_250 rfl ?_
          refine x_dup dX12_nextToken_251 rfl ?_
          refine x_getIv (z := (s : Int)) dX12_nextToken_252 gf_RX12_106 (k_ob_306 cs) (fun _ _ => rfl) (by first | exact j7 | (rw [uI_o (by omega)]; exact j7) | (rw [uI_o (by omega), uI_o (by omega)]; exact j7) | (rw [uI_s]; omega) | (rw [uI_o (by omega), uI_s]; omega)) ?_
          refine x_iconst dX12_nextToken_255 ?_
          refine x_iadd dX12_nextToken_256 ?_
          refine x_putI dX12_nextToken_257 gf_RX12_106 (k_ob_306 cs) rfl ?_
          refine x_iload_n dX12_nextToken_260 rfl ?_
          refine x_bipush dX12_nextToken_261 (by decide) ?_
          refine x_icmp_eq 272 dX12_nextToken_263 (by decide) ⟨(by omega), (by omega)⟩ (fun w263 => ?_) (fun w263 => ?_)
          · refine x_aload_n dX12_nextToken_272 rfl ?_
            refine x_aload_n dX12_nextToken_273 rfl ?_
            refine x_getIv (z := ((s + 1 : Nat) : Int)) dX12_nextToken_274 gf_RX12_106 (k_ob_306 cs) (fun _ _ => rfl) (by first | exact j7 | (rw [uI_o (by omega)]; exact j7) | (rw [uI_o (by omega), uI_o (by omega)]; exact j7) | (rw [uI_s]; omega) | (rw [uI_o (by omega), uI_s]; omega)) ?_
            refine x_callV1 (mc1 := 0) (ms1 := 0) dX12_nextToken_277 cv_RX12_109 (ci := 12) (k_ob_306 cs) rfl (Nat.le_of_ble_eq_true rfl) (n1 := n - 1) (by omega) (by omega) (by omega) ?_
            refine sp_X12_byteAt (p := s + 1) cs (TpR.f hT (((FcR.rf.u (by omega)).u (by omega)).u (by omega))) (by omega) (fun r277 hr277 hg277 => ?_)
            refine x_bipush dX12_nextToken_280 (by decide) ?_
            refine x_icmp_ne 310 dX12_nextToken_282 (by decide) ⟨(by omega), (by omega)⟩ (fun w282 => ?_) (fun w282 => ?_)
            · first
              | (exfalso; omega)
              | (have hls : l ≤ s := by omega
                 exact x_return dX12_nextToken_310 rfl (by omega) (by omega) (hp _ ⟨by rw [show tkF t l s = (s, s, 0, 0) from if_pos hls, uI_o (by omega), uI_o (by omega)]; exact j7, by rw [uI_o (by omega), uI_s], fun h9 => by rw [uI_s], fun h9 h8 => by omega, fun h9 h8 => by omega, fun h9 h8 h7 => by omega⟩ ((FcR.rf.u (by omega)).u (by omega))))
              | (have hq : eqP t l s := ⟨by omega, by omega, by omega⟩
                 have et : tkF t l s = (if eqP t l s then s + 2 else s + 1, s, skK t l s, 0) := by
                   unfold tkF
                   rw [if_neg (by omega), if_neg (by omega), if_neg (by omega)]
                 refine x_return dX12_nextToken_310 rfl (by omega) (by omega) (hp _ ⟨?_, ?_, fun h9 => by omega, fun h9 h8 => by omega, fun h9 h8 => by omega, fun h9 h8 h7 => ?_⟩ (((((FcR.rf.u (by omega)).u (by omega)).u (by omega)).u (by omega)).u (by omega)))
                 · rw [uI_s, et]; show _ = (((if eqP t l s then s + 2 else s + 1 : Nat)) : Int); rw [if_pos hq]; (first | done | omega)
                 · (repeat rw [uI_o (by omega)]); rw [uI_s]
                 · unfold snR
                   rw [if_pos hq, uI_o (by omega), uI_s]
                   first | (rw [if_pos (by omega)]; done) | (rw [if_pos (by omega)]; omega) | (rw [if_neg (by omega)]; done))
              | (have hq : ¬ eqP t l s := fun h9 => by obtain ⟨v1, v2, v3⟩ := h9; omega
                 have et : tkF t l s = (if eqP t l s then s + 2 else s + 1, s, skK t l s, 0) := by
                   unfold tkF
                   rw [if_neg (by omega), if_neg (by omega), if_neg (by omega)]
                 refine x_return dX12_nextToken_310 rfl (by omega) (by omega) (hp _ ⟨?_, ?_, fun h9 => by omega, fun h9 h8 => by omega, fun h9 h8 => by omega, fun h9 h8 h7 => ?_⟩ (((FcR.rf.u (by omega)).u (by omega)).u (by omega)))
                 · rw [uI_s, et]; show _ = (((if eqP t l s then s + 2 else s + 1 : Nat)) : Int); rw [if_neg hq]; (first | done | omega)
                 · (repeat rw [uI_o (by omega)]); rw [uI_s]
                 · unfold snR
                   rw [if_neg hq, uI_o (by omega), uI_s]
                   first | (rw [if_pos (by omega)]; done) | (rw [if_pos (by omega)]; omega) | (rw [if_neg (by omega)]; done))
            · refine x_aload_n dX12_nextToken_285 rfl ?_
              refine x_iload_n dX12_nextToken_286 rfl ?_
              refine x_bipush dX12_nextToken_287 (by decide) ?_
              refine x_icmp_ne 296 dX12_nextToken_289 (by decide) ⟨(by omega), (by omega)⟩ (fun w289 => ?_) (fun w289 => ?_)
              · refine x_iconst dX12_nextToken_296 ?_
                refine x_putI dX12_nextToken_297 gf_RX12_115 (k_ob_306 cs) rfl ?_
                refine x_aload_n dX12_nextToken_300 rfl ?_
                refine x_dup dX12_nextToken_301 rfl ?_
                refine x_getIv (z := ((s + 1 : Nat) : Int)) dX12_nextToken_302 gf_RX12_106 (k_ob_306 cs) (fun _ _ => rfl) (by first | exact j7 | (rw [uI_o (by omega)]; exact j7) | (rw [uI_o (by omega), uI_o (by omega)]; exact j7) | (rw [uI_s]; omega) | (rw [uI_o (by omega), uI_s]; omega)) ?_
                refine x_iconst dX12_nextToken_305 ?_
                refine x_iadd dX12_nextToken_306 ?_
                refine x_putI dX12_nextToken_307 gf_RX12_106 (k_ob_306 cs) rfl ?_
                first
                | (exfalso; omega)
                | (have hls : l ≤ s := by omega
                   exact x_return dX12_nextToken_310 rfl (by omega) (by omega) (hp _ ⟨by rw [show tkF t l s = (s, s, 0, 0) from if_pos hls, uI_o (by omega), uI_o (by omega)]; exact j7, by rw [uI_o (by omega), uI_s], fun h9 => by rw [uI_s], fun h9 h8 => by omega, fun h9 h8 => by omega, fun h9 h8 h7 => by omega⟩ ((FcR.rf.u (by omega)).u (by omega))))
                | (have hq : eqP t l s := ⟨by omega, by omega, by omega⟩
                   have et : tkF t l s = (if eqP t l s then s + 2 else s + 1, s, skK t l s, 0) := by
                     unfold tkF
                     rw [if_neg (by omega), if_neg (by omega), if_neg (by omega)]
                   refine x_return dX12_nextToken_310 rfl (by omega) (by omega) (hp _ ⟨?_, ?_, fun h9 => by omega, fun h9 h8 => by omega, fun h9 h8 => by omega, fun h9 h8 h7 => ?_⟩ (((((FcR.rf.u (by omega)).u (by omega)).u (by omega)).u (by omega)).u (by omega)))
                   · rw [uI_s, et]; show _ = (((if eqP t l s then s + 2 else s + 1 : Nat)) : Int); rw [if_pos hq]; (first | done | omega)
                   · (repeat rw [uI_o (by omega)]); rw [uI_s]
                   · unfold snR
                     rw [if_pos hq, uI_o (by omega), uI_s]
                     first | (rw [if_pos (by omega)]; done) | (rw [if_pos (by omega)]; omega) | (rw [if_neg (by omega)]; done))
                | (have hq : ¬ eqP t l s := fun h9 => by obtain ⟨v1, v2, v3⟩ := h9; omega
                   have et : tkF t l s = (if eqP t l s then s + 2 else s + 1, s, skK t l s, 0) := by
                     unfold tkF
                     rw [if_neg (by omega), if_neg (by omega), if_neg (by omega)]
                   refine x_return dX12_nextToken_310 rfl (by omega) (by omega) (hp _ ⟨?_, ?_, fun h9 => by omega, fun h9 h8 => by omega, fun h9 h8 => by omega, fun h9 h8 h7 => ?_⟩ (((FcR.rf.u (by omega)).u (by omega)).u (by omega)))
                   · rw [uI_s, et]; show _ = (((if eqP t l s then s + 2 else s + 1 : Nat)) : Int); rw [if_neg hq]; (first | done | omega)
                   · (repeat rw [uI_o (by omega)]); rw [uI_s]
                   · unfold snR
                     rw [if_neg hq, uI_o (by omega), uI_s]
                     first | (rw [if_pos (by omega)]; done) | (rw [if_pos (by omega)]; omega) | (rw [if_neg (by omega)]; done))
              · refine x_iconst dX12_nextToken_292 ?_
                refine x_goto 297 dX12_nextToken_293 (by decide) ?_
                refine x_putI dX12_nextToken_297 gf_RX12_115 (k_ob_306 cs) rfl ?_
                refine x_aload_n dX12_nextToken_300 rfl ?_
                refine x_dup dX12_nextToken_301 rfl ?_
                refine x_getIv (z := ((s + 1 : Nat) : Int)) dX12_nextToken_302 gf_RX12_106 (k_ob_306 cs) (fun _ _ => rfl) (by first | exact j7 | (rw [uI_o (by omega)]; exact j7) | (rw [uI_o (by omega), uI_o (by omega)]; exact j7) | (rw [uI_s]; omega) | (rw [uI_o (by omega), uI_s]; omega)) ?_
                refine x_iconst dX12_nextToken_305 ?_
                refine x_iadd dX12_nextToken_306 ?_
                refine x_putI dX12_nextToken_307 gf_RX12_106 (k_ob_306 cs) rfl ?_
                first
                | (exfalso; omega)
                | (have hls : l ≤ s := by omega
                   exact x_return dX12_nextToken_310 rfl (by omega) (by omega) (hp _ ⟨by rw [show tkF t l s = (s, s, 0, 0) from if_pos hls, uI_o (by omega), uI_o (by omega)]; exact j7, by rw [uI_o (by omega), uI_s], fun h9 => by rw [uI_s], fun h9 h8 => by omega, fun h9 h8 => by omega, fun h9 h8 h7 => by omega⟩ ((FcR.rf.u (by omega)).u (by omega))))
                | (have hq : eqP t l s := ⟨by omega, by omega, by omega⟩
                   have et : tkF t l s = (if eqP t l s then s + 2 else s + 1, s, skK t l s, 0) := by
                     unfold tkF
                     rw [if_neg (by omega), if_neg (by omega), if_neg (by omega)]
                   refine x_return dX12_nextToken_310 rfl (by omega) (by omega) (hp _ ⟨?_, ?_, fun h9 => by omega, fun h9 h8 => by omega, fun h9 h8 => by omega, fun h9 h8 h7 => ?_⟩ (((((FcR.rf.u (by omega)).u (by omega)).u (by omega)).u (by omega)).u (by omega)))
                   · rw [uI_s, et]; show _ = (((if eqP t l s then s + 2 else s + 1 : Nat)) : Int); rw [if_pos hq]; (first | done | omega)
                   · (repeat rw [uI_o (by omega)]); rw [uI_s]
                   · unfold snR
                     rw [if_pos hq, uI_o (by omega), uI_s]
                     first | (rw [if_pos (by omega)]; done) | (rw [if_pos (by omega)]; omega) | (rw [if_neg (by omega)]; done))
                | (have hq : ¬ eqP t l s := fun h9 => by obtain ⟨v1, v2, v3⟩ := h9; omega
                   have et : tkF t l s = (if eqP t l s then s + 2 else s + 1, s, skK t l s, 0) := by
                     unfold tkF
                     rw [if_neg (by omega), if_neg (by omega), if_neg (by omega)]
                   refine x_return dX12_nextToken_310 rfl (by omega) (by omega) (hp _ ⟨?_, ?_, fun h9 => by omega, fun h9 h8 => by omega, fun h9 h8 => by omega, fun h9 h8 h7 => ?_⟩ (((FcR.rf.u (by omega)).u (by omega)).u (by omega)))
                   · rw [uI_s, et]; show _ = (((if eqP t l s then s + 2 else s + 1 : Nat)) : Int); rw [if_neg hq]; (first | done | omega)
                   · (repeat rw [uI_o (by omega)]); rw [uI_s]
                   · unfold snR
                     rw [if_neg hq, uI_o (by omega), uI_s]
                     first | (rw [if_pos (by omega)]; done) | (rw [if_pos (by omega)]; omega) | (rw [if_neg (by omega)]; done))
          · refine x_iload_n dX12_nextToken_266 rfl ?_
            refine x_bipush dX12_nextToken_267 (by decide) ?_
            refine x_icmp_ne 310 dX12_nextToken_269 (by decide) ⟨(by omega), (by omega)⟩ (fun w269 => ?_) (fun w269 => ?_)
            · first
              | (exfalso; omega)
              | (have hls : l ≤ s := by omega
                 exact x_return dX12_nextToken_310 rfl (by omega) (by omega) (hp _ ⟨by rw [show tkF t l s = (s, s, 0, 0) from if_pos hls, uI_o (by omega), uI_o (by omega)]; exact j7, by rw [uI_o (by omega), uI_s], fun h9 => by rw [uI_s], fun h9 h8 => by omega, fun h9 h8 => by omega, fun h9 h8 h7 => by omega⟩ ((FcR.rf.u (by omega)).u (by omega))))
              | (have hq : eqP t l s := ⟨by omega, by omega, by omega⟩
                 have et : tkF t l s = (if eqP t l s then s + 2 else s + 1, s, skK t l s, 0) := by
                   unfold tkF
                   rw [if_neg (by omega), if_neg (by omega), if_neg (by omega)]
                 refine x_return dX12_nextToken_310 rfl (by omega) (by omega) (hp _ ⟨?_, ?_, fun h9 => by omega, fun h9 h8 => by omega, fun h9 h8 => by omega, fun h9 h8 h7 => ?_⟩ (((((FcR.rf.u (by omega)).u (by omega)).u (by omega)).u (by omega)).u (by omega)))
                 · rw [uI_s, et]; show _ = (((if eqP t l s then s + 2 else s + 1 : Nat)) : Int); rw [if_pos hq]; (first | done | omega)
                 · (repeat rw [uI_o (by omega)]); rw [uI_s]
                 · unfold snR
                   rw [if_pos hq, uI_o (by omega), uI_s]
                   first | (rw [if_pos (by omega)]; done) | (rw [if_pos (by omega)]; omega) | (rw [if_neg (by omega)]; done))
              | (have hq : ¬ eqP t l s := fun h9 => by obtain ⟨v1, v2, v3⟩ := h9; omega
                 have et : tkF t l s = (if eqP t l s then s + 2 else s + 1, s, skK t l s, 0) := by
                   unfold tkF
                   rw [if_neg (by omega), if_neg (by omega), if_neg (by omega)]
                 refine x_return dX12_nextToken_310 rfl (by omega) (by omega) (hp _ ⟨?_, ?_, fun h9 => by omega, fun h9 h8 => by omega, fun h9 h8 => by omega, fun h9 h8 h7 => ?_⟩ (((FcR.rf.u (by omega)).u (by omega)).u (by omega)))
                 · rw [uI_s, et]; show _ = (((if eqP t l s then s + 2 else s + 1 : Nat)) : Int); rw [if_neg hq]; (first | done | omega)
                 · (repeat rw [uI_o (by omega)]); rw [uI_s]
                 · unfold snR
                   rw [if_neg hq, uI_o (by omega), uI_s]
                   first | (rw [if_pos (by omega)]; done) | (rw [if_pos (by omega)]; omega) | (rw [if_neg (by omega)]; done))
            · refine x_aload_n dX12_nextToken_272 rfl ?_
              refine x_aload_n dX12_nextToken_273 rfl ?_
              refine x_getIv (z := ((s + 1 : Nat) : Int)) dX12_nextToken_274 gf_RX12_106 (k_ob_306 cs) (fun _ _ => rfl) (by first | exact j7 | (rw [uI_o (by omega)]; exact j7) | (rw [uI_o (by omega), uI_o (by omega)]; exact j7) | (rw [uI_s]; omega) | (rw [uI_o (by omega), uI_s]; omega)) ?_
              refine x_callV1 (mc1 := 0) (ms1 := 0) dX12_nextToken_277 cv_RX12_109 (ci := 12) (k_ob_306 cs) rfl (Nat.le_of_ble_eq_true rfl) (n1 := n - 1) (by omega) (by omega) (by omega) ?_
              refine sp_X12_byteAt (p := s + 1) cs (TpR.f hT (((FcR.rf.u (by omega)).u (by omega)).u (by omega))) (by omega) (fun r277 hr277 hg277 => ?_)
              refine x_bipush dX12_nextToken_280 (by decide) ?_
              refine x_icmp_ne 310 dX12_nextToken_282 (by decide) ⟨(by omega), (by omega)⟩ (fun w282 => ?_) (fun w282 => ?_)
              · first
                | (exfalso; omega)
                | (have hls : l ≤ s := by omega
                   exact x_return dX12_nextToken_310 rfl (by omega) (by omega) (hp _ ⟨by rw [show tkF t l s = (s, s, 0, 0) from if_pos hls, uI_o (by omega), uI_o (by omega)]; exact j7, by rw [uI_o (by omega), uI_s], fun h9 => by rw [uI_s], fun h9 h8 => by omega, fun h9 h8 => by omega, fun h9 h8 h7 => by omega⟩ ((FcR.rf.u (by omega)).u (by omega))))
                | (have hq : eqP t l s := ⟨by omega, by omega, by omega⟩
                   have et : tkF t l s = (if eqP t l s then s + 2 else s + 1, s, skK t l s, 0) := by
                     unfold tkF
                     rw [if_neg (by omega), if_neg (by omega), if_neg (by omega)]
                   refine x_return dX12_nextToken_310 rfl (by omega) (by omega) (hp _ ⟨?_, ?_, fun h9 => by omega, fun h9 h8 => by omega, fun h9 h8 => by omega, fun h9 h8 h7 => ?_⟩ (((((FcR.rf.u (by omega)).u (by omega)).u (by omega)).u (by omega)).u (by omega)))
                   · rw [uI_s, et]; show _ = (((if eqP t l s then s + 2 else s + 1 : Nat)) : Int); rw [if_pos hq]; (first | done | omega)
                   · (repeat rw [uI_o (by omega)]); rw [uI_s]
                   · unfold snR
                     rw [if_pos hq, uI_o (by omega), uI_s]
                     first | (rw [if_pos (by omega)]; done) | (rw [if_pos (by omega)]; omega) | (rw [if_neg (by omega)]; done))
                | (have hq : ¬ eqP t l s := fun h9 => by obtain ⟨v1, v2, v3⟩ := h9; omega
                   have et : tkF t l s = (if eqP t l s then s + 2 else s + 1, s, skK t l s, 0) := by
                     unfold tkF
                     rw [if_neg (by omega), if_neg (by omega), if_neg (by omega)]
                   refine x_return dX12_nextToken_310 rfl (by omega) (by omega) (hp _ ⟨?_, ?_, fun h9 => by omega, fun h9 h8 => by omega, fun h9 h8 => by omega, fun h9 h8 h7 => ?_⟩ (((FcR.rf.u (by omega)).u (by omega)).u (by omega)))
                   · rw [uI_s, et]; show _ = (((if eqP t l s then s + 2 else s + 1 : Nat)) : Int); rw [if_neg hq]; (first | done | omega)
                   · (repeat rw [uI_o (by omega)]); rw [uI_s]
                   · unfold snR
                     rw [if_neg hq, uI_o (by omega), uI_s]
                     first | (rw [if_pos (by omega)]; done) | (rw [if_pos (by omega)]; omega) | (rw [if_neg (by omega)]; done))
              · refine x_aload_n dX12_nextToken_285 rfl ?_
                refine x_iload_n dX12_nextToken_286 rfl ?_
                refine x_bipush dX12_nextToken_287 (by decide) ?_
                refine x_icmp_ne 296 dX12_nextToken_289 (by decide) ⟨(by omega), (by omega)⟩ (fun w289 => ?_) (fun w289 => ?_)
                · refine x_iconst dX12_nextToken_296 ?_
                  refine x_putI dX12_nextToken_297 gf_RX12_115 (k_ob_306 cs) rfl ?_
                  refine x_aload_n dX12_nextToken_300 rfl ?_
                  refine x_dup dX12_nextToken_301 rfl ?_
                  refine x_getIv (z := ((s + 1 : Nat) : Int)) dX12_nextToken_302 gf_RX12_106 (k_ob_306 cs) (fun _ _ => rfl) (by first | exact j7 | (rw [uI_o (by omega)]; exact j7) | (rw [uI_o (by omega), uI_o (by omega)]; exact j7) | (rw [uI_s]; omega) | (rw [uI_o (by omega), uI_s]; omega)) ?_
                  refine x_iconst dX12_nextToken_305 ?_
                  refine x_iadd dX12_nextToken_306 ?_
                  refine x_putI dX12_nextToken_307 gf_RX12_106 (k_ob_306 cs) rfl ?_
                  first
                  | (exfalso; omega)
                  | (have hls : l ≤ s := by omega
                     exact x_return dX12_nextToken_310 rfl (by omega) (by omega) (hp _ ⟨by rw [show tkF t l s = (s, s, 0, 0) from if_pos hls, uI_o (by omega), uI_o (by omega)]; exact j7, by rw [uI_o (by omega), uI_s], fun h9 => by rw [uI_s], fun h9 h8 => by omega, fun h9 h8 => by omega, fun h9 h8 h7 => by omega⟩ ((FcR.rf.u (by omega)).u (by omega))))
                  | (have hq : eqP t l s := ⟨by omega, by omega, by omega⟩
                     have et : tkF t l s = (if eqP t l s then s + 2 else s + 1, s, skK t l s, 0) := by
                       unfold tkF
                       rw [if_neg (by omega), if_neg (by omega), if_neg (by omega)]
                     refine x_return dX12_nextToken_310 rfl (by omega) (by omega) (hp _ ⟨?_, ?_, fun h9 => by omega, fun h9 h8 => by omega, fun h9 h8 => by omega, fun h9 h8 h7 => ?_⟩ (((((FcR.rf.u (by omega)).u (by omega)).u (by omega)).u (by omega)).u (by omega)))
                     · rw [uI_s, et]; show _ = (((if eqP t l s then s + 2 else s + 1 : Nat)) : Int); rw [if_pos hq]; (first | done | omega)
                     · (repeat rw [uI_o (by omega)]); rw [uI_s]
                     · unfold snR
                       rw [if_pos hq, uI_o (by omega), uI_s]
                       first | (rw [if_pos (by omega)]; done) | (rw [if_pos (by omega)]; omega) | (rw [if_neg (by omega)]; done))
                  | (have hq : ¬ eqP t l s := fun h9 => by obtain ⟨v1, v2, v3⟩ := h9; omega
                     have et : tkF t l s = (if eqP t l s then s + 2 else s + 1, s, skK t l s, 0) := by
                       unfold tkF
                       rw [if_neg (by omega), if_neg (by omega), if_neg (by omega)]
                     refine x_return dX12_nextToken_310 rfl (by omega) (by omega) (hp _ ⟨?_, ?_, fun h9 => by omega, fun h9 h8 => by omega, fun h9 h8 => by omega, fun h9 h8 h7 => ?_⟩ (((FcR.rf.u (by omega)).u (by omega)).u (by omega)))
                     · rw [uI_s, et]; show _ = (((if eqP t l s then s + 2 else s + 1 : Nat)) : Int); rw [if_neg hq]; (first | done | omega)
                     · (repeat rw [uI_o (by omega)]); rw [uI_s]
                     · unfold snR
                       rw [if_neg hq, uI_o (by omega), uI_s]
                       first | (rw [if_pos (by omega)]; done) | (rw [if_pos (by omega)]; omega) | (rw [if_neg (by omega)]; done))
                · refine x_iconst dX12_nextToken_292 ?_
                  refine x_goto 297 dX12_nextToken_293 (by decide) ?_
                  refine x_putI dX12_nextToken_297 gf_RX12_115 (k_ob_306 cs) rfl ?_
                  refine x_aload_n dX12_nextToken_300 rfl ?_
                  refine x_dup dX12_nextToken_301 rfl ?_
                  refine x_getIv (z := ((s + 1 : Nat) : Int)) dX12_nextToken_302 gf_RX12_106 (k_ob_306 cs) (fun _ _ => rfl) (by first | exact j7 | (rw [uI_o (by omega)]; exact j7) | (rw [uI_o (by omega), uI_o (by omega)]; exact j7) | (rw [uI_s]; omega) | (rw [uI_o (by omega), uI_s]; omega)) ?_
                  refine x_iconst dX12_nextToken_305 ?_
                  refine x_iadd dX12_nextToken_306 ?_
                  refine x_putI dX12_nextToken_307 gf_RX12_106 (k_ob_306 cs) rfl ?_
                  first
                  | (exfalso; omega)
                  | (have hls : l ≤ s := by omega
                     exact x_return dX12_nextToken_310 rfl (by omega) (by omega) (hp _ ⟨by rw [show tkF t l s = (s, s, 0, 0) from if_pos hls, uI_o (by omega), uI_o (by omega)]; exact j7, by rw [uI_o (by omega), uI_s], fun h9 => by rw [uI_s], fun h9 h8 => by omega, fun h9 h8 => by omega, fun h9 h8 h7 => by omega⟩ ((FcR.rf.u (by omega)).u (by omega))))
                  | (have hq : eqP t l s := ⟨by omega, by omega, by omega⟩
                     have et : tkF t l s = (if eqP t l s then s + 2 else s + 1, s, skK t l s, 0) := by
                       unfold tkF
                       rw [if_neg (by omega), if_neg (by omega), if_neg (by omega)]
                     refine x_return dX12_nextToken_310 rfl (by omega) (by omega) (hp _ ⟨?_, ?_, fun h9 => by omega, fun h9 h8 => by omega, fun h9 h8 => by omega, fun h9 h8 h7 => ?_⟩ (((((FcR.rf.u (by omega)).u (by omega)).u (by omega)).u (by omega)).u (by omega)))
                     · rw [uI_s, et]; show _ = (((if eqP t l s then s + 2 else s + 1 : Nat)) : Int); rw [if_pos hq]; (first | done | omega)
                     · (repeat rw [uI_o (by omega)]); rw [uI_s]
                     · unfold snR
                       rw [if_pos hq, uI_o (by omega), uI_s]
                       first | (rw [if_pos (by omega)]; done) | (rw [if_pos (by omega)]; omega) | (rw [if_neg (by omega)]; done))
                  | (have hq : ¬ eqP t l s := fun h9 => by obtain ⟨v1, v2, v3⟩ := h9; omega
                     have et : tkF t l s = (if eqP t l s then s + 2 else s + 1, s, skK t l s, 0) := by
                       unfold tkF
                       rw [if_neg (by omega), if_neg (by omega), if_neg (by omega)]
                     refine x_return dX12_nextToken_310 rfl (by omega) (by omega) (hp _ ⟨?_, ?_, fun h9 => by omega, fun h9 h8 => by omega, fun h9 h8 => by omega, fun h9 h8 h7 => ?_⟩ (((FcR.rf.u (by omega)).u (by omega)).u (by omega)))
                     · rw [uI_s, et]; show _ = (((if eqP t l s then s + 2 else s + 1 : Nat)) : Int); rw [if_neg hq]; (first | done | omega)
                     · (repeat rw [uI_o (by omega)]); rw [uI_s]
                     · unfold snR
                       rw [if_neg hq, uI_o (by omega), uI_s]
                       first | (rw [if_pos (by omega)]; done) | (rw [if_pos (by omega)]; omega) | (rw [if_neg (by omega)]; done))
        · refine x_iload_n dX12_nextToken_242 rfl ?_
          refine x_goto 247 dX12_nextToken_243 (by decide) ?_
          refine x_putI dX12_nextToken_247 gf_RX12_115 (k_ob_306 cs) rfl ?_
          refine x_aload_n dX12_nextToken_250 rfl ?_
          refine x_dup dX12_nextToken_251 rfl ?_
          refine x_getIv (z := (s : Int)) dX12_nextToken_252 gf_RX12_106 (k_ob_306 cs) (fun _ _ => rfl) (by first | exact j7 | (rw [uI_o (by omega)]; exact j7) | (rw [uI_o (by omega), uI_o (by omega)]; exact j7) | (rw [uI_s]; omega) | (rw [uI_o (by omega), uI_s]; omega)) ?_
          refine x_iconst dX12_nextToken_255 ?_
          refine x_iadd dX12_nextToken_256 ?_
          refine x_putI dX12_nextToken_257 gf_RX12_106 (k_ob_306 cs) rfl ?_
          refine x_iload_n dX12_nextToken_260 rfl ?_
          refine x_bipush dX12_nextToken_261 (by decide) ?_
          refine x_icmp_eq 272 dX12_nextToken_263 (by decide) ⟨(by omega), (by omega)⟩ (fun w263 => ?_) (fun w263 => ?_)
          · refine x_aload_n dX12_nextToken_272 rfl ?_
            refine x_aload_n dX12_nextToken_273 rfl ?_
            refine x_getIv (z := ((s + 1 : Nat) : Int)) dX12_nextToken_274 gf_RX12_106 (k_ob_306 cs) (fun _ _ => rfl) (by first | exact j7 | (rw [uI_o (by omega)]; exact j7) | (rw [uI_o (by omega), uI_o (by omega)]; exact j7) | (rw [uI_s]; omega) | (rw [uI_o (by omega), uI_s]; omega)) ?_
            refine x_callV1 (mc1 := 0) (ms1 := 0) dX12_nextToken_277 cv_RX12_109 (ci := 12) (k_ob_306 cs) rfl (Nat.le_of_ble_eq_true rfl) (n1 := n - 1) (by omega) (by omega) (by omega) ?_
            refine sp_X12_byteAt (p := s + 1) cs (TpR.f hT (((FcR.rf.u (by omega)).u (by omega)).u (by omega))) (by omega) (fun r277 hr277 hg277 => ?_)
            refine x_bipush dX12_nextToken_280 (by decide) ?_
            refine x_icmp_ne 310 dX12_nextToken_282 (by decide) ⟨(by omega), (by omega)⟩ (fun w282 => ?_) (fun w282 => ?_)
            · first
              | (exfalso; omega)
              | (have hls : l ≤ s := by omega
                 exact x_return dX12_nextToken_310 rfl (by omega) (by omega) (hp _ ⟨by rw [show tkF t l s = (s, s, 0, 0) from if_pos hls, uI_o (by omega), uI_o (by omega)]; exact j7, by rw [uI_o (by omega), uI_s], fun h9 => by rw [uI_s], fun h9 h8 => by omega, fun h9 h8 => by omega, fun h9 h8 h7 => by omega⟩ ((FcR.rf.u (by omega)).u (by omega))))
              | (have hq : eqP t l s := ⟨by omega, by omega, by omega⟩
                 have et : tkF t l s = (if eqP t l s then s + 2 else s + 1, s, skK t l s, 0) := by
                   unfold tkF
                   rw [if_neg (by omega), if_neg (by omega), if_neg (by omega)]
                 refine x_return dX12_nextToken_310 rfl (by omega) (by omega) (hp _ ⟨?_, ?_, fun h9 => by omega, fun h9 h8 => by omega, fun h9 h8 => by omega, fun h9 h8 h7 => ?_⟩ (((((FcR.rf.u (by omega)).u (by omega)).u (by omega)).u (by omega)).u (by omega)))
                 · rw [uI_s, et]; show _ = (((if eqP t l s then s + 2 else s + 1 : Nat)) : Int); rw [if_pos hq]; (first | done | omega)
                 · (repeat rw [uI_o (by omega)]); rw [uI_s]
                 · unfold snR
                   rw [if_pos hq, uI_o (by omega), uI_s]
                   first | (rw [if_pos (by omega)]; done) | (rw [if_pos (by omega)]; omega) | (rw [if_neg (by omega)]; done))
              | (have hq : ¬ eqP t l s := fun h9 => by obtain ⟨v1, v2, v3⟩ := h9; omega
                 have et : tkF t l s = (if eqP t l s then s + 2 else s + 1, s, skK t l s, 0) := by
                   unfold tkF
                   rw [if_neg (by omega), if_neg (by omega), if_neg (by omega)]
                 refine x_return dX12_nextToken_310 rfl (by omega) (by omega) (hp _ ⟨?_, ?_, fun h9 => by omega, fun h9 h8 => by omega, fun h9 h8 => by omega, fun h9 h8 h7 => ?_⟩ (((FcR.rf.u (by omega)).u (by omega)).u (by omega)))
                 · rw [uI_s, et]; show _ = (((if eqP t l s then s + 2 else s + 1 : Nat)) : Int); rw [if_neg hq]; (first | done | omega)
                 · (repeat rw [uI_o (by omega)]); rw [uI_s]
                 · unfold snR
                   rw [if_neg hq, uI_o (by omega), uI_s]
                   first | (rw [if_pos (by omega)]; done) | (rw [if_pos (by omega)]; omega) | (rw [if_neg (by omega)]; done))
            · refine x_aload_n dX12_nextToken_285 rfl ?_
              refine x_iload_n dX12_nextToken_286 rfl ?_
              refine x_bipush dX12_nextToken_287 (by decide) ?_
              refine x_icmp_ne 296 dX12_nextToken_289 (by decide) ⟨(by omega), (by omega)⟩ (fun w289 => ?_) (fun w289 => ?_)
              · refine x_iconst dX12_nextToken_296 ?_
                refine x_putI dX12_nextToken_297 gf_RX12_115 (k_ob_306 cs) rfl ?_
                refine x_aload_n dX12_nextToken_300 rfl ?_
                refine x_dup dX12_nextToken_301 rfl ?_
                refine x_getIv (z := ((s + 1 : Nat) : Int)) dX12_nextToken_302 gf_RX12_106 (k_ob_306 cs) (fun _ _ => rfl) (by first | exact j7 | (rw [uI_o (by omega)]; exact j7) | (rw [uI_o (by omega), uI_o (by omega)]; exact j7) | (rw [uI_s]; omega) | (rw [uI_o (by omega), uI_s]; omega)) ?_
                refine x_iconst dX12_nextToken_305 ?_
                refine x_iadd dX12_nextToken_306 ?_
                refine x_putI dX12_nextToken_307 gf_RX12_106 (k_ob_306 cs) rfl ?_
                first
                | (exfalso; omega)
                | (have hls : l ≤ s := by omega
                   exact x_return dX12_nextToken_310 rfl (by omega) (by omega) (hp _ ⟨by rw [show tkF t l s = (s, s, 0, 0) from if_pos hls, uI_o (by omega), uI_o (by omega)]; exact j7, by rw [uI_o (by omega), uI_s], fun h9 => by rw [uI_s], fun h9 h8 => by omega, fun h9 h8 => by omega, fun h9 h8 h7 => by omega⟩ ((FcR.rf.u (by omega)).u (by omega))))
                | (have hq : eqP t l s := ⟨by omega, by omega, by omega⟩
                   have et : tkF t l s = (if eqP t l s then s + 2 else s + 1, s, skK t l s, 0) := by
                     unfold tkF
                     rw [if_neg (by omega), if_neg (by omega), if_neg (by omega)]
                   refine x_return dX12_nextToken_310 rfl (by omega) (by omega) (hp _ ⟨?_, ?_, fun h9 => by omega, fun h9 h8 => by omega, fun h9 h8 => by omega, fun h9 h8 h7 => ?_⟩ (((((FcR.rf.u (by omega)).u (by omega)).u (by omega)).u (by omega)).u (by omega)))
                   · rw [uI_s, et]; show _ = (((if eqP t l s then s + 2 else s + 1 : Nat)) : Int); rw [if_pos hq]; (first | done | omega)
                   · (repeat rw [uI_o (by omega)]); rw [uI_s]
                   · unfold snR
                     rw [if_pos hq, uI_o (by omega), uI_s]
                     first | (rw [if_pos (by omega)]; done) | (rw [if_pos (by omega)]; omega) | (rw [if_neg (by omega)]; done))
                | (have hq : ¬ eqP t l s := fun h9 => by obtain ⟨v1, v2, v3⟩ := h9; omega
                   have et : tkF t l s = (if eqP t l s then s + 2 else s + 1, s, skK t l s, 0) := by
                     unfold tkF
                     rw [if_neg (by omega), if_neg (by omega), if_neg (by omega)]
                   refine x_return dX12_nextToken_310 rfl (by omega) (by omega) (hp _ ⟨?_, ?_, fun h9 => by omega, fun h9 h8 => by omega, fun h9 h8 => by omega, fun h9 h8 h7 => ?_⟩ (((FcR.rf.u (by omega)).u (by omega)).u (by omega)))
                   · rw [uI_s, et]; show _ = (((if eqP t l s then s + 2 else s + 1 : Nat)) : Int); rw [if_neg hq]; (first | done | omega)
                   · (repeat rw [uI_o (by omega)]); rw [uI_s]
                   · unfold snR
                     rw [if_neg hq, uI_o (by omega), uI_s]
                     first | (rw [if_pos (by omega)]; done) | (rw [if_pos (by omega)]; omega) | (rw [if_neg (by omega)]; done))
              · refine x_iconst dX12_nextToken_292 ?_
                refine x_goto 297 dX12_nextToken_293 (by decide) ?_
                refine x_putI dX12_nextToken_297 gf_RX12_115 (k_ob_306 cs) rfl ?_
                refine x_aload_n dX12_nextToken_300 rfl ?_
                refine x_dup dX12_nextToken_301 rfl ?_
                refine x_getIv (z := ((s + 1 : Nat) : Int)) dX12_nextToken_302 gf_RX12_106 (k_ob_306 cs) (fun _ _ => rfl) (by first | exact j7 | (rw [uI_o (by omega)]; exact j7) | (rw [uI_o (by omega), uI_o (by omega)]; exact j7) | (rw [uI_s]; omega) | (rw [uI_o (by omega), uI_s]; omega)) ?_
                refine x_iconst dX12_nextToken_305 ?_
                refine x_iadd dX12_nextToken_306 ?_
                refine x_putI dX12_nextToken_307 gf_RX12_106 (k_ob_306 cs) rfl ?_
                first
                | (exfalso; omega)
                | (have hls : l ≤ s := by omega
                   exact x_return dX12_nextToken_310 rfl (by omega) (by omega) (hp _ ⟨by rw [show tkF t l s = (s, s, 0, 0) from if_pos hls, uI_o (by omega), uI_o (by omega)]; exact j7, by rw [uI_o (by omega), uI_s], fun h9 => by rw [uI_s], fun h9 h8 => by omega, fun h9 h8 => by omega, fun h9 h8 h7 => by omega⟩ ((FcR.rf.u (by omega)).u (by omega))))
                | (have hq : eqP t l s := ⟨by omega, by omega, by omega⟩
                   have et : tkF t l s = (if eqP t l s then s + 2 else s + 1, s, skK t l s, 0) := by
                     unfold tkF
                     rw [if_neg (by omega), if_neg (by omega), if_neg (by omega)]
                   refine x_return dX12_nextToken_310 rfl (by omega) (by omega) (hp _ ⟨?_, ?_, fun h9 => by omega, fun h9 h8 => by omega, fun h9 h8 => by omega, fun h9 h8 h7 => ?_⟩ (((((FcR.rf.u (by omega)).u (by omega)).u (by omega)).u (by omega)).u (by omega)))
                   · rw [uI_s, et]; show _ = (((if eqP t l s then s + 2 else s + 1 : Nat)) : Int); rw [if_pos hq]; (first | done | omega)
                   · (repeat rw [uI_o (by omega)]); rw [uI_s]
                   · unfold snR
                     rw [if_pos hq, uI_o (by omega), uI_s]
                     first | (rw [if_pos (by omega)]; done) | (rw [if_pos (by omega)]; omega) | (rw [if_neg (by omega)]; done))
                | (have hq : ¬ eqP t l s := fun h9 => by obtain ⟨v1, v2, v3⟩ := h9; omega
                   have et : tkF t l s = (if eqP t l s then s + 2 else s + 1, s, skK t l s, 0) := by
                     unfold tkF
                     rw [if_neg (by omega), if_neg (by omega), if_neg (by omega)]
                   refine x_return dX12_nextToken_310 rfl (by omega) (by omega) (hp _ ⟨?_, ?_, fun h9 => by omega, fun h9 h8 => by omega, fun h9 h8 => by omega, fun h9 h8 h7 => ?_⟩ (((FcR.rf.u (by omega)).u (by omega)).u (by omega)))
                   · rw [uI_s, et]; show _ = (((if eqP t l s then s + 2 else s + 1 : Nat)) : Int); rw [if_neg hq]; (first | done | omega)
                   · (repeat rw [uI_o (by omega)]); rw [uI_s]
                   · unfold snR
                     rw [if_neg hq, uI_o (by omega), uI_s]
                     first | (rw [if_pos (by omega)]; done) | (rw [if_pos (by omega)]; omega) | (rw [if_neg (by omega)]; done))
          · refine x_iload_n dX12_nextToken_266 rfl ?_
            refine x_bipush dX12_nextToken_267 (by decide) ?_
            refine x_icmp_ne 310 dX12_nextToken_269 (by decide) ⟨(by omega), (by omega)⟩ (fun w269 => ?_) (fun w269 => ?_)
            · first
              | (exfalso; omega)
              | (have hls : l ≤ s := by omega
                 exact x_return dX12_nextToken_310 rfl (by omega) (by omega) (hp _ ⟨by rw [show tkF t l s = (s, s, 0, 0) from if_pos hls, uI_o (by omega), uI_o (by omega)]; exact j7, by rw [uI_o (by omega), uI_s], fun h9 => by rw [uI_s], fun h9 h8 => by omega, fun h9 h8 => by omega, fun h9 h8 h7 => by omega⟩ ((FcR.rf.u (by omega)).u (by omega))))
              | (have hq : eqP t l s := ⟨by omega, by omega, by omega⟩
                 have et : tkF t l s = (if eqP t l s then s + 2 else s + 1, s, skK t l s, 0) := by
                   unfold tkF
                   rw [if_neg (by omega), if_neg (by omega), if_neg (by omega)]
                 refine x_return dX12_nextToken_310 rfl (by omega) (by omega) (hp _ ⟨?_, ?_, fun h9 => by omega, fun h9 h8 => by omega, fun h9 h8 => by omega, fun h9 h8 h7 => ?_⟩ (((((FcR.rf.u (by omega)).u (by omega)).u (by omega)).u (by omega)).u (by omega)))
                 · rw [uI_s, et]; show _ = (((if eqP t l s then s + 2 else s + 1 : Nat)) : Int); rw [if_pos hq]; (first | done | omega)
                 · (repeat rw [uI_o (by omega)]); rw [uI_s]
                 · unfold snR
                   rw [if_pos hq, uI_o (by omega), uI_s]
                   first | (rw [if_pos (by omega)]; done) | (rw [if_pos (by omega)]; omega) | (rw [if_neg (by omega)]; done))
              | (have hq : ¬ eqP t l s := fun h9 => by obtain ⟨v1, v2, v3⟩ := h9; omega
                 have et : tkF t l s = (if eqP t l s then s + 2 else s + 1, s, skK t l s, 0) := by
                   unfold tkF
                   rw [if_neg (by omega), if_neg (by omega), if_neg (by omega)]
                 refine x_return dX12_nextToken_310 rfl (by omega) (by omega) (hp _ ⟨?_, ?_, fun h9 => by omega, fun h9 h8 => by omega, fun h9 h8 => by omega, fun h9 h8 h7 => ?_⟩ (((FcR.rf.u (by omega)).u (by omega)).u (by omega)))
                 · rw [uI_s, et]; show _ = (((if eqP t l s then s + 2 else s + 1 : Nat)) : Int); rw [if_neg hq]; (first | done | omega)
                 · (repeat rw [uI_o (by omega)]); rw [uI_s]
                 · unfold snR
                   rw [if_neg hq, uI_o (by omega), uI_s]
                   first | (rw [if_pos (by omega)]; done) | (rw [if_pos (by omega)]; omega) | (rw [if_neg (by omega)]; done))
            · refine x_aload_n dX12_nextToken_272 rfl ?_
              refine x_aload_n dX12_nextToken_273 rfl ?_
              refine x_getIv (z := ((s + 1 : Nat) : Int)) dX12_nextToken_274 gf_RX12_106 (k_ob_306 cs) (fun _ _ => rfl) (by first | exact j7 | (rw [uI_o (by omega)]; exact j7) | (rw [uI_o (by omega), uI_o (by omega)]; exact j7) | (rw [uI_s]; omega) | (rw [uI_o (by omega), uI_s]; omega)) ?_
              refine x_callV1 (mc1 := 0) (ms1 := 0) dX12_nextToken_277 cv_RX12_109 (ci := 12) (k_ob_306 cs) rfl (Nat.le_of_ble_eq_true rfl) (n1 := n - 1) (by omega) (by omega) (by omega) ?_
              refine sp_X12_byteAt (p := s + 1) cs (TpR.f hT (((FcR.rf.u (by omega)).u (by omega)).u (by omega))) (by omega) (fun r277 hr277 hg277 => ?_)
              refine x_bipush dX12_nextToken_280 (by decide) ?_
              refine x_icmp_ne 310 dX12_nextToken_282 (by decide) ⟨(by omega), (by omega)⟩ (fun w282 => ?_) (fun w282 => ?_)
              · first
                | (exfalso; omega)
                | (have hls : l ≤ s := by omega
                   exact x_return dX12_nextToken_310 rfl (by omega) (by omega) (hp _ ⟨by rw [show tkF t l s = (s, s, 0, 0) from if_pos hls, uI_o (by omega), uI_o (by omega)]; exact j7, by rw [uI_o (by omega), uI_s], fun h9 => by rw [uI_s], fun h9 h8 => by omega, fun h9 h8 => by omega, fun h9 h8 h7 => by omega⟩ ((FcR.rf.u (by omega)).u (by omega))))
                | (have hq : eqP t l s := ⟨by omega, by omega, by omega⟩
                   have et : tkF t l s = (if eqP t l s then s + 2 else s + 1, s, skK t l s, 0) := by
                     unfold tkF
                     rw [if_neg (by omega), if_neg (by omega), if_neg (by omega)]
                   refine x_return dX12_nextToken_310 rfl (by omega) (by omega) (hp _ ⟨?_, ?_, fun h9 => by omega, fun h9 h8 => by omega, fun h9 h8 => by omega, fun h9 h8 h7 => ?_⟩ (((((FcR.rf.u (by omega)).u (by omega)).u (by omega)).u (by omega)).u (by omega)))
                   · rw [uI_s, et]; show _ = (((if eqP t l s then s + 2 else s + 1 : Nat)) : Int); rw [if_pos hq]; (first | done | omega)
                   · (repeat rw [uI_o (by omega)]); rw [uI_s]
                   · unfold snR
                     rw [if_pos hq, uI_o (by omega), uI_s]
                     first | (rw [if_pos (by omega)]; done) | (rw [if_pos (by omega)]; omega) | (rw [if_neg (by omega)]; done))
                | (have hq : ¬ eqP t l s := fun h9 => by obtain ⟨v1, v2, v3⟩ := h9; omega
                   have et : tkF t l s = (if eqP t l s then s + 2 else s + 1, s, skK t l s, 0) := by
                     unfold tkF
                     rw [if_neg (by omega), if_neg (by omega), if_neg (by omega)]
                   refine x_return dX12_nextToken_310 rfl (by omega) (by omega) (hp _ ⟨?_, ?_, fun h9 => by omega, fun h9 h8 => by omega, fun h9 h8 => by omega, fun h9 h8 h7 => ?_⟩ (((FcR.rf.u (by omega)).u (by omega)).u (by omega)))
                   · rw [uI_s, et]; show _ = (((if eqP t l s then s + 2 else s + 1 : Nat)) : Int); rw [if_neg hq]; (first | done | omega)
                   · (repeat rw [uI_o (by omega)]); rw [uI_s]
                   · unfold snR
                     rw [if_neg hq, uI_o (by omega), uI_s]
                     first | (rw [if_pos (by omega)]; done) | (rw [if_pos (by omega)]; omega) | (rw [if_neg (by omega)]; done))
              · refine x_aload_n dX12_nextToken_285 rfl ?_
                refine x_iload_n dX12_nextToken_286 rfl ?_
                refine x_bipush dX12_nextToken_287 (by decide) ?_
                refine x_icmp_ne 296 dX12_nextToken_289 (by decide) ⟨(by omega), (by omega)⟩ (fun w289 => ?_) (fun w289 => ?_)
                · refine x_iconst dX12_nextToken_296 ?_
                  refine x_putI dX12_nextToken_297 gf_RX12_115 (k_ob_306 cs) rfl ?_
                  refine x_aload_n dX12_nextToken_300 rfl ?_
                  refine x_dup dX12_nextToken_301 rfl ?_
                  refine x_getIv (z := ((s + 1 : Nat) : Int)) dX12_nextToken_302 gf_RX12_106 (k_ob_306 cs) (fun _ _ => rfl) (by first | exact j7 | (rw [uI_o (by omega)]; exact j7) | (rw [uI_o (by omega), uI_o (by omega)]; exact j7) | (rw [uI_s]; omega) | (rw [uI_o (by omega), uI_s]; omega)) ?_
                  refine x_iconst dX12_nextToken_305 ?_
                  refine x_iadd dX12_nextToken_306 ?_
                  refine x_putI dX12_nextToken_307 gf_RX12_106 (k_ob_306 cs) rfl ?_
                  first
                  | (exfalso; omega)
                  | (have hls : l ≤ s := by omega
                     exact x_return dX12_nextToken_310 rfl (by omega) (by omega) (hp _ ⟨by rw [show tkF t l s = (s, s, 0, 0) from if_pos hls, uI_o (by omega), uI_o (by omega)]; exact j7, by rw [uI_o (by omega), uI_s], fun h9 => by rw [uI_s], fun h9 h8 => by omega, fun h9 h8 => by omega, fun h9 h8 h7 => by omega⟩ ((FcR.rf.u (by omega)).u (by omega))))
                  | (have hq : eqP t l s := ⟨by omega, by omega, by omega⟩
                     have et : tkF t l s = (if eqP t l s then s + 2 else s + 1, s, skK t l s, 0) := by
                       unfold tkF
                       rw [if_neg (by omega), if_neg (by omega), if_neg (by omega)]
                     refine x_return dX12_nextToken_310 rfl (by omega) (by omega) (hp _ ⟨?_, ?_, fun h9 => by omega, fun h9 h8 => by omega, fun h9 h8 => by omega, fun h9 h8 h7 => ?_⟩ (((((FcR.rf.u (by omega)).u (by omega)).u (by omega)).u (by omega)).u (by omega)))
                     · rw [uI_s, et]; show _ = (((if eqP t l s then s + 2 else s + 1 : Nat)) : Int); rw [if_pos hq]; (first | done | omega)
                     · (repeat rw [uI_o (by omega)]); rw [uI_s]
                     · unfold snR
                       rw [if_pos hq, uI_o (by omega), uI_s]
                       first | (rw [if_pos (by omega)]; done) | (rw [if_pos (by omega)]; omega) | (rw [if_neg (by omega)]; done))
                  | (have hq : ¬ eqP t l s := fun h9 => by obtain ⟨v1, v2, v3⟩ := h9; omega
                     have et : tkF t l s = (if eqP t l s then s + 2 else s + 1, s, skK t l s, 0) := by
                       unfold tkF
                       rw [if_neg (by omega), if_neg (by omega), if_neg (by omega)]
                     refine x_return dX12_nextToken_310 rfl (by omega) (by omega) (hp _ ⟨?_, ?_, fun h9 => by omega, fun h9 h8 => by omega, fun h9 h8 => by omega, fun h9 h8 h7 => ?_⟩ (((FcR.rf.u (by omega)).u (by omega)).u (by omega)))
                     · rw [uI_s, et]; show _ = (((if eqP t l s then s + 2 else s + 1 : Nat)) : Int); rw [if_neg hq]; (first | done | omega)
                     · (repeat rw [uI_o (by omega)]); rw [uI_s]
                     · unfold snR
                       rw [if_neg hq, uI_o (by omega), uI_s]
                       first | (rw [if_pos (by omega)]; done) | (rw [if_pos (by omega)]; omega) | (rw [if_neg (by omega)]; done))
                · refine x_iconst dX12_nextToken_292 ?_
                  refine x_goto 297 dX12_nextToken_293 (by decide) ?_
                  refine x_putI dX12_nextToken_297 gf_RX12_115 (k_ob_306 cs) rfl ?_
                  refine x_aload_n dX12_nextToken_300 rfl ?_
                  refine x_dup dX12_nextToken_301 rfl ?_
                  refine x_getIv (z := ((s + 1 : Nat) : Int)) dX12_nextToken_302 gf_RX12_106 (k_ob_306 cs) (fun _ _ => rfl) (by first | exact j7 | (rw [uI_o (by omega)]; exact j7) | (rw [uI_o (by omega), uI_o (by omega)]; exact j7) | (rw [uI_s]; omega) | (rw [uI_o (by omega), uI_s]; omega)) ?_
                  refine x_iconst dX12_nextToken_305 ?_
                  refine x_iadd dX12_nextToken_306 ?_
                  refine x_putI dX12_nextToken_307 gf_RX12_106 (k_ob_306 cs) rfl ?_
                  first
                  | (exfalso; omega)
                  | (have hls : l ≤ s := by omega
                     exact x_return dX12_nextToken_310 rfl (by omega) (by omega) (hp _ ⟨by rw [show tkF t l s = (s, s, 0, 0) from if_pos hls, uI_o (by omega), uI_o (by omega)]; exact j7, by rw [uI_o (by omega), uI_s], fun h9 => by rw [uI_s], fun h9 h8 => by omega, fun h9 h8 => by omega, fun h9 h8 h7 => by omega⟩ ((FcR.rf.u (by omega)).u (by omega))))
                  | (have hq : eqP t l s := ⟨by omega, by omega, by omega⟩
                     have et : tkF t l s = (if eqP t l s then s + 2 else s + 1, s, skK t l s, 0) := by
                       unfold tkF
                       rw [if_neg (by omega), if_neg (by omega), if_neg (by omega)]
                     refine x_return dX12_nextToken_310 rfl (by omega) (by omega) (hp _ ⟨?_, ?_, fun h9 => by omega, fun h9 h8 => by omega, fun h9 h8 => by omega, fun h9 h8 h7 => ?_⟩ (((((FcR.rf.u (by omega)).u (by omega)).u (by omega)).u (by omega)).u (by omega)))
                     · rw [uI_s, et]; show _ = (((if eqP t l s then s + 2 else s + 1 : Nat)) : Int); rw [if_pos hq]; (first | done | omega)
                     · (repeat rw [uI_o (by omega)]); rw [uI_s]
                     · unfold snR
                       rw [if_pos hq, uI_o (by omega), uI_s]
                       first | (rw [if_pos (by omega)]; done) | (rw [if_pos (by omega)]; omega) | (rw [if_neg (by omega)]; done))
                  | (have hq : ¬ eqP t l s := fun h9 => by obtain ⟨v1, v2, v3⟩ := h9; omega
                     have et : tkF t l s = (if eqP t l s then s + 2 else s + 1, s, skK t l s, 0) := by
                       unfold tkF
                       rw [if_neg (by omega), if_neg (by omega), if_neg (by omega)]
                     refine x_return dX12_nextToken_310 rfl (by omega) (by omega) (hp _ ⟨?_, ?_, fun h9 => by omega, fun h9 h8 => by omega, fun h9 h8 => by omega, fun h9 h8 h7 => ?_⟩ (((FcR.rf.u (by omega)).u (by omega)).u (by omega)))
                     · rw [uI_s, et]; show _ = (((if eqP t l s then s + 2 else s + 1 : Nat)) : Int); rw [if_neg hq]; (first | done | omega)
                     · (repeat rw [uI_o (by omega)]); rw [uI_s]
                     · unfold snR
                       rw [if_neg hq, uI_o (by omega), uI_s]
                       first | (rw [if_pos (by omega)]; done) | (rw [if_pos (by omega)]; omega) | (rw [if_neg (by omega)]; done))
      · refine x_aload_n dX12_nextToken_158 rfl ?_
        refine x_iconst dX12_nextToken_159 ?_
        refine x_putI dX12_nextToken_160 gf_RX12_115 (k_ob_306 cs) rfl ?_
        refine x_aload_n dX12_nextToken_163 rfl ?_
        refine x_lconst0 dX12_nextToken_164 ?_
        refine x_putL dX12_nextToken_165 gf_RX12_128 (k_ob_306 cs) rfl ?_
        refine x_sub [1, 0] rfl ?_
        refine lp_nxW (s := s) cs (by omega) (TpR.f hT (((FcR.rf.u (by omega)).u (by omega)).u (by omega))) (fun J g7 g8 g9 g11 gF => ?_) _ 0 _ (by omega) rfl (by (repeat rw [uI_o (by omega)]); exact j7) rfl rfl (by rw [uI_s]; rfl) FcR.rf rfl
        have et : tkF t l s = (eR (lB t l) l s, s, kW (wdL t s (eR (lB t l) l s - s)), 0) := by
          unfold tkF
          rw [if_neg (by omega), if_pos (by omega)]
        refine hp J ⟨by rw [et]; exact g7, by rw [g8, uI_o (by omega), uI_o (by omega), uI_s], fun h9 => by omega, fun h9 h8 => ⟨by rw [g9, uI_o (by omega), uI_s], g11⟩, fun h9 h8 => by omega, fun h9 h8 h7 => by omega⟩ ((((FcR.rf.u (by omega)).u (by omega)).u (by omega)).tr gF)
    · refine x_aload_n dX12_nextToken_75 rfl ?_
      refine x_iconst dX12_nextToken_76 ?_
      refine x_putI dX12_nextToken_77 gf_RX12_115 (k_ob_306 cs) rfl ?_
      refine x_aload_n dX12_nextToken_80 rfl ?_
      refine x_iconst dX12_nextToken_81 ?_
      refine x_putI dX12_nextToken_82 gf_RX12_121 (k_ob_306 cs) rfl ?_
      refine x_sub [1, 0] rfl ?_
      refine lp_nxN (s := s) cs (by omega) (TpR.f hT (((FcR.rf.u (by omega)).u (by omega)).u (by omega))) (fun J g7 g8 g9 g10 gF => ?_) _ 0 _ (by omega) rfl (by (repeat rw [uI_o (by omega)]); exact j7) rfl rfl (by rw [uI_s]; rfl) FcR.rf (fun i hi => by omega) rfl
      have et : tkF t l s = (eR (dB t l) l s, s, 2, nuC t s (eR (dB t l) l s - s)) := by
        unfold tkF
        rw [if_neg (by omega), if_neg (by omega), if_pos (by omega)]
      refine hp J ⟨by rw [et]; exact g7, by rw [g8, uI_o (by omega), uI_o (by omega), uI_s], fun h9 => by omega, fun h9 h8 => by omega, fun h9 h8 => ⟨by rw [g9, uI_o (by omega), uI_s], g10⟩, fun h9 h8 h7 => by omega⟩ ((((FcR.rf.u (by omega)).u (by omega)).u (by omega)).tr gF)
  · refine x_aload_n dX12_nextToken_60 rfl ?_
    refine x_iconst dX12_nextToken_61 ?_
    refine x_putI dX12_nextToken_62 gf_RX12_115 (k_ob_306 cs) rfl ?_
    refine x_goto 310 dX12_nextToken_65 (by decide) ?_
    first
    | (exfalso; omega)
    | (have hls : l ≤ s := by omega
       exact x_return dX12_nextToken_310 rfl (by omega) (by omega) (hp _ ⟨by rw [show tkF t l s = (s, s, 0, 0) from if_pos hls, uI_o (by omega), uI_o (by omega)]; exact j7, by rw [uI_o (by omega), uI_s], fun h9 => by rw [uI_s], fun h9 h8 => by omega, fun h9 h8 => by omega, fun h9 h8 h7 => by omega⟩ ((FcR.rf.u (by omega)).u (by omega))))
    | (have hq : eqP t l s := ⟨by omega, by omega, by omega⟩
       have et : tkF t l s = (if eqP t l s then s + 2 else s + 1, s, skK t l s, 0) := by
         unfold tkF
         rw [if_neg (by omega), if_neg (by omega), if_neg (by omega)]
       refine x_return dX12_nextToken_310 rfl (by omega) (by omega) (hp _ ⟨?_, ?_, fun h9 => by omega, fun h9 h8 => by omega, fun h9 h8 => by omega, fun h9 h8 h7 => ?_⟩ (((((FcR.rf.u (by omega)).u (by omega)).u (by omega)).u (by omega)).u (by omega)))
       · rw [uI_s, et]; show _ = (((if eqP t l s then s + 2 else s + 1 : Nat)) : Int); rw [if_pos hq]; (first | done | omega)
       · (repeat rw [uI_o (by omega)]); rw [uI_s]
       · unfold snR
         rw [if_pos hq, uI_o (by omega), uI_s]
         first | (rw [if_pos (by omega)]; done) | (rw [if_pos (by omega)]; omega) | (rw [if_neg (by omega)]; done))
    | (have hq : ¬ eqP t l s := fun h9 => by obtain ⟨v1, v2, v3⟩ := h9; omega
       have et : tkF t l s = (if eqP t l s then s + 2 else s + 1, s, skK t l s, 0) := by
         unfold tkF
         rw [if_neg (by omega), if_neg (by omega), if_neg (by omega)]
       refine x_return dX12_nextToken_310 rfl (by omega) (by omega) (hp _ ⟨?_, ?_, fun h9 => by omega, fun h9 h8 => by omega, fun h9 h8 => by omega, fun h9 h8 h7 => ?_⟩ (((FcR.rf.u (by omega)).u (by omega)).u (by omega)))
       · rw [uI_s, et]; show _ = (((if eqP t l s then s + 2 else s + 1 : Nat)) : Int); rw [if_neg hq]; (first | done | omega)
       · (repeat rw [uI_o (by omega)]); rw [uI_s]
       · unfold snR
         rw [if_neg hq, uI_o (by omega), uI_s]
         first | (rw [if_pos (by omega)]; done) | (rw [if_pos (by omega)]; omega) | (rw [if_neg (by omega)]; done))
theorem sp_X12_nextToken {t : Nat → Int} {l p : Nat} (cs : CS S R) (hn : 2 ≤ n) (hT : TpR I t l) (hs : p ≤ l) (h7 : I 306 7 = (p : Int)) (hp : ∀ J, CuR J t l (eR (kB t l) l p) → FcR I J → Post none S J R) : Call n 0 0 mX12_nextToken [.ref (S.2.1 306)] S I R Post := by
  refine Call.of (by decide +kernel) (Nat.le_of_ble_eq_true rfl) ?_
  show WP _ _ _ _ _ 0 [(0, _)] [] 0 0 _ _ _
  refine lp_nx1 (E := eR (kB t l) l p) cs (by omega) hT (fun J j7 jF => ?_) _ p I hs rfl h7 FcR.rf rfl
  exact lp_nx3 cs hn (TpR.f hT jF) (eR_le hs) j7 (fun K k1 k2 => hp K k1 (jF.tr k2))
end Next2
