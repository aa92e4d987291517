section Hg1s
variable {n mc ms : Nat} {M : Md} {pc : Nat} {lv : List (Nat × Value)} {st : List Value} {k j : Nat} {Post : PT} {S : Sh} {I : CI} {R : CR} {A : Nat → Int} {tx : Nat → Nat → Int}
/-- what was noted: how many, the first of them, how often each hangs on each -/
def NoteR (J : CI) (H : Nat) (L : List (List Nat)) : Prop := J 306 36 = (L.length : Int) ∧ (∀ x, L.head? = some x → ∀ h, h < H → J 321 h = ((x.getD h 0 : Nat) : Int)) ∧ ∀ h, h < H → ∀ q, q < 8 → J 322 (8 * h + q) = cntL h q L
theorem NoteR.w {J K : CI} {H : Nat} {L : List (List Nat)} (h : NoteR J H L) (e1 : K 306 36 = J 306 36) (e2 : K 321 = J 321) (e3 : K 322 = J 322) : NoteR K H L := by
  obtain ⟨h1, h2, h3⟩ := h
  exact ⟨e1.trans h1, fun x hx i hi => by rw [e2]; exact h2 x hx i hi, fun i hi q hq => by rw [e3]; exact h3 i hi q hq⟩
def Fnt (I J : CI) : Prop := (∀ c, c ≠ 306 → c ≠ 321 → c ≠ 322 → J c = I c) ∧ ∀ q, q ≠ 36 → J 306 q = I 306 q
theorem dX12_noteHung_0 : decode prog_14_method_133_code 0 = .ok (.iconst 0, 1) := by decide +kernel
theorem dX12_noteHung_1 : decode prog_14_method_133_code 1 = .ok (.istore_n 1, 1) := by decide +kernel
theorem dX12_noteHung_2 : decode prog_14_method_133_code 2 = .ok (.iload_n 1, 1) := by decide +kernel
theorem dX12_noteHung_3 : decode prog_14_method_133_code 3 = .ok (.aload_n 0, 1) := by decide +kernel
theorem dX12_noteHung_4 : decode prog_14_method_133_code 4 = .ok (.getfield 7, 3) := by decide +kernel
theorem dX12_noteHung_7 : decode prog_14_method_133_code 7 = .ok (.iconst 4, 1) := by decide +kernel
theorem dX12_noteHung_8 : decode prog_14_method_133_code 8 = .ok (.iaload, 1) := by decide +kernel
theorem dX12_noteHung_9 : decode prog_14_method_133_code 9 = .ok (.if_icmp .ge 48, 3) := by decide +kernel
theorem dX12_noteHung_12 : decode prog_14_method_133_code 12 = .ok (.aload_n 0, 1) := by decide +kernel
theorem dX12_noteHung_13 : decode prog_14_method_133_code 13 = .ok (.getfield 467, 3) := by decide +kernel
theorem dX12_noteHung_16 : decode prog_14_method_133_code 16 = .ok (.ifCond .ne 15, 3) := by decide +kernel
theorem dX12_noteHung_19 : decode prog_14_method_133_code 19 = .ok (.aload_n 0, 1) := by decide +kernel
theorem dX12_noteHung_20 : decode prog_14_method_133_code 20 = .ok (.getfield 65, 3) := by decide +kernel
theorem dX12_noteHung_23 : decode prog_14_method_133_code 23 = .ok (.iload_n 1, 1) := by decide +kernel
theorem dX12_noteHung_24 : decode prog_14_method_133_code 24 = .ok (.aload_n 0, 1) := by decide +kernel
theorem dX12_noteHung_25 : decode prog_14_method_133_code 25 = .ok (.getfield 62, 3) := by decide +kernel
theorem dX12_noteHung_28 : decode prog_14_method_133_code 28 = .ok (.iload_n 1, 1) := by decide +kernel
theorem dX12_noteHung_29 : decode prog_14_method_133_code 29 = .ok (.iaload, 1) := by decide +kernel
theorem dX12_noteHung_30 : decode prog_14_method_133_code 30 = .ok (.iastore, 1) := by decide +kernel
theorem dX12_noteHung_31 : decode prog_14_method_133_code 31 = .ok (.aload_n 0, 1) := by decide +kernel
theorem dX12_noteHung_32 : decode prog_14_method_133_code 32 = .ok (.getfield 68, 3) := by decide +kernel
theorem dX12_noteHung_35 : decode prog_14_method_133_code 35 = .ok (.bipush 8, 2) := by decide +kernel
theorem dX12_noteHung_37 : decode prog_14_method_133_code 37 = .ok (.iload_n 1, 1) := by decide +kernel
theorem dX12_noteHung_38 : decode prog_14_method_133_code 38 = .ok (.imul, 1) := by decide +kernel
theorem dX12_noteHung_39 : decode prog_14_method_133_code 39 = .ok (.aload_n 0, 1) := by decide +kernel
theorem dX12_noteHung_40 : decode prog_14_method_133_code 40 = .ok (.getfield 62, 3) := by decide +kernel
theorem dX12_noteHung_43 : decode prog_14_method_133_code 43 = .ok (.iload_n 1, 1) := by decide +kernel
theorem dX12_noteHung_44 : decode prog_14_method_133_code 44 = .ok (.iaload, 1) := by decide +kernel
theorem dX12_noteHung_45 : decode prog_14_method_133_code 45 = .ok (.iadd, 1) := by decide +kernel
theorem dX12_noteHung_46 : decode prog_14_method_133_code 46 = .ok (.dup2, 1) := by decide +kernel
theorem dX12_noteHung_47 : decode prog_14_method_133_code 47 = .ok (.iaload, 1) := by decide +kernel
theorem dX12_noteHung_48 : decode prog_14_method_133_code 48 = .ok (.iconst 1, 1) := by decide +kernel
theorem dX12_noteHung_49 : decode prog_14_method_133_code 49 = .ok (.iadd, 1) := by decide +kernel
theorem dX12_noteHung_50 : decode prog_14_method_133_code 50 = .ok (.iastore, 1) := by decide +kernel
theorem dX12_noteHung_51 : decode prog_14_method_133_code 51 = .ok (.iinc 1 1, 3) := by decide +kernel
theorem dX12_noteHung_54 : decode prog_14_method_133_code 54 = .ok (.goto (-52), 3) := by decide +kernel
theorem dX12_noteHung_57 : decode prog_14_method_133_code 57 = .ok (.aload_n 0, 1) := by decide +kernel
theorem dX12_noteHung_58 : decode prog_14_method_133_code 58 = .ok (.dup, 1) := by decide +kernel
theorem dX12_noteHung_59 : decode prog_14_method_133_code 59 = .ok (.getfield 467, 3) := by decide +kernel
theorem dX12_noteHung_62 : decode prog_14_method_133_code 62 = .ok (.iconst 1, 1) := by decide +kernel
theorem dX12_noteHung_63 : decode prog_14_method_133_code 63 = .ok (.iadd, 1) := by decide +kernel
theorem dX12_noteHung_64 : decode prog_14_method_133_code 64 = .ok (.putfield 467, 3) := by decide +kernel
theorem dX12_noteHung_67 : decode prog_14_method_133_code 67 = .ok (.return_, 1) := by decide +kernel
theorem lp_note {H : Nat} {L : List (List Nat)} {x : List Nat} (cs : CS S R) (hA : I 307 = A) (hH : A 4 = (H : Int)) (h6 : H ≤ 6) (hx : ∀ h, h < H → I 320 h = ((x.getD h 0 : Nat) : Int) ∧ x.getD h 0 < 8) (hl : L.length < 1000000) (h36 : I 306 36 = (L.length : Int)) (hp : ∀ J, (∀ c, c ≠ 321 → c ≠ 322 → J c = I c) → (L = [] → ∀ i, i < H → J 321 i = ((x.getD i 0 : Nat) : Int)) → (L ≠ [] → J 321 = I 321) → (∀ i, i < H → ∀ q, q < 8 → J 322 (8 * i + q) = I 322 (8 * i + q) + (if x.getD i 0 = q then 1 else 0)) → Post none S (uI J 306 36 ((L.length : Int) + 1)) R) : ∀ (d h : Nat) (J : CI), h ≤ H → H - h = d → (∀ c, c ≠ 321 → c ≠ 322 → J c = I c) → (L = [] → ∀ i, i < h → J 321 i = ((x.getD i 0 : Nat) : Int)) → (L ≠ [] → J 321 = I 321) → (∀ i, i < H → ∀ q, q < 8 → J 322 (8 * i + q) = I 322 (8 * i + q) + (if i < h ∧ x.getD i 0 = q then 1 else 0)) → WP n 0 0 mX12_noteHung Post 2 [(0, .ref (S.2.1 306)), (1, .int (iI (h : Int)))] [] 0 0 S J R := by
  intro d
  induction d using Nat.strongRecOn with
  | ind d ih =>
    intro h J h1 h2 hF hv1 hv2 hv3
    have aJ : J 307 = A := by rw [hF 307 (by omega) (by omega)]; exact hA
    have wJ : J 306 36 = (L.length : Int) := by rw [hF 306 (by omega) (by omega)]; exact h36
    refine x_iload_n dX12_noteHung_2 rfl ?_
    refine x_aload_n dX12_noteHung_3 rfl ?_
    refine x_getR (b := 307) dX12_noteHung_4 gf_RX12_7 (k_ob_306 cs) (fun _ _ => rfl) (k_r_306_0 cs) ?_
    refine x_iconst dX12_noteHung_7 ?_
    refine x_ald7 (kk := 4) (v := A 4) dX12_noteHung_8 cs (by omega) (by omega) (by rw [aJ]; repeat (first | rfl | rw [upA_s] | rw [upA_o (by omega)])) ?_
    refine x_icmp_ge 57 dX12_noteHung_9 (by decide) ⟨(by omega), (by omega)⟩ (fun w9 => ?_) (fun w9 => ?_)
    · refine x_aload_n dX12_noteHung_57 rfl ?_
      refine x_dup dX12_noteHung_58 rfl ?_
      refine x_getIv (z := (L.length : Int)) dX12_noteHung_59 gf_RX12_467 (k_ob_306 cs) (fun _ _ => rfl) (by exact wJ) ?_
      refine x_iconst dX12_noteHung_62 ?_
      refine x_iadd dX12_noteHung_63 ?_
      refine x_putI dX12_noteHung_64 gf_RX12_467 (k_ob_306 cs) rfl ?_
      exact x_return dX12_noteHung_67 rfl (by omega) (by omega) (by
  obtain rfl : h = H := by omega
  refine hp J hF hv1 hv2 (fun i hi q hq => ?_)
  rw [hv3 i hi q hq]
  congr 1
  simp only [hi, true_and])
    · have hxh := hx h (by omega)
      have oJ : J 320 ((h : Int)).toNat = ((x.getD h 0 : Nat) : Int) := by rw [hF 320 (by omega) (by omega)]; exact hxh.1
      refine x_aload_n dX12_noteHung_12 rfl ?_
      refine x_getIv (z := (L.length : Int)) dX12_noteHung_13 gf_RX12_467 (k_ob_306 cs) (fun _ _ => rfl) (by exact wJ) ?_
      refine x_if_ne 31 dX12_noteHung_16 (by decide) (by omega) (fun w16 => ?_) (fun w16 => ?_)
      · refine x_aload_n dX12_noteHung_31 rfl ?_
        refine x_getR (b := 322) dX12_noteHung_32 gf_RX12_68 (k_ob_306 cs) (fun _ _ => rfl) (k_r_306_35 cs) ?_
        refine x_bipush dX12_noteHung_35 (by decide) ?_
        refine x_iload_n dX12_noteHung_37 rfl ?_
        refine x_imul dX12_noteHung_38 ?_
        refine x_aload_n dX12_noteHung_39 rfl ?_
        refine x_getR (b := 320) dX12_noteHung_40 gf_RX12_62 (k_ob_306 cs) (fun _ _ => rfl) (k_r_306_33 cs) ?_
        refine x_iload_n dX12_noteHung_43 rfl ?_
        refine x_iaload dX12_noteHung_44 (k_ar_320 cs) (by omega) (by omega) ?_
        first
        | rw [show J 320 ((h : Int)).toNat = ((x.getD h 0 : Nat) : Int) from oJ]
        | rw [show uI J 321 ((h : Int)).toNat ((x.getD h 0 : Nat) : Int) 320 ((h : Int)).toNat = ((x.getD h 0 : Nat) : Int) from by rw [uI_row (by omega)]; exact oJ]
        refine x_iadd dX12_noteHung_45 ?_
        refine x_dup2 dX12_noteHung_46 rfl rfl ?_
        refine x_iaload dX12_noteHung_47 (k_ar_322 cs) (by omega) (by omega) ?_
        refine x_iconst dX12_noteHung_48 ?_
        refine x_iadd dX12_noteHung_49 ?_
        refine x_iastore dX12_noteHung_50 (k_ar_322 cs) (by omega) (by omega) ?_
        refine x_iinc (lv2 := [(1, _), (0, _)]) dX12_noteHung_51 rfl (by decide) rfl ?_
        refine x_goto 2 dX12_noteHung_54 (by decide) ?_
        refine x_sub [1, 0] rfl ?_
        rw [show (h : Int) + 1 = ((h + 1 : Nat) : Int) from rfl]
        have hix : (8 * (h : Int) + ((x.getD h 0 : Nat) : Int)).toNat = 8 * h + x.getD h 0 := by omega
        refine ih (H - (h + 1)) (by omega) (h + 1) _ (by omega) rfl (fun c g1 g2 => ?_) (fun g i hi => ?_) (fun g => ?_) (fun i hi q hq => ?_)
        · first
          | (rw [uI_row g2, uI_row g1]; exact hF c g1 g2)
          | (rw [uI_row g2]; exact hF c g1 g2)
        · first
          | (exfalso
             rw [g] at w16
             exact w16 rfl)
          | (rw [uI_row (by omega)]
             by_cases hih : i = h
             · subst hih; rw [uI_x rfl (by omega)]
             · rw [uI_o (by omega)]; exact hv1 g i (by omega))
        · first
          | (exfalso
             apply g
             cases L with
             | nil => rfl
             | cons a b => exfalso; rw [List.length_cons] at w16; omega)
          | (rw [uI_row (by omega)]; exact hv2 g)
        · rw [hix]
          by_cases hc : i = h ∧ q = x.getD h 0
          · obtain ⟨rfl, rfl⟩ := hc
            rw [uI_s, if_pos ⟨by omega, rfl⟩]
            have h9 := hv3 i hi (x.getD i 0) hq
            rw [if_neg (by omega)] at h9
            first
            | (rw [uI_row (by omega), h9]; omega)
            | (rw [h9]; omega)
          · rw [uI_o (by omega)]
            have h9 := hv3 i hi q hq
            have e9 : (i < h + 1 ∧ x.getD i 0 = q) ↔ (i < h ∧ x.getD i 0 = q) := by
              constructor
              · intro g
                refine ⟨?_, g.2⟩
                have : i ≠ h := fun g8 => hc ⟨g8, by rw [← g.2, g8]⟩
                omega
              · intro g; exact ⟨by omega, g.2⟩
            first
            | (rw [uI_row (by omega), h9]; simp only [e9])
            | (rw [h9]; simp only [e9])
      · refine x_aload_n dX12_noteHung_19 rfl ?_
        refine x_getR (b := 321) dX12_noteHung_20 gf_RX12_65 (k_ob_306 cs) (fun _ _ => rfl) (k_r_306_34 cs) ?_
        refine x_iload_n dX12_noteHung_23 rfl ?_
        refine x_aload_n dX12_noteHung_24 rfl ?_
        refine x_getR (b := 320) dX12_noteHung_25 gf_RX12_62 (k_ob_306 cs) (fun _ _ => rfl) (k_r_306_33 cs) ?_
        refine x_iload_n dX12_noteHung_28 rfl ?_
        refine x_iaload dX12_noteHung_29 (k_ar_320 cs) (by omega) (by omega) ?_
        rw [show J 320 ((h : Int)).toNat = ((x.getD h 0 : Nat) : Int) from by first | (rw [uI_row (by omega)]; exact oJ) | exact oJ]
        refine x_iastore dX12_noteHung_30 (k_ar_321 cs) (by omega) (by omega) ?_
        refine x_aload_n dX12_noteHung_31 rfl ?_
        refine x_getR (b := 322) dX12_noteHung_32 gf_RX12_68 (k_ob_306 cs) (fun _ _ => rfl) (k_r_306_35 cs) ?_
        refine x_bipush dX12_noteHung_35 (by decide) ?_
        refine x_iload_n dX12_noteHung_37 rfl ?_
        refine x_imul dX12_noteHung_38 ?_
        refine x_aload_n dX12_noteHung_39 rfl ?_
        refine x_getR (b := 320) dX12_noteHung_40 gf_RX12_62 (k_ob_306 cs) (fun _ _ => rfl) (k_r_306_33 cs) ?_
        refine x_iload_n dX12_noteHung_43 rfl ?_
        refine x_iaload dX12_noteHung_44 (k_ar_320 cs) (by omega) (by omega) ?_
        first
        | rw [show J 320 ((h : Int)).toNat = ((x.getD h 0 : Nat) : Int) from oJ]
        | rw [show uI J 321 ((h : Int)).toNat ((x.getD h 0 : Nat) : Int) 320 ((h : Int)).toNat = ((x.getD h 0 : Nat) : Int) from by rw [uI_row (by omega)]; exact oJ]
        refine x_iadd dX12_noteHung_45 ?_
        refine x_dup2 dX12_noteHung_46 rfl rfl ?_
        refine x_iaload dX12_noteHung_47 (k_ar_322 cs) (by omega) (by omega) ?_
        refine x_iconst dX12_noteHung_48 ?_
        refine x_iadd dX12_noteHung_49 ?_
        refine x_iastore dX12_noteHung_50 (k_ar_322 cs) (by omega) (by omega) ?_
        refine x_iinc (lv2 := [(1, _), (0, _)]) dX12_noteHung_51 rfl (by decide) rfl ?_
        refine x_goto 2 dX12_noteHung_54 (by decide) ?_
        refine x_sub [1, 0] rfl ?_
        rw [show (h : Int) + 1 = ((h + 1 : Nat) : Int) from rfl]
        have hix : (8 * (h : Int) + ((x.getD h 0 : Nat) : Int)).toNat = 8 * h + x.getD h 0 := by omega
        refine ih (H - (h + 1)) (by omega) (h + 1) _ (by omega) rfl (fun c g1 g2 => ?_) (fun g i hi => ?_) (fun g => ?_) (fun i hi q hq => ?_)
        · first
          | (rw [uI_row g2, uI_row g1]; exact hF c g1 g2)
          | (rw [uI_row g2]; exact hF c g1 g2)
        · first
          | (exfalso
             rw [g] at w16
             exact w16 rfl)
          | (rw [uI_row (by omega)]
             by_cases hih : i = h
             · subst hih; rw [uI_x rfl (by omega)]
             · rw [uI_o (by omega)]; exact hv1 g i (by omega))
        · first
          | (exfalso
             apply g
             cases L with
             | nil => rfl
             | cons a b => exfalso; rw [List.length_cons] at w16; omega)
          | (rw [uI_row (by omega)]; exact hv2 g)
        · rw [hix]
          by_cases hc : i = h ∧ q = x.getD h 0
          · obtain ⟨rfl, rfl⟩ := hc
            rw [uI_s, if_pos ⟨by omega, rfl⟩]
            have h9 := hv3 i hi (x.getD i 0) hq
            rw [if_neg (by omega)] at h9
            first
            | (rw [uI_row (by omega), h9]; omega)
            | (rw [h9]; omega)
          · rw [uI_o (by omega)]
            have h9 := hv3 i hi q hq
            have e9 : (i < h + 1 ∧ x.getD i 0 = q) ↔ (i < h ∧ x.getD i 0 = q) := by
              constructor
              · intro g
                refine ⟨?_, g.2⟩
                have : i ≠ h := fun g8 => hc ⟨g8, by rw [← g.2, g8]⟩
                omega
              · intro g; exact ⟨by omega, g.2⟩
            first
            | (rw [uI_row (by omega), h9]; simp only [e9])
            | (rw [h9]; simp only [e9])
theorem sp_X12_noteHung {H : Nat} {L : List (List Nat)} {x : List Nat} (cs : CS S R) (hA : I 307 = A) (hH : A 4 = (H : Int)) (h6 : H ≤ 6) (hx : ∀ h, h < H → I 320 h = ((x.getD h 0 : Nat) : Int) ∧ x.getD h 0 < 8) (hl : L.length < 1000000) (hN : NoteR I H L) (hp : ∀ J, Fnt I J → NoteR J H (L ++ [x]) → Post none S J R) : Call n 0 0 mX12_noteHung [.ref (S.2.1 306)] S I R Post := by
  obtain ⟨n1, n2, n3⟩ := hN
  refine Call.of (by decide +kernel) (Nat.le_of_ble_eq_true rfl) ?_
  show WP _ _ _ _ _ 0 [(0, _)] [] 0 0 _ _ _
  refine x_iconst dX12_noteHung_0 ?_
  refine x_istore_n (lv2 := [(1, _), (0, _)]) dX12_noteHung_1 (by decide) rfl ?_
  refine x_sub [1, 0] rfl ?_
  refine lp_note cs hA hH h6 hx hl n1 (fun J hF hv1 hv2 hv3 => ?_) H 0 I (by omega) rfl (fun _ _ _ => rfl) (fun _ i hi => by omega) (fun _ => rfl) (fun i hi q hq => by rw [if_neg (by omega)]; omega)
  refine hp _ ⟨fun c g1 g2 g3 => by rw [uI_row g1]; exact hF c g2 g3, fun q hq => by rw [uI_o (by omega), hF 306 (by omega) (by omega)]⟩ ⟨?_, fun z hz h hh => ?_, fun h hh q hq => ?_⟩
  · rw [uI_s, List.length_append, List.length_singleton]; omega
  · rw [uI_row (by omega)]
    cases L with
    | nil =>
      have e9 : x = z := Option.some.inj hz
      rw [← e9]
      exact hv1 rfl h hh
    | cons a b =>
      rw [hv2 (fun h9 => by cases h9)]
      exact n2 z hz h hh
  · rw [uI_row (by omega), hv3 h hh q hq, n3 h hh q hq, cntL_app]
    show _ = _ + ((if x.getD h 0 = q then 1 else 0) + 0)
    omega
end Hg1s
