section Rd2
variable {n mc ms : Nat} {M : Md} {pc : Nat} {lv : List (Nat × Value)} {st : List Value} {k j : Nat} {Post : PT} {S : Sh} {I : CI} {R : CR} {A : Nat → Int} {tx : Nat → Nat → Int}
variable {t : Nat → Int} {l : Nat} {sl : Bool} {F : Int → Nat → Prop} {G G2 : Cu → List Int → Prop} {d m : Nat} {cu cu1 cu2 cu3 : Cu} {c c1 c2 c3 : List Int} {f : Int} {pl : Nat}
def Wr (XF : Int → Nat → Prop) (XG : Cu → List Int → Prop) (F : Int → Nat → Prop) (G : Cu → List Int → Prop) : Prop := (∀ f pl, XF f pl → F f pl) ∧ ∀ cu1 c1, XG cu1 c1 → G cu1 c1
def RdK (S : Sh) (R : CR) (M : Md) (d m : Nat) (XF : (Nat → Int) → Nat → Bool → Nat → Cu → List Int → Int → Nat → Prop) (XG : (Nat → Int) → Nat → Bool → Nat → Cu → List Int → Cu → List Int → Prop) : Prop := ∀ (n : Nat) (Post : PT) (I : CI) (t : Nat → Int) (l : Nat) (sl : Bool) (F : Int → Nat → Prop) (G : Cu → List Int → Prop), m ≤ n → OutC I t l sl F (fun cu c => Wr (XF t l sl d cu c) (XG t l sl d cu c) F G) → (∀ J, Frd I J → OutC J t l sl F G → Post none S J R) → Call n 0 0 M [.ref (S.2.1 287), .int (iI (d : Int))] S I R Post
def RmE (G : Cu → List Int → Prop) (w : Int) (cu : Cu) (c : List Int) : Prop := c.length + 1 ≤ cu.2.1 ∧ G cu (c ++ [w])
theorem rm_e (ok : CuOK l cu1) (l3 : l ≤ 300) (hk : cu1.2.2.1 ≠ 0) (ln : c1.length ≤ cu1.2.1) (h : Sl (adv t l cu1.1) c1 cu3 c3) : c3.length + 1 ≤ cu3.2.1 ∧ cu1.2.1 + 1 ≤ cu3.2.1 := by
  obtain ⟨a1, a2, a3⟩ := cu_adv (t := t) ok l3
  have a4 := a2 hk
  have h1 := h.1
  have h2 := h.2
  omega
def PrdV (t : Nat → Int) (l : Nat) (sl : Bool) (d : Nat) (F : Int → Nat → Prop) (G : Cu → List Int → Prop) (i : Nat) (cu1 : Cu) (c1 : List Int) : Prop := ∃ cu c, Wr (PrdF t l sl d cu c) (PrdG t l sl d cu c) F G ∧ PrdI t l sl d cu c cu1 c1 ∧ i ≤ cu1.2.1
def SumV (t : Nat → Int) (l : Nat) (sl : Bool) (d : Nat) (F : Int → Nat → Prop) (G : Cu → List Int → Prop) (i : Nat) (cu1 : Cu) (c1 : List Int) : Prop := ∃ cu c, Wr (SumF t l sl d cu c) (SumG t l sl d cu c) F G ∧ SumI t l sl d cu c cu1 c1 ∧ i ≤ cu1.2.1
def BthV (t : Nat → Int) (l : Nat) (sl : Bool) (d : Nat) (F : Int → Nat → Prop) (G : Cu → List Int → Prop) (i : Nat) (cu1 : Cu) (c1 : List Int) : Prop := ∃ cu c, Wr (BthF t l sl d cu c) (BthG t l sl d cu c) F G ∧ BthI t l sl d cu c cu1 c1 ∧ i ≤ cu1.2.1
def EitV (t : Nat → Int) (l : Nat) (sl : Bool) (d : Nat) (F : Int → Nat → Prop) (G : Cu → List Int → Prop) (i : Nat) (cu1 : Cu) (c1 : List Int) : Prop := ∃ cu c, Wr (EitF t l sl d cu c) (EitG t l sl d cu c) F G ∧ EitI t l sl d cu c cu1 c1 ∧ i ≤ cu1.2.1
theorem PrdV_0 (w : Wr (PrdF t l sl d cu c) (PrdG t l sl d cu c) F G) : Wr (OneF t l sl d cu c) (OneG t l sl d cu c) F (PrdV t l sl d F G 0) := ⟨fun f pl x => w.1 f pl (prd_oneF x), fun cu1 c1 x => ⟨cu, c, w, prd_one x, Nat.zero_le _⟩⟩
theorem SumV_0 (w : Wr (SumF t l sl d cu c) (SumG t l sl d cu c) F G) : Wr (PrdF t l sl d cu c) (PrdG t l sl d cu c) F (SumV t l sl d F G 0) := ⟨fun f pl x => w.1 f pl (sum_prdF x), fun cu1 c1 x => ⟨cu, c, w, sum_prd x, Nat.zero_le _⟩⟩
theorem BthV_0 (w : Wr (BthF t l sl d cu c) (BthG t l sl d cu c) F G) : Wr (AskF t l sl d cu c) (AskG t l sl d cu c) F (BthV t l sl d F G 0) := ⟨fun f pl x => w.1 f pl (bth_aF x), fun cu1 c1 x => ⟨cu, c, w, bth_a x, Nat.zero_le _⟩⟩
theorem EitV_0 (w : Wr (EitF t l sl d cu c) (EitG t l sl d cu c) F G) : Wr (BthF t l sl d cu c) (BthG t l sl d cu c) F (EitV t l sl d F G 0) := ⟨fun f pl x => w.1 f pl (eit_bF x), fun cu1 c1 x => ⟨cu, c, w, eit_b x, Nat.zero_le _⟩⟩
theorem PrdV_s {o k w : Int} {i : Nat} (hko : (k = 42 ∧ o = 8) ∨ (k = 47 ∧ o = 9)) (hw : w = ivm o * 16384) (l3 : l ≤ 300) (ok : CuOK l cu1) (ln : c1.length ≤ cu1.2.1) (hk : cu1.2.2.1 = k) (g : PrdV t l sl d F G i cu1 c1) : Wr (OneF t l sl d (adv t l cu1.1) c1) (OneG t l sl d (adv t l cu1.1) c1) F (RmE (PrdV t l sl d F G (i + 1)) w) := by
  subst hw
  obtain ⟨cu, c, h1, h2, h3⟩ := g
  refine ⟨fun f pl x => h1.1 f pl (prd_2F hk hko h2 x), fun cu3 c3 x => ?_⟩
  obtain ⟨e1, e2⟩ := rm_e ok l3 (by omega) ln x.2.1
  exact ⟨e1, cu, c, h1, prd_s hk hko l3 ok h2 x, by omega⟩
theorem SumV_s {o k w : Int} {i : Nat} (hko : (k = 43 ∧ o = 6) ∨ (k = 45 ∧ o = 7)) (hw : w = ivm o * 16384) (l3 : l ≤ 300) (ok : CuOK l cu1) (ln : c1.length ≤ cu1.2.1) (hk : cu1.2.2.1 = k) (g : SumV t l sl d F G i cu1 c1) : Wr (PrdF t l sl d (adv t l cu1.1) c1) (PrdG t l sl d (adv t l cu1.1) c1) F (RmE (SumV t l sl d F G (i + 1)) w) := by
  subst hw
  obtain ⟨cu, c, h1, h2, h3⟩ := g
  refine ⟨fun f pl x => h1.1 f pl (sum_2F hk hko h2 x), fun cu3 c3 x => ?_⟩
  obtain ⟨e1, e2⟩ := rm_e ok l3 (by omega) ln x.1.2.1
  exact ⟨e1, cu, c, h1, sum_s hk hko l3 ok h2 x, by omega⟩
theorem BthV_s {w : Int} {i : Nat} (hw : w = 262144) (l3 : l ≤ 300) (ok : CuOK l cu1) (ln : c1.length ≤ cu1.2.1) (hk : cu1.2.2.1 = 150) (g : BthV t l sl d F G i cu1 c1) : Wr (AskF t l sl d (adv t l cu1.1) c1) (AskG t l sl d (adv t l cu1.1) c1) F (RmE (BthV t l sl d F G (i + 1)) w) := by
  subst hw
  obtain ⟨cu, c, h1, h2, h3⟩ := g
  refine ⟨fun f pl x => h1.1 f pl (bth_2F hk h2 x), fun cu3 c3 x => ?_⟩
  obtain ⟨e1, e2⟩ := rm_e ok l3 (by omega) ln x.1.2.1
  exact ⟨e1, cu, c, h1, bth_s hk l3 ok h2 x, by omega⟩
theorem EitV_s {w : Int} {i : Nat} (hw : w = 278528) (l3 : l ≤ 300) (ok : CuOK l cu1) (ln : c1.length ≤ cu1.2.1) (hk : cu1.2.2.1 = 151) (g : EitV t l sl d F G i cu1 c1) : Wr (BthF t l sl d (adv t l cu1.1) c1) (BthG t l sl d (adv t l cu1.1) c1) F (RmE (EitV t l sl d F G (i + 1)) w) := by
  subst hw
  obtain ⟨cu, c, h1, h2, h3⟩ := g
  refine ⟨fun f pl x => h1.1 f pl (eit_2F hk h2 x), fun cu3 c3 x => ?_⟩
  obtain ⟨e1, e2⟩ := rm_e ok l3 (by omega) ln x.1.1.2.1
  exact ⟨e1, cu, c, h1, eit_s hk l3 ok h2 x, by omega⟩
theorem dX5_readProduct_0 : decode prog_7_method_21_code 0 = .ok (.aload_n 0, 1) := by decide +kernel
theorem dX5_readProduct_1 : decode prog_7_method_21_code 1 = .ok (.iload_n 1, 1) := by decide +kernel
theorem dX5_readProduct_2 : decode prog_7_method_21_code 2 = .ok (.invokevirtual 148, 3) := by decide +kernel
theorem dX5_readProduct_5 : decode prog_7_method_21_code 5 = .ok (.iconst 0, 1) := by decide +kernel
theorem dX5_readProduct_6 : decode prog_7_method_21_code 6 = .ok (.istore_n 2, 1) := by decide +kernel
theorem dX5_readProduct_7 : decode prog_7_method_21_code 7 = .ok (.iload_n 2, 1) := by decide +kernel
theorem dX5_readProduct_8 : decode prog_7_method_21_code 8 = .ok (.sipush 300, 3) := by decide +kernel
theorem dX5_readProduct_11 : decode prog_7_method_21_code 11 = .ok (.if_icmp .ge 66, 3) := by decide +kernel
theorem dX5_readProduct_14 : decode prog_7_method_21_code 14 = .ok (.aload_n 0, 1) := by decide +kernel
theorem dX5_readProduct_15 : decode prog_7_method_21_code 15 = .ok (.invokevirtual 37, 3) := by decide +kernel
theorem dX5_readProduct_18 : decode prog_7_method_21_code 18 = .ok (.ifCond .eq 59, 3) := by decide +kernel
theorem dX5_readProduct_21 : decode prog_7_method_21_code 21 = .ok (.aload_n 0, 1) := by decide +kernel
theorem dX5_readProduct_22 : decode prog_7_method_21_code 22 = .ok (.getfield 41, 3) := by decide +kernel
theorem dX5_readProduct_25 : decode prog_7_method_21_code 25 = .ok (.bipush 42, 2) := by decide +kernel
theorem dX5_readProduct_27 : decode prog_7_method_21_code 27 = .ok (.if_icmp .eq 12, 3) := by decide +kernel
theorem dX5_readProduct_30 : decode prog_7_method_21_code 30 = .ok (.aload_n 0, 1) := by decide +kernel
theorem dX5_readProduct_31 : decode prog_7_method_21_code 31 = .ok (.getfield 41, 3) := by decide +kernel
theorem dX5_readProduct_34 : decode prog_7_method_21_code 34 = .ok (.bipush 47, 2) := by decide +kernel
theorem dX5_readProduct_36 : decode prog_7_method_21_code 36 = .ok (.if_icmp .ne 41, 3) := by decide +kernel
theorem dX5_readProduct_39 : decode prog_7_method_21_code 39 = .ok (.aload_n 0, 1) := by decide +kernel
theorem dX5_readProduct_40 : decode prog_7_method_21_code 40 = .ok (.getfield 41, 3) := by decide +kernel
theorem dX5_readProduct_43 : decode prog_7_method_21_code 43 = .ok (.bipush 42, 2) := by decide +kernel
theorem dX5_readProduct_45 : decode prog_7_method_21_code 45 = .ok (.if_icmp .ne 8, 3) := by decide +kernel
theorem dX5_readProduct_48 : decode prog_7_method_21_code 48 = .ok (.bipush 7, 2) := by decide +kernel
theorem dX5_readProduct_50 : decode prog_7_method_21_code 50 = .ok (.goto 5, 3) := by decide +kernel
theorem dX5_readProduct_53 : decode prog_7_method_21_code 53 = .ok (.bipush 8, 2) := by decide +kernel
theorem dX5_readProduct_55 : decode prog_7_method_21_code 55 = .ok (.istore_n 3, 1) := by decide +kernel
theorem dX5_readProduct_56 : decode prog_7_method_21_code 56 = .ok (.aload_n 0, 1) := by decide +kernel
theorem dX5_readProduct_57 : decode prog_7_method_21_code 57 = .ok (.invokevirtual 34, 3) := by decide +kernel
theorem dX5_readProduct_60 : decode prog_7_method_21_code 60 = .ok (.aload_n 0, 1) := by decide +kernel
theorem dX5_readProduct_61 : decode prog_7_method_21_code 61 = .ok (.iload_n 1, 1) := by decide +kernel
theorem dX5_readProduct_62 : decode prog_7_method_21_code 62 = .ok (.invokevirtual 148, 3) := by decide +kernel
theorem dX5_readProduct_65 : decode prog_7_method_21_code 65 = .ok (.aload_n 0, 1) := by decide +kernel
theorem dX5_readProduct_66 : decode prog_7_method_21_code 66 = .ok (.iload_n 3, 1) := by decide +kernel
theorem dX5_readProduct_67 : decode prog_7_method_21_code 67 = .ok (.iconst 0, 1) := by decide +kernel
theorem dX5_readProduct_68 : decode prog_7_method_21_code 68 = .ok (.invokevirtual 145, 3) := by decide +kernel
theorem dX5_readProduct_71 : decode prog_7_method_21_code 71 = .ok (.iinc 2 1, 3) := by decide +kernel
theorem dX5_readProduct_74 : decode prog_7_method_21_code 74 = .ok (.goto (-67), 3) := by decide +kernel
theorem dX5_readProduct_77 : decode prog_7_method_21_code 77 = .ok (.return_, 1) := by decide +kernel
theorem lp_X5_readProduct (cs : CS S R) (hd : d ≤ 8) (hm : 6 ≤ m) (h : RdK S R mX5_readOne d m OneF OneG) (hn : m + 1 ≤ n) (hp : ∀ J, Frd I J → OutC J t l sl F G → Post none S J R) : ∀ (e i : Nat) (J : CI), i ≤ 300 → 300 - i = e → Frd I J → OutC J t l sl F (PrdV t l sl d F G i) → WP n 0 0 mX5_readProduct Post 7 [(0, .ref (S.2.1 287)), (1, .int (iI (d : Int))), (2, .int (iI (i : Int)))] [] 0 0 S J R := by
  intro e
  induction e using Nat.strongRecOn with
  | ind e ih =>
    intro i J i1 i2 hF hO
    have hb := out_b hO
    have l3 := out_l hO
    refine x_iload_n dX5_readProduct_7 rfl ?_
    refine x_sipush dX5_readProduct_8 (by decide) ?_
    refine x_icmp_ge 77 dX5_readProduct_11 (by decide) ⟨(by omega), (by omega)⟩ (fun w11 => ?_) (fun w11 => ?_)
    · first
      | exact x_return dX5_readProduct_77 rfl (by omega) (by omega) (hp _ hF (out_flt hO (by omega)))
      | exact x_return dX5_readProduct_77 rfl (by omega) (by omega) (hp _ hF (out_imp hO (fun cu1 c1 ok ln _ k1 _ _ g => by
         obtain ⟨cu, c, w, si, hi⟩ := g
         have o1 := ok.1
         have o2 := ok.2.1
         have o4 := ok.2.2.2.1
         exact w.2 _ _ ⟨si, by omega, by omega⟩)))
    · refine x_aload_n dX5_readProduct_14 rfl ?_
      refine x_callV0 (mc1 := 0) (ms1 := 0) dX5_readProduct_15 cv_RX5_37 (ci := 5) (k_ob_287 cs) rfl (Nat.le_of_ble_eq_true rfl) (n1 := n - 1) (by omega) (by omega) (by omega) ?_
      refine sp_X5_goesOn cs (by omega) (fun r15 hr15 => ?_)
      refine x_if_eq 77 dX5_readProduct_18 (by decide) (by omega) (fun w18 => ?_) (fun w18 => ?_)
      · first
        | exact x_return dX5_readProduct_77 rfl (by omega) (by omega) (hp _ hF (out_flt hO (by omega)))
        | exact x_return dX5_readProduct_77 rfl (by omega) (by omega) (hp _ hF (out_imp hO (fun cu1 c1 ok ln _ k1 _ _ g => by
           obtain ⟨cu, c, w, si, hi⟩ := g
           have o1 := ok.1
           have o2 := ok.2.1
           have o4 := ok.2.2.2.1
           exact w.2 _ _ ⟨si, by omega, by omega⟩)))
      · refine x_aload_n dX5_readProduct_21 rfl ?_
        refine x_getI dX5_readProduct_22 gf_RX5_41 (k_ob_287 cs) (fun _ _ => rfl) ?_
        refine x_bipush dX5_readProduct_25 (by decide) ?_
        refine x_icmp_eq 39 dX5_readProduct_27 (by decide) ⟨(by omega), (by omega)⟩ (fun w27 => ?_) (fun w27 => ?_)
        · refine x_aload_n dX5_readProduct_39 rfl ?_
          refine x_getI dX5_readProduct_40 gf_RX5_41 (k_ob_287 cs) (fun _ _ => rfl) ?_
          refine x_bipush dX5_readProduct_43 (by decide) ?_
          refine x_icmp_ne 53 dX5_readProduct_45 (by decide) ⟨(by omega), (by omega)⟩ (fun w45 => ?_) (fun w45 => ?_)
          · exfalso; omega
          · refine x_bipush dX5_readProduct_48 (by decide) ?_
            refine x_goto 55 dX5_readProduct_50 (by decide) ?_
            refine x_istore_n (lv2 := [(3, _), (0, _), (1, _), (2, _)]) dX5_readProduct_55 (by decide) rfl ?_
            refine x_aload_n dX5_readProduct_56 rfl ?_
            refine x_callV0 (mc1 := 0) (ms1 := 0) dX5_readProduct_57 cv_RX5_34 (ci := 5) (k_ob_287 cs) rfl (Nat.le_of_ble_eq_true rfl) (n1 := n - 1) (by omega) (by omega) (by omega) ?_
            refine sp_adv (G := fun cu2 c2 => Wr (OneF t l sl d cu2 c2) (OneG t l sl d cu2 c2) F (RmE (PrdV t l sl d F G (i + 1)) (7 * 16384 + 0))) cs (by omega) (out_imp hO (fun cu1 c1 ok ln _ k1 _ _ g => PrdV_s (o := 8) (k := 42) (by omega) (by decide) l3 ok ln (by omega) g)) (fun J57 f57 o57 => ?_)
            refine x_aload_n dX5_readProduct_60 rfl ?_
            refine x_iload_n dX5_readProduct_61 rfl ?_
            refine x_callV1 (mc1 := 0) (ms1 := 0) dX5_readProduct_62 cv_RX5_148 (ci := 5) (k_ob_287 cs) rfl (Nat.le_of_ble_eq_true rfl) (n1 := n - 1) (by omega) (by omega) (by omega) ?_
            refine h _ _ _ _ _ _ _ _ (by omega) o57 (fun J62 f62 o62 => ?_)
            refine x_aload_n dX5_readProduct_65 rfl ?_
            refine x_iload_n dX5_readProduct_66 rfl ?_
            refine x_iconst dX5_readProduct_67 ?_
            refine x_callV2 (mc1 := 0) (ms1 := 0) dX5_readProduct_68 cv_RX5_145 (ci := 5) (k_ob_287 cs) rfl (Nat.le_of_ble_eq_true rfl) (n1 := n - 1) (by omega) (by omega) (by omega) ?_
            refine sp_X5_emit (G := PrdV t l sl d F G (i + 1)) cs (by omega) (by omega) o62 (fun J68 f68 o68 => ?_)
            refine x_iinc (lv2 := [(2, _), (3, _), (0, _), (1, _)]) dX5_readProduct_71 rfl (by decide) rfl ?_
            refine x_goto 7 dX5_readProduct_74 (by decide) ?_
            refine x_sub [2, 3, 0] rfl ?_
            exact ih _ (by omega) (i + 1) _ (by omega) rfl (Frd.tr (Frd.tr (Frd.tr hF f57) f62) f68) o68
        · refine x_aload_n dX5_readProduct_30 rfl ?_
          refine x_getI dX5_readProduct_31 gf_RX5_41 (k_ob_287 cs) (fun _ _ => rfl) ?_
          refine x_bipush dX5_readProduct_34 (by decide) ?_
          refine x_icmp_ne 77 dX5_readProduct_36 (by decide) ⟨(by omega), (by omega)⟩ (fun w36 => ?_) (fun w36 => ?_)
          · first
            | exact x_return dX5_readProduct_77 rfl (by omega) (by omega) (hp _ hF (out_flt hO (by omega)))
            | exact x_return dX5_readProduct_77 rfl (by omega) (by omega) (hp _ hF (out_imp hO (fun cu1 c1 ok ln _ k1 _ _ g => by
               obtain ⟨cu, c, w, si, hi⟩ := g
               have o1 := ok.1
               have o2 := ok.2.1
               have o4 := ok.2.2.2.1
               exact w.2 _ _ ⟨si, by omega, by omega⟩)))
          · refine x_aload_n dX5_readProduct_39 rfl ?_
            refine x_getI dX5_readProduct_40 gf_RX5_41 (k_ob_287 cs) (fun _ _ => rfl) ?_
            refine x_bipush dX5_readProduct_43 (by decide) ?_
            refine x_icmp_ne 53 dX5_readProduct_45 (by decide) ⟨(by omega), (by omega)⟩ (fun w45 => ?_) (fun w45 => ?_)
            · refine x_bipush dX5_readProduct_53 (by decide) ?_
              refine x_istore_n (lv2 := [(3, _), (0, _), (1, _), (2, _)]) dX5_readProduct_55 (by decide) rfl ?_
              refine x_aload_n dX5_readProduct_56 rfl ?_
              refine x_callV0 (mc1 := 0) (ms1 := 0) dX5_readProduct_57 cv_RX5_34 (ci := 5) (k_ob_287 cs) rfl (Nat.le_of_ble_eq_true rfl) (n1 := n - 1) (by omega) (by omega) (by omega) ?_
              refine sp_adv (G := fun cu2 c2 => Wr (OneF t l sl d cu2 c2) (OneG t l sl d cu2 c2) F (RmE (PrdV t l sl d F G (i + 1)) (8 * 16384 + 0))) cs (by omega) (out_imp hO (fun cu1 c1 ok ln _ k1 _ _ g => PrdV_s (o := 9) (k := 47) (by omega) (by decide) l3 ok ln (by omega) g)) (fun J57 f57 o57 => ?_)
              refine x_aload_n dX5_readProduct_60 rfl ?_
              refine x_iload_n dX5_readProduct_61 rfl ?_
              refine x_callV1 (mc1 := 0) (ms1 := 0) dX5_readProduct_62 cv_RX5_148 (ci := 5) (k_ob_287 cs) rfl (Nat.le_of_ble_eq_true rfl) (n1 := n - 1) (by omega) (by omega) (by omega) ?_
              refine h _ _ _ _ _ _ _ _ (by omega) o57 (fun J62 f62 o62 => ?_)
              refine x_aload_n dX5_readProduct_65 rfl ?_
              refine x_iload_n dX5_readProduct_66 rfl ?_
              refine x_iconst dX5_readProduct_67 ?_
              refine x_callV2 (mc1 := 0) (ms1 := 0) dX5_readProduct_68 cv_RX5_145 (ci := 5) (k_ob_287 cs) rfl (Nat.le_of_ble_eq_true rfl) (n1 := n - 1) (by omega) (by omega) (by omega) ?_
              refine sp_X5_emit (G := PrdV t l sl d F G (i + 1)) cs (by omega) (by omega) o62 (fun J68 f68 o68 => ?_)
              refine x_iinc (lv2 := [(2, _), (3, _), (0, _), (1, _)]) dX5_readProduct_71 rfl (by decide) rfl ?_
              refine x_goto 7 dX5_readProduct_74 (by decide) ?_
              refine x_sub [2, 3, 0] rfl ?_
              exact ih _ (by omega) (i + 1) _ (by omega) rfl (Frd.tr (Frd.tr (Frd.tr hF f57) f62) f68) o68
            · exfalso; omega
theorem sp_X5_readProduct (cs : CS S R) (hd : d ≤ 8) (hm : 6 ≤ m) (h : RdK S R mX5_readOne d m OneF OneG) : RdK S R mX5_readProduct d (m + 1) PrdF PrdG := by
  intro n Post I t l sl F G hn hO hp
  refine Call.of (by decide +kernel) (Nat.le_of_ble_eq_true rfl) ?_
  show WP _ _ _ _ _ 0 [(0, _), (1, _)] [] 0 0 _ _ _
  refine x_aload_n dX5_readProduct_0 rfl ?_
  refine x_iload_n dX5_readProduct_1 rfl ?_
  refine x_callV1 (mc1 := 0) (ms1 := 0) dX5_readProduct_2 cv_RX5_148 (ci := 5) (k_ob_287 cs) rfl (Nat.le_of_ble_eq_true rfl) (n1 := n - 1) (by omega) (by omega) (by omega) ?_
  refine h _ _ _ _ _ _ _ _ (by omega) (out_imp hO (fun cu c _ _ _ _ _ _ g => PrdV_0 g)) (fun J2 f2 o2 => ?_)
  refine x_iconst dX5_readProduct_5 ?_
  refine x_istore_n (lv2 := [(2, _), (0, _), (1, _)]) dX5_readProduct_6 (by decide) rfl ?_
  refine x_sub [1, 2, 0] rfl ?_
  exact lp_X5_readProduct cs hd hm h hn hp _ 0 _ (by omega) rfl f2 o2
theorem dX5_readSum_0 : decode prog_7_method_20_code 0 = .ok (.aload_n 0, 1) := by decide +kernel
theorem dX5_readSum_1 : decode prog_7_method_20_code 1 = .ok (.iload_n 1, 1) := by decide +kernel
theorem dX5_readSum_2 : decode prog_7_method_20_code 2 = .ok (.invokevirtual 142, 3) := by decide +kernel
theorem dX5_readSum_5 : decode prog_7_method_20_code 5 = .ok (.iconst 0, 1) := by decide +kernel
theorem dX5_readSum_6 : decode prog_7_method_20_code 6 = .ok (.istore_n 2, 1) := by decide +kernel
theorem dX5_readSum_7 : decode prog_7_method_20_code 7 = .ok (.iload_n 2, 1) := by decide +kernel
theorem dX5_readSum_8 : decode prog_7_method_20_code 8 = .ok (.sipush 300, 3) := by decide +kernel
theorem dX5_readSum_11 : decode prog_7_method_20_code 11 = .ok (.if_icmp .ge 65, 3) := by decide +kernel
theorem dX5_readSum_14 : decode prog_7_method_20_code 14 = .ok (.aload_n 0, 1) := by decide +kernel
theorem dX5_readSum_15 : decode prog_7_method_20_code 15 = .ok (.invokevirtual 37, 3) := by decide +kernel
theorem dX5_readSum_18 : decode prog_7_method_20_code 18 = .ok (.ifCond .eq 58, 3) := by decide +kernel
theorem dX5_readSum_21 : decode prog_7_method_20_code 21 = .ok (.aload_n 0, 1) := by decide +kernel
theorem dX5_readSum_22 : decode prog_7_method_20_code 22 = .ok (.getfield 41, 3) := by decide +kernel
theorem dX5_readSum_25 : decode prog_7_method_20_code 25 = .ok (.bipush 43, 2) := by decide +kernel
theorem dX5_readSum_27 : decode prog_7_method_20_code 27 = .ok (.if_icmp .eq 12, 3) := by decide +kernel
theorem dX5_readSum_30 : decode prog_7_method_20_code 30 = .ok (.aload_n 0, 1) := by decide +kernel
theorem dX5_readSum_31 : decode prog_7_method_20_code 31 = .ok (.getfield 41, 3) := by decide +kernel
theorem dX5_readSum_34 : decode prog_7_method_20_code 34 = .ok (.bipush 45, 2) := by decide +kernel
theorem dX5_readSum_36 : decode prog_7_method_20_code 36 = .ok (.if_icmp .ne 40, 3) := by decide +kernel
theorem dX5_readSum_39 : decode prog_7_method_20_code 39 = .ok (.aload_n 0, 1) := by decide +kernel
theorem dX5_readSum_40 : decode prog_7_method_20_code 40 = .ok (.getfield 41, 3) := by decide +kernel
theorem dX5_readSum_43 : decode prog_7_method_20_code 43 = .ok (.bipush 43, 2) := by decide +kernel
theorem dX5_readSum_45 : decode prog_7_method_20_code 45 = .ok (.if_icmp .ne 7, 3) := by decide +kernel
theorem dX5_readSum_48 : decode prog_7_method_20_code 48 = .ok (.iconst 5, 1) := by decide +kernel
theorem dX5_readSum_49 : decode prog_7_method_20_code 49 = .ok (.goto 5, 3) := by decide +kernel
theorem dX5_readSum_52 : decode prog_7_method_20_code 52 = .ok (.bipush 6, 2) := by decide +kernel
theorem dX5_readSum_54 : decode prog_7_method_20_code 54 = .ok (.istore_n 3, 1) := by decide +kernel
theorem dX5_readSum_55 : decode prog_7_method_20_code 55 = .ok (.aload_n 0, 1) := by decide +kernel
theorem dX5_readSum_56 : decode prog_7_method_20_code 56 = .ok (.invokevirtual 34, 3) := by decide +kernel
theorem dX5_readSum_59 : decode prog_7_method_20_code 59 = .ok (.aload_n 0, 1) := by decide +kernel
theorem dX5_readSum_60 : decode prog_7_method_20_code 60 = .ok (.iload_n 1, 1) := by decide +kernel
theorem dX5_readSum_61 : decode prog_7_method_20_code 61 = .ok (.invokevirtual 142, 3) := by decide +kernel
theorem dX5_readSum_64 : decode prog_7_method_20_code 64 = .ok (.aload_n 0, 1) := by decide +kernel
theorem dX5_readSum_65 : decode prog_7_method_20_code 65 = .ok (.iload_n 3, 1) := by decide +kernel
theorem dX5_readSum_66 : decode prog_7_method_20_code 66 = .ok (.iconst 0, 1) := by decide +kernel
theorem dX5_readSum_67 : decode prog_7_method_20_code 67 = .ok (.invokevirtual 145, 3) := by decide +kernel
theorem dX5_readSum_70 : decode prog_7_method_20_code 70 = .ok (.iinc 2 1, 3) := by decide +kernel
theorem dX5_readSum_73 : decode prog_7_method_20_code 73 = .ok (.goto (-66), 3) := by decide +kernel
theorem dX5_readSum_76 : decode prog_7_method_20_code 76 = .ok (.return_, 1) := by decide +kernel
theorem lp_X5_readSum (cs : CS S R) (hd : d ≤ 8) (hm : 6 ≤ m) (h : RdK S R mX5_readProduct d m PrdF PrdG) (hn : m + 1 ≤ n) (hp : ∀ J, Frd I J → OutC J t l sl F G → Post none S J R) : ∀ (e i : Nat) (J : CI), i ≤ 300 → 300 - i = e → Frd I J → OutC J t l sl F (SumV t l sl d F G i) → WP n 0 0 mX5_readSum Post 7 [(0, .ref (S.2.1 287)), (1, .int (iI (d : Int))), (2, .int (iI (i : Int)))] [] 0 0 S J R := by
  intro e
  induction e using Nat.strongRecOn with
  | ind e ih =>
    intro i J i1 i2 hF hO
    have hb := out_b hO
    have l3 := out_l hO
    refine x_iload_n dX5_readSum_7 rfl ?_
    refine x_sipush dX5_readSum_8 (by decide) ?_
    refine x_icmp_ge 76 dX5_readSum_11 (by decide) ⟨(by omega), (by omega)⟩ (fun w11 => ?_) (fun w11 => ?_)
    · first
      | exact x_return dX5_readSum_76 rfl (by omega) (by omega) (hp _ hF (out_flt hO (by omega)))
      | exact x_return dX5_readSum_76 rfl (by omega) (by omega) (hp _ hF (out_imp hO (fun cu1 c1 ok ln _ k1 _ _ g => by
         obtain ⟨cu, c, w, si, hi⟩ := g
         have o1 := ok.1
         have o2 := ok.2.1
         have o4 := ok.2.2.2.1
         exact w.2 _ _ ⟨si, by omega, by omega⟩)))
    · refine x_aload_n dX5_readSum_14 rfl ?_
      refine x_callV0 (mc1 := 0) (ms1 := 0) dX5_readSum_15 cv_RX5_37 (ci := 5) (k_ob_287 cs) rfl (Nat.le_of_ble_eq_true rfl) (n1 := n - 1) (by omega) (by omega) (by omega) ?_
      refine sp_X5_goesOn cs (by omega) (fun r15 hr15 => ?_)
      refine x_if_eq 76 dX5_readSum_18 (by decide) (by omega) (fun w18 => ?_) (fun w18 => ?_)
      · first
        | exact x_return dX5_readSum_76 rfl (by omega) (by omega) (hp _ hF (out_flt hO (by omega)))
        | exact x_return dX5_readSum_76 rfl (by omega) (by omega) (hp _ hF (out_imp hO (fun cu1 c1 ok ln _ k1 _ _ g => by
           obtain ⟨cu, c, w, si, hi⟩ := g
           have o1 := ok.1
           have o2 := ok.2.1
           have o4 := ok.2.2.2.1
           exact w.2 _ _ ⟨si, by omega, by omega⟩)))
      · refine x_aload_n dX5_readSum_21 rfl ?_
        refine x_getI dX5_readSum_22 gf_RX5_41 (k_ob_287 cs) (fun _ _ => rfl) ?_
        refine x_bipush dX5_readSum_25 (by decide) ?_
        refine x_icmp_eq 39 dX5_readSum_27 (by decide) ⟨(by omega), (by omega)⟩ (fun w27 => ?_) (fun w27 => ?_)
        · refine x_aload_n dX5_readSum_39 rfl ?_
          refine x_getI dX5_readSum_40 gf_RX5_41 (k_ob_287 cs) (fun _ _ => rfl) ?_
          refine x_bipush dX5_readSum_43 (by decide) ?_
          refine x_icmp_ne 52 dX5_readSum_45 (by decide) ⟨(by omega), (by omega)⟩ (fun w45 => ?_) (fun w45 => ?_)
          · exfalso; omega
          · refine x_iconst dX5_readSum_48 ?_
            refine x_goto 54 dX5_readSum_49 (by decide) ?_
            refine x_istore_n (lv2 := [(3, _), (0, _), (1, _), (2, _)]) dX5_readSum_54 (by decide) rfl ?_
            refine x_aload_n dX5_readSum_55 rfl ?_
            refine x_callV0 (mc1 := 0) (ms1 := 0) dX5_readSum_56 cv_RX5_34 (ci := 5) (k_ob_287 cs) rfl (Nat.le_of_ble_eq_true rfl) (n1 := n - 1) (by omega) (by omega) (by omega) ?_
            refine sp_adv (G := fun cu2 c2 => Wr (PrdF t l sl d cu2 c2) (PrdG t l sl d cu2 c2) F (RmE (SumV t l sl d F G (i + 1)) (5 * 16384 + 0))) cs (by omega) (out_imp hO (fun cu1 c1 ok ln _ k1 _ _ g => SumV_s (o := 6) (k := 43) (by omega) (by decide) l3 ok ln (by omega) g)) (fun J56 f56 o56 => ?_)
            refine x_aload_n dX5_readSum_59 rfl ?_
            refine x_iload_n dX5_readSum_60 rfl ?_
            refine x_callV1 (mc1 := 0) (ms1 := 0) dX5_readSum_61 cv_RX5_142 (ci := 5) (k_ob_287 cs) rfl (Nat.le_of_ble_eq_true rfl) (n1 := n - 1) (by omega) (by omega) (by omega) ?_
            refine h _ _ _ _ _ _ _ _ (by omega) o56 (fun J61 f61 o61 => ?_)
            refine x_aload_n dX5_readSum_64 rfl ?_
            refine x_iload_n dX5_readSum_65 rfl ?_
            refine x_iconst dX5_readSum_66 ?_
            refine x_callV2 (mc1 := 0) (ms1 := 0) dX5_readSum_67 cv_RX5_145 (ci := 5) (k_ob_287 cs) rfl (Nat.le_of_ble_eq_true rfl) (n1 := n - 1) (by omega) (by omega) (by omega) ?_
            refine sp_X5_emit (G := SumV t l sl d F G (i + 1)) cs (by omega) (by omega) o61 (fun J67 f67 o67 => ?_)
            refine x_iinc (lv2 := [(2, _), (3, _), (0, _), (1, _)]) dX5_readSum_70 rfl (by decide) rfl ?_
            refine x_goto 7 dX5_readSum_73 (by decide) ?_
            refine x_sub [2, 3, 0] rfl ?_
            exact ih _ (by omega) (i + 1) _ (by omega) rfl (Frd.tr (Frd.tr (Frd.tr hF f56) f61) f67) o67
        · refine x_aload_n dX5_readSum_30 rfl ?_
          refine x_getI dX5_readSum_31 gf_RX5_41 (k_ob_287 cs) (fun _ _ => rfl) ?_
          refine x_bipush dX5_readSum_34 (by decide) ?_
          refine x_icmp_ne 76 dX5_readSum_36 (by decide) ⟨(by omega), (by omega)⟩ (fun w36 => ?_) (fun w36 => ?_)
          · first
            | exact x_return dX5_readSum_76 rfl (by omega) (by omega) (hp _ hF (out_flt hO (by omega)))
            | exact x_return dX5_readSum_76 rfl (by omega) (by omega) (hp _ hF (out_imp hO (fun cu1 c1 ok ln _ k1 _ _ g => by
               obtain ⟨cu, c, w, si, hi⟩ := g
               have o1 := ok.1
               have o2 := ok.2.1
               have o4 := ok.2.2.2.1
               exact w.2 _ _ ⟨si, by omega, by omega⟩)))
          · refine x_aload_n dX5_readSum_39 rfl ?_
            refine x_getI dX5_readSum_40 gf_RX5_41 (k_ob_287 cs) (fun _ _ => rfl) ?_
            refine x_bipush dX5_readSum_43 (by decide) ?_
            refine x_icmp_ne 52 dX5_readSum_45 (by decide) ⟨(by omega), (by omega)⟩ (fun w45 => ?_) (fun w45 => ?_)
            · refine x_bipush dX5_readSum_52 (by decide) ?_
              refine x_istore_n (lv2 := [(3, _), (0, _), (1, _), (2, _)]) dX5_readSum_54 (by decide) rfl ?_
              refine x_aload_n dX5_readSum_55 rfl ?_
              refine x_callV0 (mc1 := 0) (ms1 := 0) dX5_readSum_56 cv_RX5_34 (ci := 5) (k_ob_287 cs) rfl (Nat.le_of_ble_eq_true rfl) (n1 := n - 1) (by omega) (by omega) (by omega) ?_
              refine sp_adv (G := fun cu2 c2 => Wr (PrdF t l sl d cu2 c2) (PrdG t l sl d cu2 c2) F (RmE (SumV t l sl d F G (i + 1)) (6 * 16384 + 0))) cs (by omega) (out_imp hO (fun cu1 c1 ok ln _ k1 _ _ g => SumV_s (o := 7) (k := 45) (by omega) (by decide) l3 ok ln (by omega) g)) (fun J56 f56 o56 => ?_)
              refine x_aload_n dX5_readSum_59 rfl ?_
              refine x_iload_n dX5_readSum_60 rfl ?_
              refine x_callV1 (mc1 := 0) (ms1 := 0) dX5_readSum_61 cv_RX5_142 (ci := 5) (k_ob_287 cs) rfl (Nat.le_of_ble_eq_true rfl) (n1 := n - 1) (by omega) (by omega) (by omega) ?_
              refine h _ _ _ _ _ _ _ _ (by omega) o56 (fun J61 f61 o61 => ?_)
              refine x_aload_n dX5_readSum_64 rfl ?_
              refine x_iload_n dX5_readSum_65 rfl ?_
              refine x_iconst dX5_readSum_66 ?_
              refine x_callV2 (mc1 := 0) (ms1 := 0) dX5_readSum_67 cv_RX5_145 (ci := 5) (k_ob_287 cs) rfl (Nat.le_of_ble_eq_true rfl) (n1 := n - 1) (by omega) (by omega) (by omega) ?_
              refine sp_X5_emit (G := SumV t l sl d F G (i + 1)) cs (by omega) (by omega) o61 (fun J67 f67 o67 => ?_)
              refine x_iinc (lv2 := [(2, _), (3, _), (0, _), (1, _)]) dX5_readSum_70 rfl (by decide) rfl ?_
              refine x_goto 7 dX5_readSum_73 (by decide) ?_
              refine x_sub [2, 3, 0] rfl ?_
              exact ih _ (by omega) (i + 1) _ (by omega) rfl (Frd.tr (Frd.tr (Frd.tr hF f56) f61) f67) o67
            · exfalso; omega
theorem sp_X5_readSum (cs : CS S R) (hd : d ≤ 8) (hm : 6 ≤ m) (h : RdK S R mX5_readProduct d m PrdF PrdG) : RdK S R mX5_readSum d (m + 1) SumF SumG := by
  intro n Post I t l sl F G hn hO hp
  refine Call.of (by decide +kernel) (Nat.le_of_ble_eq_true rfl) ?_
  show WP _ _ _ _ _ 0 [(0, _), (1, _)] [] 0 0 _ _ _
  refine x_aload_n dX5_readSum_0 rfl ?_
  refine x_iload_n dX5_readSum_1 rfl ?_
  refine x_callV1 (mc1 := 0) (ms1 := 0) dX5_readSum_2 cv_RX5_142 (ci := 5) (k_ob_287 cs) rfl (Nat.le_of_ble_eq_true rfl) (n1 := n - 1) (by omega) (by omega) (by omega) ?_
  refine h _ _ _ _ _ _ _ _ (by omega) (out_imp hO (fun cu c _ _ _ _ _ _ g => SumV_0 g)) (fun J2 f2 o2 => ?_)
  refine x_iconst dX5_readSum_5 ?_
  refine x_istore_n (lv2 := [(2, _), (0, _), (1, _)]) dX5_readSum_6 (by decide) rfl ?_
  refine x_sub [1, 2, 0] rfl ?_
  exact lp_X5_readSum cs hd hm h hn hp _ 0 _ (by omega) rfl f2 o2
theorem dX5_readBoth_0 : decode prog_7_method_28_code 0 = .ok (.aload_n 0, 1) := by decide +kernel
theorem dX5_readBoth_1 : decode prog_7_method_28_code 1 = .ok (.iload_n 1, 1) := by decide +kernel
theorem dX5_readBoth_2 : decode prog_7_method_28_code 2 = .ok (.invokevirtual 172, 3) := by decide +kernel
theorem dX5_readBoth_5 : decode prog_7_method_28_code 5 = .ok (.iconst 0, 1) := by decide +kernel
theorem dX5_readBoth_6 : decode prog_7_method_28_code 6 = .ok (.istore_n 2, 1) := by decide +kernel
theorem dX5_readBoth_7 : decode prog_7_method_28_code 7 = .ok (.iload_n 2, 1) := by decide +kernel
theorem dX5_readBoth_8 : decode prog_7_method_28_code 8 = .ok (.sipush 300, 3) := by decide +kernel
theorem dX5_readBoth_11 : decode prog_7_method_28_code 11 = .ok (.if_icmp .ge 42, 3) := by decide +kernel
theorem dX5_readBoth_14 : decode prog_7_method_28_code 14 = .ok (.aload_n 0, 1) := by decide +kernel
theorem dX5_readBoth_15 : decode prog_7_method_28_code 15 = .ok (.invokevirtual 37, 3) := by decide +kernel
theorem dX5_readBoth_18 : decode prog_7_method_28_code 18 = .ok (.ifCond .eq 35, 3) := by decide +kernel
theorem dX5_readBoth_21 : decode prog_7_method_28_code 21 = .ok (.aload_n 0, 1) := by decide +kernel
theorem dX5_readBoth_22 : decode prog_7_method_28_code 22 = .ok (.getfield 41, 3) := by decide +kernel
theorem dX5_readBoth_25 : decode prog_7_method_28_code 25 = .ok (.sipush 150, 3) := by decide +kernel
theorem dX5_readBoth_28 : decode prog_7_method_28_code 28 = .ok (.if_icmp .ne 25, 3) := by decide +kernel
theorem dX5_readBoth_31 : decode prog_7_method_28_code 31 = .ok (.aload_n 0, 1) := by decide +kernel
theorem dX5_readBoth_32 : decode prog_7_method_28_code 32 = .ok (.invokevirtual 34, 3) := by decide +kernel
theorem dX5_readBoth_35 : decode prog_7_method_28_code 35 = .ok (.aload_n 0, 1) := by decide +kernel
theorem dX5_readBoth_36 : decode prog_7_method_28_code 36 = .ok (.iload_n 1, 1) := by decide +kernel
theorem dX5_readBoth_37 : decode prog_7_method_28_code 37 = .ok (.invokevirtual 172, 3) := by decide +kernel
theorem dX5_readBoth_40 : decode prog_7_method_28_code 40 = .ok (.aload_n 0, 1) := by decide +kernel
theorem dX5_readBoth_41 : decode prog_7_method_28_code 41 = .ok (.bipush 16, 2) := by decide +kernel
theorem dX5_readBoth_43 : decode prog_7_method_28_code 43 = .ok (.iconst 0, 1) := by decide +kernel
theorem dX5_readBoth_44 : decode prog_7_method_28_code 44 = .ok (.invokevirtual 145, 3) := by decide +kernel
theorem dX5_readBoth_47 : decode prog_7_method_28_code 47 = .ok (.iinc 2 1, 3) := by decide +kernel
theorem dX5_readBoth_50 : decode prog_7_method_28_code 50 = .ok (.goto (-43), 3) := by decide +kernel
theorem dX5_readBoth_53 : decode prog_7_method_28_code 53 = .ok (.return_, 1) := by decide +kernel
theorem lp_X5_readBoth (cs : CS S R) (hd : d ≤ 8) (hm : 6 ≤ m) (h : RdK S R mX5_readAsk d m AskF AskG) (hn : m + 1 ≤ n) (hp : ∀ J, Frd I J → OutC J t l sl F G → Post none S J R) : ∀ (e i : Nat) (J : CI), i ≤ 300 → 300 - i = e → Frd I J → OutC J t l sl F (BthV t l sl d F G i) → WP n 0 0 mX5_readBoth Post 7 [(0, .ref (S.2.1 287)), (1, .int (iI (d : Int))), (2, .int (iI (i : Int)))] [] 0 0 S J R := by
  intro e
  induction e using Nat.strongRecOn with
  | ind e ih =>
    intro i J i1 i2 hF hO
    have hb := out_b hO
    have l3 := out_l hO
    refine x_iload_n dX5_readBoth_7 rfl ?_
    refine x_sipush dX5_readBoth_8 (by decide) ?_
    refine x_icmp_ge 53 dX5_readBoth_11 (by decide) ⟨(by omega), (by omega)⟩ (fun w11 => ?_) (fun w11 => ?_)
    · first
      | exact x_return dX5_readBoth_53 rfl (by omega) (by omega) (hp _ hF (out_flt hO (by omega)))
      | exact x_return dX5_readBoth_53 rfl (by omega) (by omega) (hp _ hF (out_imp hO (fun cu1 c1 ok ln _ k1 _ _ g => by
         obtain ⟨cu, c, w, si, hi⟩ := g
         have o1 := ok.1
         have o2 := ok.2.1
         have o4 := ok.2.2.2.1
         exact w.2 _ _ ⟨si, by omega⟩)))
    · refine x_aload_n dX5_readBoth_14 rfl ?_
      refine x_callV0 (mc1 := 0) (ms1 := 0) dX5_readBoth_15 cv_RX5_37 (ci := 5) (k_ob_287 cs) rfl (Nat.le_of_ble_eq_true rfl) (n1 := n - 1) (by omega) (by omega) (by omega) ?_
      refine sp_X5_goesOn cs (by omega) (fun r15 hr15 => ?_)
      refine x_if_eq 53 dX5_readBoth_18 (by decide) (by omega) (fun w18 => ?_) (fun w18 => ?_)
      · first
        | exact x_return dX5_readBoth_53 rfl (by omega) (by omega) (hp _ hF (out_flt hO (by omega)))
        | exact x_return dX5_readBoth_53 rfl (by omega) (by omega) (hp _ hF (out_imp hO (fun cu1 c1 ok ln _ k1 _ _ g => by
           obtain ⟨cu, c, w, si, hi⟩ := g
           have o1 := ok.1
           have o2 := ok.2.1
           have o4 := ok.2.2.2.1
           exact w.2 _ _ ⟨si, by omega⟩)))
      · refine x_aload_n dX5_readBoth_21 rfl ?_
        refine x_getI dX5_readBoth_22 gf_RX5_41 (k_ob_287 cs) (fun _ _ => rfl) ?_
        refine x_sipush dX5_readBoth_25 (by decide) ?_
        refine x_icmp_ne 53 dX5_readBoth_28 (by decide) ⟨(by omega), (by omega)⟩ (fun w28 => ?_) (fun w28 => ?_)
        · first
          | exact x_return dX5_readBoth_53 rfl (by omega) (by omega) (hp _ hF (out_flt hO (by omega)))
          | exact x_return dX5_readBoth_53 rfl (by omega) (by omega) (hp _ hF (out_imp hO (fun cu1 c1 ok ln _ k1 _ _ g => by
             obtain ⟨cu, c, w, si, hi⟩ := g
             have o1 := ok.1
             have o2 := ok.2.1
             have o4 := ok.2.2.2.1
             exact w.2 _ _ ⟨si, by omega⟩)))
        · refine x_aload_n dX5_readBoth_31 rfl ?_
          refine x_callV0 (mc1 := 0) (ms1 := 0) dX5_readBoth_32 cv_RX5_34 (ci := 5) (k_ob_287 cs) rfl (Nat.le_of_ble_eq_true rfl) (n1 := n - 1) (by omega) (by omega) (by omega) ?_
          refine sp_adv (G := fun cu2 c2 => Wr (AskF t l sl d cu2 c2) (AskG t l sl d cu2 c2) F (RmE (BthV t l sl d F G (i + 1)) (16 * 16384 + 0))) cs (by omega) (out_imp hO (fun cu1 c1 ok ln _ k1 _ _ g => BthV_s (by decide) l3 ok ln (by omega) g)) (fun J32 f32 o32 => ?_)
          refine x_aload_n dX5_readBoth_35 rfl ?_
          refine x_iload_n dX5_readBoth_36 rfl ?_
          refine x_callV1 (mc1 := 0) (ms1 := 0) dX5_readBoth_37 cv_RX5_172 (ci := 5) (k_ob_287 cs) rfl (Nat.le_of_ble_eq_true rfl) (n1 := n - 1) (by omega) (by omega) (by omega) ?_
          refine h _ _ _ _ _ _ _ _ (by omega) o32 (fun J37 f37 o37 => ?_)
          refine x_aload_n dX5_readBoth_40 rfl ?_
          refine x_bipush dX5_readBoth_41 (by decide) ?_
          refine x_iconst dX5_readBoth_43 ?_
          refine x_callV2 (mc1 := 0) (ms1 := 0) dX5_readBoth_44 cv_RX5_145 (ci := 5) (k_ob_287 cs) rfl (Nat.le_of_ble_eq_true rfl) (n1 := n - 1) (by omega) (by omega) (by omega) ?_
          refine sp_X5_emit (G := BthV t l sl d F G (i + 1)) cs (by omega) (by omega) o37 (fun J44 f44 o44 => ?_)
          refine x_iinc (lv2 := [(2, _), (0, _), (1, _)]) dX5_readBoth_47 rfl (by decide) rfl ?_
          refine x_goto 7 dX5_readBoth_50 (by decide) ?_
          refine x_sub [1, 2, 0] rfl ?_
          exact ih _ (by omega) (i + 1) _ (by omega) rfl (Frd.tr (Frd.tr (Frd.tr hF f32) f37) f44) o44
theorem sp_X5_readBoth (cs : CS S R) (hd : d ≤ 8) (hm : 6 ≤ m) (h : RdK S R mX5_readAsk d m AskF AskG) : RdK S R mX5_readBoth d (m + 1) BthF BthG := by
  intro n Post I t l sl F G hn hO hp
  refine Call.of (by decide +kernel) (Nat.le_of_ble_eq_true rfl) ?_
  show WP _ _ _ _ _ 0 [(0, _), (1, _)] [] 0 0 _ _ _
  refine x_aload_n dX5_readBoth_0 rfl ?_
  refine x_iload_n dX5_readBoth_1 rfl ?_
  refine x_callV1 (mc1 := 0) (ms1 := 0) dX5_readBoth_2 cv_RX5_172 (ci := 5) (k_ob_287 cs) rfl (Nat.le_of_ble_eq_true rfl) (n1 := n - 1) (by omega) (by omega) (by omega) ?_
  refine h _ _ _ _ _ _ _ _ (by omega) (out_imp hO (fun cu c _ _ _ _ _ _ g => BthV_0 g)) (fun J2 f2 o2 => ?_)
  refine x_iconst dX5_readBoth_5 ?_
  refine x_istore_n (lv2 := [(2, _), (0, _), (1, _)]) dX5_readBoth_6 (by decide) rfl ?_
  refine x_sub [1, 2, 0] rfl ?_
  exact lp_X5_readBoth cs hd hm h hn hp _ 0 _ (by omega) rfl f2 o2
theorem dX5_readEither_0 : decode prog_7_method_27_code 0 = .ok (.aload_n 0, 1) := by decide +kernel
theorem dX5_readEither_1 : decode prog_7_method_27_code 1 = .ok (.iload_n 1, 1) := by decide +kernel
theorem dX5_readEither_2 : decode prog_7_method_27_code 2 = .ok (.invokevirtual 169, 3) := by decide +kernel
theorem dX5_readEither_5 : decode prog_7_method_27_code 5 = .ok (.iconst 0, 1) := by decide +kernel
theorem dX5_readEither_6 : decode prog_7_method_27_code 6 = .ok (.istore_n 2, 1) := by decide +kernel
theorem dX5_readEither_7 : decode prog_7_method_27_code 7 = .ok (.iload_n 2, 1) := by decide +kernel
theorem dX5_readEither_8 : decode prog_7_method_27_code 8 = .ok (.sipush 300, 3) := by decide +kernel
theorem dX5_readEither_11 : decode prog_7_method_27_code 11 = .ok (.if_icmp .ge 42, 3) := by decide +kernel
theorem dX5_readEither_14 : decode prog_7_method_27_code 14 = .ok (.aload_n 0, 1) := by decide +kernel
theorem dX5_readEither_15 : decode prog_7_method_27_code 15 = .ok (.invokevirtual 37, 3) := by decide +kernel
theorem dX5_readEither_18 : decode prog_7_method_27_code 18 = .ok (.ifCond .eq 35, 3) := by decide +kernel
theorem dX5_readEither_21 : decode prog_7_method_27_code 21 = .ok (.aload_n 0, 1) := by decide +kernel
theorem dX5_readEither_22 : decode prog_7_method_27_code 22 = .ok (.getfield 41, 3) := by decide +kernel
theorem dX5_readEither_25 : decode prog_7_method_27_code 25 = .ok (.sipush 151, 3) := by decide +kernel
theorem dX5_readEither_28 : decode prog_7_method_27_code 28 = .ok (.if_icmp .ne 25, 3) := by decide +kernel
theorem dX5_readEither_31 : decode prog_7_method_27_code 31 = .ok (.aload_n 0, 1) := by decide +kernel
theorem dX5_readEither_32 : decode prog_7_method_27_code 32 = .ok (.invokevirtual 34, 3) := by decide +kernel
theorem dX5_readEither_35 : decode prog_7_method_27_code 35 = .ok (.aload_n 0, 1) := by decide +kernel
theorem dX5_readEither_36 : decode prog_7_method_27_code 36 = .ok (.iload_n 1, 1) := by decide +kernel
theorem dX5_readEither_37 : decode prog_7_method_27_code 37 = .ok (.invokevirtual 169, 3) := by decide +kernel
theorem dX5_readEither_40 : decode prog_7_method_27_code 40 = .ok (.aload_n 0, 1) := by decide +kernel
theorem dX5_readEither_41 : decode prog_7_method_27_code 41 = .ok (.bipush 17, 2) := by decide +kernel
theorem dX5_readEither_43 : decode prog_7_method_27_code 43 = .ok (.iconst 0, 1) := by decide +kernel
theorem dX5_readEither_44 : decode prog_7_method_27_code 44 = .ok (.invokevirtual 145, 3) := by decide +kernel
theorem dX5_readEither_47 : decode prog_7_method_27_code 47 = .ok (.iinc 2 1, 3) := by decide +kernel
theorem dX5_readEither_50 : decode prog_7_method_27_code 50 = .ok (.goto (-43), 3) := by decide +kernel
theorem dX5_readEither_53 : decode prog_7_method_27_code 53 = .ok (.return_, 1) := by decide +kernel
theorem lp_X5_readEither (cs : CS S R) (hd : d ≤ 8) (hm : 6 ≤ m) (h : RdK S R mX5_readBoth d m BthF BthG) (hn : m + 1 ≤ n) (hp : ∀ J, Frd I J → OutC J t l sl F G → Post none S J R) : ∀ (e i : Nat) (J : CI), i ≤ 300 → 300 - i = e → Frd I J → OutC J t l sl F (EitV t l sl d F G i) → WP n 0 0 mX5_readEither Post 7 [(0, .ref (S.2.1 287)), (1, .int (iI (d : Int))), (2, .int (iI (i : Int)))] [] 0 0 S J R := by
  intro e
  induction e using Nat.strongRecOn with
  | ind e ih =>
    intro i J i1 i2 hF hO
    have hb := out_b hO
    have l3 := out_l hO
    refine x_iload_n dX5_readEither_7 rfl ?_
    refine x_sipush dX5_readEither_8 (by decide) ?_
    refine x_icmp_ge 53 dX5_readEither_11 (by decide) ⟨(by omega), (by omega)⟩ (fun w11 => ?_) (fun w11 => ?_)
    · first
      | exact x_return dX5_readEither_53 rfl (by omega) (by omega) (hp _ hF (out_flt hO (by omega)))
      | exact x_return dX5_readEither_53 rfl (by omega) (by omega) (hp _ hF (out_imp hO (fun cu1 c1 ok ln _ k1 _ _ g => by
         obtain ⟨cu, c, w, si, hi⟩ := g
         have o1 := ok.1
         have o2 := ok.2.1
         have o4 := ok.2.2.2.1
         exact w.2 _ _ ⟨si, by omega⟩)))
    · refine x_aload_n dX5_readEither_14 rfl ?_
      refine x_callV0 (mc1 := 0) (ms1 := 0) dX5_readEither_15 cv_RX5_37 (ci := 5) (k_ob_287 cs) rfl (Nat.le_of_ble_eq_true rfl) (n1 := n - 1) (by omega) (by omega) (by omega) ?_
      refine sp_X5_goesOn cs (by omega) (fun r15 hr15 => ?_)
      refine x_if_eq 53 dX5_readEither_18 (by decide) (by omega) (fun w18 => ?_) (fun w18 => ?_)
      · first
        | exact x_return dX5_readEither_53 rfl (by omega) (by omega) (hp _ hF (out_flt hO (by omega)))
        | exact x_return dX5_readEither_53 rfl (by omega) (by omega) (hp _ hF (out_imp hO (fun cu1 c1 ok ln _ k1 _ _ g => by
           obtain ⟨cu, c, w, si, hi⟩ := g
           have o1 := ok.1
           have o2 := ok.2.1
           have o4 := ok.2.2.2.1
           exact w.2 _ _ ⟨si, by omega⟩)))
      · refine x_aload_n dX5_readEither_21 rfl ?_
        refine x_getI dX5_readEither_22 gf_RX5_41 (k_ob_287 cs) (fun _ _ => rfl) ?_
        refine x_sipush dX5_readEither_25 (by decide) ?_
        refine x_icmp_ne 53 dX5_readEither_28 (by decide) ⟨(by omega), (by omega)⟩ (fun w28 => ?_) (fun w28 => ?_)
        · first
          | exact x_return dX5_readEither_53 rfl (by omega) (by omega) (hp _ hF (out_flt hO (by omega)))
          | exact x_return dX5_readEither_53 rfl (by omega) (by omega) (hp _ hF (out_imp hO (fun cu1 c1 ok ln _ k1 _ _ g => by
             obtain ⟨cu, c, w, si, hi⟩ := g
             have o1 := ok.1
             have o2 := ok.2.1
             have o4 := ok.2.2.2.1
             exact w.2 _ _ ⟨si, by omega⟩)))
        · refine x_aload_n dX5_readEither_31 rfl ?_
          refine x_callV0 (mc1 := 0) (ms1 := 0) dX5_readEither_32 cv_RX5_34 (ci := 5) (k_ob_287 cs) rfl (Nat.le_of_ble_eq_true rfl) (n1 := n - 1) (by omega) (by omega) (by omega) ?_
          refine sp_adv (G := fun cu2 c2 => Wr (BthF t l sl d cu2 c2) (BthG t l sl d cu2 c2) F (RmE (EitV t l sl d F G (i + 1)) (17 * 16384 + 0))) cs (by omega) (out_imp hO (fun cu1 c1 ok ln _ k1 _ _ g => EitV_s (by decide) l3 ok ln (by omega) g)) (fun J32 f32 o32 => ?_)
          refine x_aload_n dX5_readEither_35 rfl ?_
          refine x_iload_n dX5_readEither_36 rfl ?_
          refine x_callV1 (mc1 := 0) (ms1 := 0) dX5_readEither_37 cv_RX5_169 (ci := 5) (k_ob_287 cs) rfl (Nat.le_of_ble_eq_true rfl) (n1 := n - 1) (by omega) (by omega) (by omega) ?_
          refine h _ _ _ _ _ _ _ _ (by omega) o32 (fun J37 f37 o37 => ?_)
          refine x_aload_n dX5_readEither_40 rfl ?_
          refine x_bipush dX5_readEither_41 (by decide) ?_
          refine x_iconst dX5_readEither_43 ?_
          refine x_callV2 (mc1 := 0) (ms1 := 0) dX5_readEither_44 cv_RX5_145 (ci := 5) (k_ob_287 cs) rfl (Nat.le_of_ble_eq_true rfl) (n1 := n - 1) (by omega) (by omega) (by omega) ?_
          refine sp_X5_emit (G := EitV t l sl d F G (i + 1)) cs (by omega) (by omega) o37 (fun J44 f44 o44 => ?_)
          refine x_iinc (lv2 := [(2, _), (0, _), (1, _)]) dX5_readEither_47 rfl (by decide) rfl ?_
          refine x_goto 7 dX5_readEither_50 (by decide) ?_
          refine x_sub [1, 2, 0] rfl ?_
          exact ih _ (by omega) (i + 1) _ (by omega) rfl (Frd.tr (Frd.tr (Frd.tr hF f32) f37) f44) o44
theorem sp_X5_readEither (cs : CS S R) (hd : d ≤ 8) (hm : 6 ≤ m) (h : RdK S R mX5_readBoth d m BthF BthG) : RdK S R mX5_readEither d (m + 1) EitF EitG := by
  intro n Post I t l sl F G hn hO hp
  refine Call.of (by decide +kernel) (Nat.le_of_ble_eq_true rfl) ?_
  show WP _ _ _ _ _ 0 [(0, _), (1, _)] [] 0 0 _ _ _
  refine x_aload_n dX5_readEither_0 rfl ?_
  refine x_iload_n dX5_readEither_1 rfl ?_
  refine x_callV1 (mc1 := 0) (ms1 := 0) dX5_readEither_2 cv_RX5_169 (ci := 5) (k_ob_287 cs) rfl (Nat.le_of_ble_eq_true rfl) (n1 := n - 1) (by omega) (by omega) (by omega) ?_
  refine h _ _ _ _ _ _ _ _ (by omega) (out_imp hO (fun cu c _ _ _ _ _ _ g => EitV_0 g)) (fun J2 f2 o2 => ?_)
  refine x_iconst dX5_readEither_5 ?_
  refine x_istore_n (lv2 := [(2, _), (0, _), (1, _)]) dX5_readEither_6 (by decide) rfl ?_
  refine x_sub [1, 2, 0] rfl ?_
  exact lp_X5_readEither cs hd hm h hn hp _ 0 _ (by omega) rfl f2 o2
end Rd2
