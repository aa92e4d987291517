section Rd4
variable {n mc ms : Nat} {M : Md} {pc : Nat} {lv : List (Nat × Value)} {st : List Value} {k j : Nat} {Post : PT} {S : Sh} {I : CI} {R : CR} {A : Nat → Int} {tx : Nat → Nat → Int}
variable {t : Nat → Int} {l : Nat} {sl : Bool} {F : Int → Nat → Prop} {G G2 : Cu → List Int → Prop} {cu cu1 cu2 cu3 : Cu} {c c1 c2 c3 : List Int} {f : Int} {pl : Nat}
def CB (J : CI) : Prop := ∀ i, i < 96 → 0 ≤ J 290 i ∧ J 290 i ≤ 9999
theorem CB.u {J : CI} {q : Nat} {v : Int} (h : CB J) (hv : 0 ≤ v ∧ v ≤ 9999) : CB (uI J 290 q v) := by
  intro i hi
  by_cases hq : i = q
  · rw [hq, uI_s]; exact hv
  · rw [uI_o (by omega)]; exact h i hi
theorem CB.w {J K : CI} (h : CB J) (hk : K 290 = J 290) : CB K := by intro i hi; rw [hk]; exact h i hi
theorem out_imp2 {J : CI} (h : OutC J t l sl F G) (hi : ∀ cu c, RdC J l cu c → J 287 4 = 0 → G cu c → G2 cu c) : OutC J t l sl F G2 := by
  refine ⟨h.1, ?_⟩
  rcases h.2 with h1 | ⟨h0, cu, c, h1, h2⟩
  · exact Or.inl h1
  · exact Or.inr ⟨h0, cu, c, h1, hi cu c h1 h0 h2⟩
/-- other cells, or fields that a reading doesn't look at -/
def Foc (I J : CI) : Prop := J 288 = I 288 ∧ J 289 = I 289 ∧ ∀ k, (k < 7 ∨ 12 < k) → J 287 k = I 287 k
theorem cuc_fr {J : CI} (h : CuC I cu) (f : ∀ k, (k < 7 ∨ 12 < k) → J 287 k = I 287 k) : CuC J cu := ⟨by rw [f 13 (by omega)]; exact h.1, by rw [f 14 (by omega)]; exact h.2.1, by rw [f 15 (by omega)]; exact h.2.2.1, fun h9 => by rw [f 16 (by omega)]; exact h.2.2.2 h9⟩
theorem rdc_fr {J : CI} (h : RdC I l cu c) (f : Foc I J) : RdC J l cu c := ⟨cuc_fr h.1 f.2.2, h.2.1, by rw [f.2.2 6 (by omega)]; exact h.2.2.1, fun i hi => by rw [f.2.1]; exact h.2.2.2.1 i hi, h.2.2.2.2.1, by rw [f.2.2 5 (by omega)]; exact h.2.2.2.2.2⟩
theorem tpc_fr {J : CI} (h : TpC I t l) (f : Foc I J) : TpC J t l := ⟨f.1.trans h.1, (f.2.2 3 (by omega)).trans h.2.1, h.2.2⟩
theorem out_fr {J : CI} {sm : Bool} (h : OutC I t l sl F G) (f : Foc I J) (hs : (J 287 12 = 1 ∧ sm = true) ∨ (J 287 12 = 0 ∧ sm = false)) : OutC J t l sm F G := by
  refine ⟨⟨tpc_fr h.1.1 f, hs⟩, ?_⟩
  rw [f.2.2 4 (by omega), f.2.2 5 (by omega)]
  rcases h.2 with ⟨h1, ⟨cu, h2, h3⟩, h4⟩ | ⟨h0, cu, c, h1, h2⟩
  · exact Or.inl ⟨h1, ⟨cu, cuc_fr h2 f.2.2, h3⟩, h4⟩
  · exact Or.inr ⟨h0, cu, c, rdc_fr h1 f, h2⟩
theorem Foc.rf : Foc I I := ⟨rfl, rfl, fun _ _ => rfl⟩
theorem Foc.u7 {J : CI} {q : Nat} {v : Int} (h : Foc I J) (hq : 7 ≤ q ∧ q ≤ 12) : Foc I (uI J 287 q v) := ⟨by rw [← h.1]; funext i; rw [uI_o (by omega)], by rw [← h.2.1]; funext i; rw [uI_o (by omega)], fun k hk => by rw [uI_o (by omega)]; exact h.2.2 k hk⟩
theorem Foc.u0 {J : CI} {q : Nat} {v : Int} (h : Foc I J) : Foc I (uI J 290 q v) := ⟨by rw [← h.1]; funext i; rw [uI_o (by omega)], by rw [← h.2.1]; funext i; rw [uI_o (by omega)], fun k hk => by rw [uI_o (by omega)]; exact h.2.2 k hk⟩
/-- all that a reading of clauses changes -/
def Frc (I J : CI) : Prop := (∀ c, c ≠ 287 → c ≠ 289 → c ≠ 290 → J c = I c) ∧ ∀ k, (k < 4 ∨ 16 < k) → J 287 k = I 287 k
theorem Frc.rf {I : CI} : Frc I I := ⟨fun _ _ _ _ => rfl, fun _ _ => rfl⟩
theorem Frc.tr {I J K : CI} (h : Frc I J) (h2 : Frc J K) : Frc I K := ⟨fun c a b d => (h2.1 c a b d).trans (h.1 c a b d), fun k a => (h2.2 k a).trans (h.2 k a)⟩
theorem Frd.fc {I J : CI} (h : Frd I J) : Frc I J := ⟨fun c a b _ => h.1 c a b, fun k a => h.2 k (by omega)⟩
theorem Frc.u7 {J : CI} {q : Nat} {v : Int} (h : Frc I J) (hq : 4 ≤ q ∧ q ≤ 16) : Frc I (uI J 287 q v) := ⟨fun c hc h9 h8 => by funext i; rw [uI_o (Or.inl hc), h.1 c hc h9 h8], fun i hi => by rw [uI_o (by omega)]; exact h.2 i hi⟩
theorem Frc.u0 {J : CI} {q : Nat} {v : Int} (h : Frc I J) : Frc I (uI J 290 q v) := ⟨fun c hc h9 h8 => by funext i; rw [uI_o (Or.inl h8), h.1 c hc h9 h8], fun i hi => by rw [uI_o (by omega)]; exact h.2 i hi⟩
theorem Frd.cb {I J : CI} (h : Frd I J) (hc : CB I) : CB J := hc.w (h.1 290 (by omega) (by omega))
theorem fig_b {lo hi : Int} : figF lo hi cu = 0 ∨ figF lo hi cu = 1 ∨ figF lo hi cu = 2 := by unfold figF; split <;> (try split) <;> omega
theorem fig_0 {lo hi : Int} : figF lo hi cu = 0 ↔ cu.2.2.1 = 2 ∧ lo ≤ cu.2.2.2 ∧ cu.2.2.2 ≤ hi := by
  unfold figF
  constructor
  · intro h
    split at h
    · split at h
      · rename_i h1 h2; exact ⟨h1, h2⟩
      · omega
    · omega
  · intro h
    rw [if_pos h.1, if_pos h.2]
theorem fig_1 {lo hi : Int} (h : cu.2.2.1 ≠ 2) : figF lo hi cu = 1 := if_neg h
theorem fig_2 {lo hi : Int} (h : cu.2.2.1 = 2) (h2 : ¬ (lo ≤ cu.2.2.2 ∧ cu.2.2.2 ≤ hi)) : figF lo hi cu = 2 := by unfold figF; rw [if_pos h, if_neg h2]
/-- what is wanted ahead of a number -/
def NmW (lo hi : Int) (F : Int → Nat → Prop) (G : Int → Cu → List Int → Prop) (t : Nat → Int) (l : Nat) (cu : Cu) (c : List Int) : Prop := (figF lo hi cu ≠ 0 → F (figF lo hi cu) cu.2.1) ∧ (figF lo hi cu = 0 → G cu.2.2.2 (adv t l cu.1) c)
def ExW (w : Int) (F : Int → Nat → Prop) (G : Cu → List Int → Prop) (t : Nat → Int) (l : Nat) (cu : Cu) (c : List Int) : Prop := (cu.2.2.1 ≠ w → F 1 cu.2.1) ∧ (cu.2.2.1 = w → G (adv t l cu.1) c)
theorem sp_num {lo hi : Int} {Gv : Int → Cu → List Int → Prop} (cs : CS S R) (hn : 6 ≤ n) (hw : 0 ≤ lo ∧ lo ≤ hi ∧ hi ≤ 9999) (hO : OutC I t l sl F (NmW lo hi F Gv t l)) (hp : ∀ v J, (lo ≤ v ∧ v ≤ hi) → Frd I J → OutC J t l sl F (Gv v) → Post (some (.int (iI v))) S J R) : Call n 0 0 mX5_takeNumber [.ref (S.2.1 287), .int (iI lo), .int (iI hi)] S I R Post :=
  sp_X5_takeNumber (Gv := Gv) cs hn hw (out_imp hO (fun cu c _ _ _ _ _ _ g => ⟨fun h => by have h1 := fig_1 (lo := lo) (hi := hi) h; have h2 := g.1 (by omega); rw [h1] at h2; exact h2, fun h h3 => by have h1 := fig_2 h h3; have h2 := g.1 (by omega); rw [h1] at h2; exact h2, fun h h3 h4 => g.2 (fig_0.mpr ⟨h, h3, h4⟩)⟩)) hp
def DeW (w : Int) (F : Int → Nat → Prop) (G : Int × Int × Int → Cu → List Int → Prop) (t : Nat → Int) (l : Nat) (cu : Cu) (c : List Int) : Prop := ((deed t l w cu).1 ≠ 0 → F (deed t l w cu).1 (deed t l w cu).2.2.2.1) ∧ ((deed t l w cu).1 = 0 → G (deed t l w cu).2.1 (deed t l w cu).2.2 c)
theorem de_q {G : Int × Int × Int → Cu → List Int → Prop} (h : DeW 138 F G t l cu c) : NmW 0 5 F (fun v1 => ExW 139 F (NmW 0 5 F (fun v2 => ExW 131 F (NmW 1 99 F (fun v3 => G (v1, v2, v3)) t l) t l) t l) t l) t l cu c := by
  obtain ⟨h1, h2⟩ := h
  unfold deed at h1 h2
  rw [if_pos rfl] at h1 h2
  refine ⟨fun e => by rw [if_neg e] at h1; exact h1 e, fun e => ?_⟩
  rw [if_pos e] at h1 h2
  refine ⟨fun e => by rw [if_neg e] at h1; exact h1 (show (1 : Int) ≠ 0 by decide), fun e => ?_⟩
  rw [if_pos e] at h1 h2
  refine ⟨fun e => by rw [if_neg e] at h1; exact h1 e, fun e => ?_⟩
  rw [if_pos e] at h1 h2
  refine ⟨fun e => by rw [if_neg e] at h1; exact h1 (show (1 : Int) ≠ 0 by decide), fun e => ?_⟩
  rw [if_pos e] at h1 h2
  refine ⟨fun e => by rw [if_neg e] at h1; exact h1 e, fun e => ?_⟩
  rw [if_pos e] at h1 h2
  exact h2 rfl
theorem de_o {w : Int} {G : Int × Int × Int → Cu → List Int → Prop} (hw : w ≠ 138) (h : DeW w F G t l cu c) : NmW (dlo w) (dhi w) F (fun v1 => G (v1, 0, 0)) t l cu c := by
  obtain ⟨h1, h2⟩ := h
  unfold deed at h1 h2
  rw [if_neg hw] at h1 h2
  refine ⟨fun e => by rw [if_neg e] at h1; exact h1 e, fun e => ?_⟩
  rw [if_pos e] at h2
  exact h2 rfl
theorem dX5_beginsClause_0 : decode prog_7_method_14_code 0 = .ok (.iload_n 0, 1) := by decide +kernel
theorem dX5_beginsClause_1 : decode prog_7_method_14_code 1 = .ok (.tableswitch 77 128 142 #[75, 77, 77, 77, 77, 77, 77, 77, 75, 75, 75, 77, 75, 75, 75], 75) := by decide +kernel
theorem dX5_beginsClause_76 : decode prog_7_method_14_code 76 = .ok (.iconst 1, 1) := by decide +kernel
theorem dX5_beginsClause_77 : decode prog_7_method_14_code 77 = .ok (.ireturn, 1) := by decide +kernel
theorem dX5_beginsClause_78 : decode prog_7_method_14_code 78 = .ok (.iconst 0, 1) := by decide +kernel
theorem dX5_beginsClause_79 : decode prog_7_method_14_code 79 = .ok (.ireturn, 1) := by decide +kernel
theorem sp_X5_beginsClause {x : Int} (hx : Rg x) (hp : ∀ r : Int, (r = 1 ∧ isCl x ∨ r = 0 ∧ ¬ isCl x) → Post (some (.int (iI r))) S I R) : Call n 0 0 mX5_beginsClause [.int (iI x)] S I R Post := by
  refine Call.of (by decide +kernel) (Nat.le_of_ble_eq_true rfl) ?_
  show WP _ _ _ _ _ 0 [(0, _)] [] 0 0 _ _ _
  refine x_iload_n dX5_beginsClause_0 rfl ?_
  by_cases t1_0 : x = 128
  · refine x_tableIn 76 dX5_beginsClause_1 (by omega) (by omega) (by rw [t1_0]; rfl) (by decide) ?_
    refine x_iconst dX5_beginsClause_76 ?_
    exact x_zreturn (by omega) dX5_beginsClause_77 rfl (by omega) (by omega) (hp _ (by omega))
  by_cases t1_1 : x = 129
  · refine x_tableIn 78 dX5_beginsClause_1 (by omega) (by omega) (by rw [t1_1]; rfl) (by decide) ?_
    refine x_iconst dX5_beginsClause_78 ?_
    exact x_zreturn (by omega) dX5_beginsClause_79 rfl (by omega) (by omega) (hp _ (by omega))
  by_cases t1_2 : x = 130
  · refine x_tableIn 78 dX5_beginsClause_1 (by omega) (by omega) (by rw [t1_2]; rfl) (by decide) ?_
    refine x_iconst dX5_beginsClause_78 ?_
    exact x_zreturn (by omega) dX5_beginsClause_79 rfl (by omega) (by omega) (hp _ (by omega))
  by_cases t1_3 : x = 131
  · refine x_tableIn 78 dX5_beginsClause_1 (by omega) (by omega) (by rw [t1_3]; rfl) (by decide) ?_
    refine x_iconst dX5_beginsClause_78 ?_
    exact x_zreturn (by omega) dX5_beginsClause_79 rfl (by omega) (by omega) (hp _ (by omega))
  by_cases t1_4 : x = 132
  · refine x_tableIn 78 dX5_beginsClause_1 (by omega) (by omega) (by rw [t1_4]; rfl) (by decide) ?_
    refine x_iconst dX5_beginsClause_78 ?_
    exact x_zreturn (by omega) dX5_beginsClause_79 rfl (by omega) (by omega) (hp _ (by omega))
  by_cases t1_5 : x = 133
  · refine x_tableIn 78 dX5_beginsClause_1 (by omega) (by omega) (by rw [t1_5]; rfl) (by decide) ?_
    refine x_iconst dX5_beginsClause_78 ?_
    exact x_zreturn (by omega) dX5_beginsClause_79 rfl (by omega) (by omega) (hp _ (by omega))
  by_cases t1_6 : x = 134
  · refine x_tableIn 78 dX5_beginsClause_1 (by omega) (by omega) (by rw [t1_6]; rfl) (by decide) ?_
    refine x_iconst dX5_beginsClause_78 ?_
    exact x_zreturn (by omega) dX5_beginsClause_79 rfl (by omega) (by omega) (hp _ (by omega))
  by_cases t1_7 : x = 135
  · refine x_tableIn 78 dX5_beginsClause_1 (by omega) (by omega) (by rw [t1_7]; rfl) (by decide) ?_
    refine x_iconst dX5_beginsClause_78 ?_
    exact x_zreturn (by omega) dX5_beginsClause_79 rfl (by omega) (by omega) (hp _ (by omega))
  by_cases t1_8 : x = 136
  · refine x_tableIn 76 dX5_beginsClause_1 (by omega) (by omega) (by rw [t1_8]; rfl) (by decide) ?_
    refine x_iconst dX5_beginsClause_76 ?_
    exact x_zreturn (by omega) dX5_beginsClause_77 rfl (by omega) (by omega) (hp _ (by omega))
  by_cases t1_9 : x = 137
  · refine x_tableIn 76 dX5_beginsClause_1 (by omega) (by omega) (by rw [t1_9]; rfl) (by decide) ?_
    refine x_iconst dX5_beginsClause_76 ?_
    exact x_zreturn (by omega) dX5_beginsClause_77 rfl (by omega) (by omega) (hp _ (by omega))
  by_cases t1_10 : x = 138
  · refine x_tableIn 76 dX5_beginsClause_1 (by omega) (by omega) (by rw [t1_10]; rfl) (by decide) ?_
    refine x_iconst dX5_beginsClause_76 ?_
    exact x_zreturn (by omega) dX5_beginsClause_77 rfl (by omega) (by omega) (hp _ (by omega))
  by_cases t1_11 : x = 139
  · refine x_tableIn 78 dX5_beginsClause_1 (by omega) (by omega) (by rw [t1_11]; rfl) (by decide) ?_
    refine x_iconst dX5_beginsClause_78 ?_
    exact x_zreturn (by omega) dX5_beginsClause_79 rfl (by omega) (by omega) (hp _ (by omega))
  by_cases t1_12 : x = 140
  · refine x_tableIn 76 dX5_beginsClause_1 (by omega) (by omega) (by rw [t1_12]; rfl) (by decide) ?_
    refine x_iconst dX5_beginsClause_76 ?_
    exact x_zreturn (by omega) dX5_beginsClause_77 rfl (by omega) (by omega) (hp _ (by omega))
  by_cases t1_13 : x = 141
  · refine x_tableIn 76 dX5_beginsClause_1 (by omega) (by omega) (by rw [t1_13]; rfl) (by decide) ?_
    refine x_iconst dX5_beginsClause_76 ?_
    exact x_zreturn (by omega) dX5_beginsClause_77 rfl (by omega) (by omega) (hp _ (by omega))
  by_cases t1_14 : x = 142
  · refine x_tableIn 76 dX5_beginsClause_1 (by omega) (by omega) (by rw [t1_14]; rfl) (by decide) ?_
    refine x_iconst dX5_beginsClause_76 ?_
    exact x_zreturn (by omega) dX5_beginsClause_77 rfl (by omega) (by omega) (hp _ (by omega))
  refine x_tableOut 78 dX5_beginsClause_1 (by omega) (by omega) (by decide) ?_
  refine x_iconst dX5_beginsClause_78 ?_
  exact x_zreturn (by omega) dX5_beginsClause_79 rfl (by omega) (by omega) (hp _ (by omega))
theorem dX5_readDeed_0 : decode prog_7_method_15_code 0 = .ok (.iload_n 1, 1) := by decide +kernel
theorem dX5_readDeed_1 : decode prog_7_method_15_code 1 = .ok (.lookupswitch 132 #[(128, 114), (138, 35), (142, 95)], 35) := by decide +kernel
theorem dX5_readDeed_36 : decode prog_7_method_15_code 36 = .ok (.aload_n 0, 1) := by decide +kernel
theorem dX5_readDeed_37 : decode prog_7_method_15_code 37 = .ok (.getfield 18, 3) := by decide +kernel
theorem dX5_readDeed_40 : decode prog_7_method_15_code 40 = .ok (.iload_n 2, 1) := by decide +kernel
theorem dX5_readDeed_41 : decode prog_7_method_15_code 41 = .ok (.iconst 1, 1) := by decide +kernel
theorem dX5_readDeed_42 : decode prog_7_method_15_code 42 = .ok (.iadd, 1) := by decide +kernel
theorem dX5_readDeed_43 : decode prog_7_method_15_code 43 = .ok (.aload_n 0, 1) := by decide +kernel
theorem dX5_readDeed_44 : decode prog_7_method_15_code 44 = .ok (.iconst 0, 1) := by decide +kernel
theorem dX5_readDeed_45 : decode prog_7_method_15_code 45 = .ok (.iconst 5, 1) := by decide +kernel
theorem dX5_readDeed_46 : decode prog_7_method_15_code 46 = .ok (.invokevirtual 139, 3) := by decide +kernel
theorem dX5_readDeed_49 : decode prog_7_method_15_code 49 = .ok (.iastore, 1) := by decide +kernel
theorem dX5_readDeed_50 : decode prog_7_method_15_code 50 = .ok (.aload_n 0, 1) := by decide +kernel
theorem dX5_readDeed_51 : decode prog_7_method_15_code 51 = .ok (.sipush 139, 3) := by decide +kernel
theorem dX5_readDeed_54 : decode prog_7_method_15_code 54 = .ok (.invokevirtual 136, 3) := by decide +kernel
theorem dX5_readDeed_57 : decode prog_7_method_15_code 57 = .ok (.aload_n 0, 1) := by decide +kernel
theorem dX5_readDeed_58 : decode prog_7_method_15_code 58 = .ok (.getfield 18, 3) := by decide +kernel
theorem dX5_readDeed_61 : decode prog_7_method_15_code 61 = .ok (.iload_n 2, 1) := by decide +kernel
theorem dX5_readDeed_62 : decode prog_7_method_15_code 62 = .ok (.iconst 2, 1) := by decide +kernel
theorem dX5_readDeed_63 : decode prog_7_method_15_code 63 = .ok (.iadd, 1) := by decide +kernel
theorem dX5_readDeed_64 : decode prog_7_method_15_code 64 = .ok (.aload_n 0, 1) := by decide +kernel
theorem dX5_readDeed_65 : decode prog_7_method_15_code 65 = .ok (.iconst 0, 1) := by decide +kernel
theorem dX5_readDeed_66 : decode prog_7_method_15_code 66 = .ok (.iconst 5, 1) := by decide +kernel
theorem dX5_readDeed_67 : decode prog_7_method_15_code 67 = .ok (.invokevirtual 139, 3) := by decide +kernel
theorem dX5_readDeed_70 : decode prog_7_method_15_code 70 = .ok (.iastore, 1) := by decide +kernel
theorem dX5_readDeed_71 : decode prog_7_method_15_code 71 = .ok (.aload_n 0, 1) := by decide +kernel
theorem dX5_readDeed_72 : decode prog_7_method_15_code 72 = .ok (.sipush 131, 3) := by decide +kernel
theorem dX5_readDeed_75 : decode prog_7_method_15_code 75 = .ok (.invokevirtual 136, 3) := by decide +kernel
theorem dX5_readDeed_78 : decode prog_7_method_15_code 78 = .ok (.aload_n 0, 1) := by decide +kernel
theorem dX5_readDeed_79 : decode prog_7_method_15_code 79 = .ok (.getfield 18, 3) := by decide +kernel
theorem dX5_readDeed_82 : decode prog_7_method_15_code 82 = .ok (.iload_n 2, 1) := by decide +kernel
theorem dX5_readDeed_83 : decode prog_7_method_15_code 83 = .ok (.iconst 3, 1) := by decide +kernel
theorem dX5_readDeed_84 : decode prog_7_method_15_code 84 = .ok (.iadd, 1) := by decide +kernel
theorem dX5_readDeed_85 : decode prog_7_method_15_code 85 = .ok (.aload_n 0, 1) := by decide +kernel
theorem dX5_readDeed_86 : decode prog_7_method_15_code 86 = .ok (.iconst 1, 1) := by decide +kernel
theorem dX5_readDeed_87 : decode prog_7_method_15_code 87 = .ok (.bipush 99, 2) := by decide +kernel
theorem dX5_readDeed_89 : decode prog_7_method_15_code 89 = .ok (.invokevirtual 139, 3) := by decide +kernel
theorem dX5_readDeed_92 : decode prog_7_method_15_code 92 = .ok (.iastore, 1) := by decide +kernel
theorem dX5_readDeed_93 : decode prog_7_method_15_code 93 = .ok (.goto 55, 3) := by decide +kernel
theorem dX5_readDeed_96 : decode prog_7_method_15_code 96 = .ok (.aload_n 0, 1) := by decide +kernel
theorem dX5_readDeed_97 : decode prog_7_method_15_code 97 = .ok (.getfield 18, 3) := by decide +kernel
theorem dX5_readDeed_100 : decode prog_7_method_15_code 100 = .ok (.iload_n 2, 1) := by decide +kernel
theorem dX5_readDeed_101 : decode prog_7_method_15_code 101 = .ok (.iconst 1, 1) := by decide +kernel
theorem dX5_readDeed_102 : decode prog_7_method_15_code 102 = .ok (.iadd, 1) := by decide +kernel
theorem dX5_readDeed_103 : decode prog_7_method_15_code 103 = .ok (.aload_n 0, 1) := by decide +kernel
theorem dX5_readDeed_104 : decode prog_7_method_15_code 104 = .ok (.iconst 1, 1) := by decide +kernel
theorem dX5_readDeed_105 : decode prog_7_method_15_code 105 = .ok (.sipush 999, 3) := by decide +kernel
theorem dX5_readDeed_108 : decode prog_7_method_15_code 108 = .ok (.invokevirtual 139, 3) := by decide +kernel
theorem dX5_readDeed_111 : decode prog_7_method_15_code 111 = .ok (.iastore, 1) := by decide +kernel
theorem dX5_readDeed_112 : decode prog_7_method_15_code 112 = .ok (.goto 36, 3) := by decide +kernel
theorem dX5_readDeed_115 : decode prog_7_method_15_code 115 = .ok (.aload_n 0, 1) := by decide +kernel
theorem dX5_readDeed_116 : decode prog_7_method_15_code 116 = .ok (.getfield 18, 3) := by decide +kernel
theorem dX5_readDeed_119 : decode prog_7_method_15_code 119 = .ok (.iload_n 2, 1) := by decide +kernel
theorem dX5_readDeed_120 : decode prog_7_method_15_code 120 = .ok (.iconst 1, 1) := by decide +kernel
theorem dX5_readDeed_121 : decode prog_7_method_15_code 121 = .ok (.iadd, 1) := by decide +kernel
theorem dX5_readDeed_122 : decode prog_7_method_15_code 122 = .ok (.aload_n 0, 1) := by decide +kernel
theorem dX5_readDeed_123 : decode prog_7_method_15_code 123 = .ok (.iconst 1, 1) := by decide +kernel
theorem dX5_readDeed_124 : decode prog_7_method_15_code 124 = .ok (.bipush 60, 2) := by decide +kernel
theorem dX5_readDeed_126 : decode prog_7_method_15_code 126 = .ok (.invokevirtual 139, 3) := by decide +kernel
theorem dX5_readDeed_129 : decode prog_7_method_15_code 129 = .ok (.iastore, 1) := by decide +kernel
theorem dX5_readDeed_130 : decode prog_7_method_15_code 130 = .ok (.goto 18, 3) := by decide +kernel
theorem dX5_readDeed_133 : decode prog_7_method_15_code 133 = .ok (.aload_n 0, 1) := by decide +kernel
theorem dX5_readDeed_134 : decode prog_7_method_15_code 134 = .ok (.getfield 18, 3) := by decide +kernel
theorem dX5_readDeed_137 : decode prog_7_method_15_code 137 = .ok (.iload_n 2, 1) := by decide +kernel
theorem dX5_readDeed_138 : decode prog_7_method_15_code 138 = .ok (.iconst 1, 1) := by decide +kernel
theorem dX5_readDeed_139 : decode prog_7_method_15_code 139 = .ok (.iadd, 1) := by decide +kernel
theorem dX5_readDeed_140 : decode prog_7_method_15_code 140 = .ok (.aload_n 0, 1) := by decide +kernel
theorem dX5_readDeed_141 : decode prog_7_method_15_code 141 = .ok (.iconst 0, 1) := by decide +kernel
theorem dX5_readDeed_142 : decode prog_7_method_15_code 142 = .ok (.bipush 7, 2) := by decide +kernel
theorem dX5_readDeed_144 : decode prog_7_method_15_code 144 = .ok (.invokevirtual 139, 3) := by decide +kernel
theorem dX5_readDeed_147 : decode prog_7_method_15_code 147 = .ok (.iastore, 1) := by decide +kernel
theorem dX5_readDeed_148 : decode prog_7_method_15_code 148 = .ok (.return_, 1) := by decide +kernel
theorem sp_X5_readDeed {w : Int} {p : Nat} {G : Int × Int × Int → Cu → List Int → Prop} (cs : CS S R) (hn : 7 ≤ n) (hw : isCl w ∧ ¬ isLw w) (hpl : p + 3 < 96) (hcb : CB I) (hO : OutC I t l sl F (DeW w F G t l)) (hp : ∀ (v : Int × Int × Int) (J : CI), Frc I J → (∀ k, (6 < k ∧ k < 13) → J 287 k = I 287 k) → CB J → (∀ i, (i < p + 1 ∨ p + 3 < i) → J 290 i = I 290 i) → J 290 (p + 1) = v.1 → (w = 138 → J 290 (p + 2) = v.2.1 ∧ J 290 (p + 3) = v.2.2) → OutC J t l sl F (G v) → Post none S J R) : Call n 0 0 mX5_readDeed [.ref (S.2.1 287), .int (iI w), .int (iI (p : Int))] S I R Post := by
  refine Call.of (by decide +kernel) (Nat.le_of_ble_eq_true rfl) ?_
  show WP _ _ _ _ _ 0 [(0, _), (1, _), (2, _)] [] 0 0 _ _ _
  refine x_iload_n dX5_readDeed_0 rfl ?_
  by_cases t1_0 : w = 128
  · refine x_lookup (off := 114) 115 dX5_readDeed_1 (by decide) (by omega) (by rw [t1_0]; first | done | rfl) (by decide) ?_
    refine x_aload_n dX5_readDeed_115 rfl ?_
    refine x_getR (b := 290) dX5_readDeed_116 gf_RX5_18 (k_ob_287 cs) (fun _ _ => rfl) (k_r_287_2 cs) ?_
    refine x_iload_n dX5_readDeed_119 rfl ?_
    refine x_iconst dX5_readDeed_120 ?_
    refine x_iadd dX5_readDeed_121 ?_
    refine x_aload_n dX5_readDeed_122 rfl ?_
    refine x_iconst dX5_readDeed_123 ?_
    refine x_bipush dX5_readDeed_124 (by decide) ?_
    refine x_callV2 (mc1 := 0) (ms1 := 0) dX5_readDeed_126 cv_RX5_139 (ci := 5) (k_ob_287 cs) rfl (Nat.le_of_ble_eq_true rfl) (n1 := n - 1) (by omega) (by omega) (by omega) ?_
    have e1 : dlo w = 1 := by rw [t1_0]; rfl
    have e2 : dhi w = 60 := by rw [t1_0]; rfl
    refine sp_num cs (by omega) (by omega) (out_imp hO (fun cu c _ _ _ _ _ _ g => by have := de_o (by omega) g; rw [e1, e2] at this; exact this)) (fun v126 J126 b126 f126 o126 => ?_)
    refine x_iastore dX5_readDeed_129 (k_ar_290 cs) (by omega) (by omega) ?_
    refine x_goto 148 dX5_readDeed_130 (by decide) ?_
    exact x_return dX5_readDeed_148 rfl (by omega) (by omega) (by first | exact hp (v108, 0, 0) _ (Frc.u0 (Frd.fc f108)) (fun k hk => by rw [uI_o (by omega)]; exact f108.2 k (by omega)) ((Frd.cb f108 hcb).u (by omega)) (fun i hi => by rw [uI_o (by omega), f108.1 290 (by omega) (by omega)]) (by rw [show (((p : Int) + 1).toNat) = p + 1 by omega, uI_s]) (fun h9 => by exfalso; omega) (out_fr o108 (Foc.rf.u0) (by rw [uI_o (by omega)]; exact o108.1.2)) | exact hp (v126, 0, 0) _ (Frc.u0 (Frd.fc f126)) (fun k hk => by rw [uI_o (by omega)]; exact f126.2 k (by omega)) ((Frd.cb f126 hcb).u (by omega)) (fun i hi => by rw [uI_o (by omega), f126.1 290 (by omega) (by omega)]) (by rw [show (((p : Int) + 1).toNat) = p + 1 by omega, uI_s]) (fun h9 => by exfalso; omega) (out_fr o126 (Foc.rf.u0) (by rw [uI_o (by omega)]; exact o126.1.2)) | exact hp (v144, 0, 0) _ (Frc.u0 (Frd.fc f144)) (fun k hk => by rw [uI_o (by omega)]; exact f144.2 k (by omega)) ((Frd.cb f144 hcb).u (by omega)) (fun i hi => by rw [uI_o (by omega), f144.1 290 (by omega) (by omega)]) (by rw [show (((p : Int) + 1).toNat) = p + 1 by omega, uI_s]) (fun h9 => by exfalso; omega) (out_fr o144 (Foc.rf.u0) (by rw [uI_o (by omega)]; exact o144.1.2)) | exact hp (v46, v67, v89) _ (Frc.u0 (Frc.tr (Frc.u0 (Frc.tr (Frc.u0 (Frd.fc f46)) (Frd.fc (Frd.tr f54 f67)))) (Frd.fc (Frd.tr f75 f89)))) (fun k hk => by rw [uI_o (by omega), f89.2 k (by omega), f75.2 k (by omega), uI_o (by omega), f67.2 k (by omega), f54.2 k (by omega), uI_o (by omega), f46.2 k (by omega)]) (CB.u (Frd.cb f89 (Frd.cb f75 (CB.u (Frd.cb f67 (Frd.cb f54 (CB.u (Frd.cb f46 hcb) (by omega)))) (by omega)))) (by omega)) (fun i hi => by rw [uI_o (by omega), f89.1 290 (by omega) (by omega), f75.1 290 (by omega) (by omega), uI_o (by omega), f67.1 290 (by omega) (by omega), f54.1 290 (by omega) (by omega), uI_o (by omega), f46.1 290 (by omega) (by omega)]) (by rw [uI_o (by omega), f89.1 290 (by omega) (by omega), f75.1 290 (by omega) (by omega), uI_o (by omega), f67.1 290 (by omega) (by omega), f54.1 290 (by omega) (by omega), show (((p : Int) + 1).toNat) = p + 1 by omega, uI_s]) (fun _ => ⟨by rw [uI_o (by omega), f89.1 290 (by omega) (by omega), f75.1 290 (by omega) (by omega), show (((p : Int) + 2).toNat) = p + 2 by omega, uI_s], by rw [show (((p : Int) + 3).toNat) = p + 3 by omega, uI_s]⟩) (out_fr o89 (Foc.rf.u0) (by rw [uI_o (by omega)]; exact o89.1.2)))
  by_cases t1_1 : w = 138
  · refine x_lookup (off := 35) 36 dX5_readDeed_1 (by decide) (by omega) (by rw [t1_1]; first | done | rfl) (by decide) ?_
    subst t1_1
    refine x_aload_n dX5_readDeed_36 rfl ?_
    refine x_getR (b := 290) dX5_readDeed_37 gf_RX5_18 (k_ob_287 cs) (fun _ _ => rfl) (k_r_287_2 cs) ?_
    refine x_iload_n dX5_readDeed_40 rfl ?_
    refine x_iconst dX5_readDeed_41 ?_
    refine x_iadd dX5_readDeed_42 ?_
    refine x_aload_n dX5_readDeed_43 rfl ?_
    refine x_iconst dX5_readDeed_44 ?_
    refine x_iconst dX5_readDeed_45 ?_
    refine x_callV2 (mc1 := 0) (ms1 := 0) dX5_readDeed_46 cv_RX5_139 (ci := 5) (k_ob_287 cs) rfl (Nat.le_of_ble_eq_true rfl) (n1 := n - 1) (by omega) (by omega) (by omega) ?_
    refine sp_num cs (by omega) (by omega) (out_imp hO (fun cu c _ _ _ _ _ _ g => de_q g)) (fun v46 J46 b46 f46 o46 => ?_)
    refine x_iastore dX5_readDeed_49 (k_ar_290 cs) (by omega) (by omega) ?_
    refine x_aload_n dX5_readDeed_50 rfl ?_
    refine x_sipush dX5_readDeed_51 (by decide) ?_
    refine x_callV1 (mc1 := 0) (ms1 := 0) dX5_readDeed_54 cv_RX5_136 (ci := 5) (k_ob_287 cs) rfl (Nat.le_of_ble_eq_true rfl) (n1 := n - 1) (by omega) (by omega) (by omega) ?_
    have q54 := out_fr (sm := sl) o46 (Foc.rf.u0 (q := ((p : Int) + 1).toNat) (v := v46)) (by rw [uI_o (by omega)]; exact o46.1.2)
    refine sp_X5_expect cs (by omega) (by omega) (out_imp q54 (fun cu c _ _ _ _ _ _ g => g)) (fun J54 f54 o54 => ?_)
    refine x_aload_n dX5_readDeed_57 rfl ?_
    refine x_getR (b := 290) dX5_readDeed_58 gf_RX5_18 (k_ob_287 cs) (fun _ _ => rfl) (k_r_287_2 cs) ?_
    refine x_iload_n dX5_readDeed_61 rfl ?_
    refine x_iconst dX5_readDeed_62 ?_
    refine x_iadd dX5_readDeed_63 ?_
    refine x_aload_n dX5_readDeed_64 rfl ?_
    refine x_iconst dX5_readDeed_65 ?_
    refine x_iconst dX5_readDeed_66 ?_
    refine x_callV2 (mc1 := 0) (ms1 := 0) dX5_readDeed_67 cv_RX5_139 (ci := 5) (k_ob_287 cs) rfl (Nat.le_of_ble_eq_true rfl) (n1 := n - 1) (by omega) (by omega) (by omega) ?_
    refine sp_num cs (by omega) (by omega) o54 (fun v67 J67 b67 f67 o67 => ?_)
    refine x_iastore dX5_readDeed_70 (k_ar_290 cs) (by omega) (by omega) ?_
    refine x_aload_n dX5_readDeed_71 rfl ?_
    refine x_sipush dX5_readDeed_72 (by decide) ?_
    refine x_callV1 (mc1 := 0) (ms1 := 0) dX5_readDeed_75 cv_RX5_136 (ci := 5) (k_ob_287 cs) rfl (Nat.le_of_ble_eq_true rfl) (n1 := n - 1) (by omega) (by omega) (by omega) ?_
    have q75 := out_fr (sm := sl) o67 (Foc.rf.u0 (q := ((p : Int) + 2).toNat) (v := v67)) (by rw [uI_o (by omega)]; exact o67.1.2)
    refine sp_X5_expect cs (by omega) (by omega) (out_imp q75 (fun cu c _ _ _ _ _ _ g => g)) (fun J75 f75 o75 => ?_)
    refine x_aload_n dX5_readDeed_78 rfl ?_
    refine x_getR (b := 290) dX5_readDeed_79 gf_RX5_18 (k_ob_287 cs) (fun _ _ => rfl) (k_r_287_2 cs) ?_
    refine x_iload_n dX5_readDeed_82 rfl ?_
    refine x_iconst dX5_readDeed_83 ?_
    refine x_iadd dX5_readDeed_84 ?_
    refine x_aload_n dX5_readDeed_85 rfl ?_
    refine x_iconst dX5_readDeed_86 ?_
    refine x_bipush dX5_readDeed_87 (by decide) ?_
    refine x_callV2 (mc1 := 0) (ms1 := 0) dX5_readDeed_89 cv_RX5_139 (ci := 5) (k_ob_287 cs) rfl (Nat.le_of_ble_eq_true rfl) (n1 := n - 1) (by omega) (by omega) (by omega) ?_
    refine sp_num cs (by omega) (by omega) o75 (fun v89 J89 b89 f89 o89 => ?_)
    refine x_iastore dX5_readDeed_92 (k_ar_290 cs) (by omega) (by omega) ?_
    refine x_goto 148 dX5_readDeed_93 (by decide) ?_
    exact x_return dX5_readDeed_148 rfl (by omega) (by omega) (by first | exact hp (v108, 0, 0) _ (Frc.u0 (Frd.fc f108)) (fun k hk => by rw [uI_o (by omega)]; exact f108.2 k (by omega)) ((Frd.cb f108 hcb).u (by omega)) (fun i hi => by rw [uI_o (by omega), f108.1 290 (by omega) (by omega)]) (by rw [show (((p : Int) + 1).toNat) = p + 1 by omega, uI_s]) (fun h9 => by exfalso; omega) (out_fr o108 (Foc.rf.u0) (by rw [uI_o (by omega)]; exact o108.1.2)) | exact hp (v126, 0, 0) _ (Frc.u0 (Frd.fc f126)) (fun k hk => by rw [uI_o (by omega)]; exact f126.2 k (by omega)) ((Frd.cb f126 hcb).u (by omega)) (fun i hi => by rw [uI_o (by omega), f126.1 290 (by omega) (by omega)]) (by rw [show (((p : Int) + 1).toNat) = p + 1 by omega, uI_s]) (fun h9 => by exfalso; omega) (out_fr o126 (Foc.rf.u0) (by rw [uI_o (by omega)]; exact o126.1.2)) | exact hp (v144, 0, 0) _ (Frc.u0 (Frd.fc f144)) (fun k hk => by rw [uI_o (by omega)]; exact f144.2 k (by omega)) ((Frd.cb f144 hcb).u (by omega)) (fun i hi => by rw [uI_o (by omega), f144.1 290 (by omega) (by omega)]) (by rw [show (((p : Int) + 1).toNat) = p + 1 by omega, uI_s]) (fun h9 => by exfalso; omega) (out_fr o144 (Foc.rf.u0) (by rw [uI_o (by omega)]; exact o144.1.2)) | exact hp (v46, v67, v89) _ (Frc.u0 (Frc.tr (Frc.u0 (Frc.tr (Frc.u0 (Frd.fc f46)) (Frd.fc (Frd.tr f54 f67)))) (Frd.fc (Frd.tr f75 f89)))) (fun k hk => by rw [uI_o (by omega), f89.2 k (by omega), f75.2 k (by omega), uI_o (by omega), f67.2 k (by omega), f54.2 k (by omega), uI_o (by omega), f46.2 k (by omega)]) (CB.u (Frd.cb f89 (Frd.cb f75 (CB.u (Frd.cb f67 (Frd.cb f54 (CB.u (Frd.cb f46 hcb) (by omega)))) (by omega)))) (by omega)) (fun i hi => by rw [uI_o (by omega), f89.1 290 (by omega) (by omega), f75.1 290 (by omega) (by omega), uI_o (by omega), f67.1 290 (by omega) (by omega), f54.1 290 (by omega) (by omega), uI_o (by omega), f46.1 290 (by omega) (by omega)]) (by rw [uI_o (by omega), f89.1 290 (by omega) (by omega), f75.1 290 (by omega) (by omega), uI_o (by omega), f67.1 290 (by omega) (by omega), f54.1 290 (by omega) (by omega), show (((p : Int) + 1).toNat) = p + 1 by omega, uI_s]) (fun _ => ⟨by rw [uI_o (by omega), f89.1 290 (by omega) (by omega), f75.1 290 (by omega) (by omega), show (((p : Int) + 2).toNat) = p + 2 by omega, uI_s], by rw [show (((p : Int) + 3).toNat) = p + 3 by omega, uI_s]⟩) (out_fr o89 (Foc.rf.u0) (by rw [uI_o (by omega)]; exact o89.1.2)))
  by_cases t1_2 : w = 142
  · refine x_lookup (off := 95) 96 dX5_readDeed_1 (by decide) (by omega) (by rw [t1_2]; first | done | rfl) (by decide) ?_
    refine x_aload_n dX5_readDeed_96 rfl ?_
    refine x_getR (b := 290) dX5_readDeed_97 gf_RX5_18 (k_ob_287 cs) (fun _ _ => rfl) (k_r_287_2 cs) ?_
    refine x_iload_n dX5_readDeed_100 rfl ?_
    refine x_iconst dX5_readDeed_101 ?_
    refine x_iadd dX5_readDeed_102 ?_
    refine x_aload_n dX5_readDeed_103 rfl ?_
    refine x_iconst dX5_readDeed_104 ?_
    refine x_sipush dX5_readDeed_105 (by decide) ?_
    refine x_callV2 (mc1 := 0) (ms1 := 0) dX5_readDeed_108 cv_RX5_139 (ci := 5) (k_ob_287 cs) rfl (Nat.le_of_ble_eq_true rfl) (n1 := n - 1) (by omega) (by omega) (by omega) ?_
    have e1 : dlo w = 1 := by rw [t1_2]; rfl
    have e2 : dhi w = 999 := by rw [t1_2]; rfl
    refine sp_num cs (by omega) (by omega) (out_imp hO (fun cu c _ _ _ _ _ _ g => by have := de_o (by omega) g; rw [e1, e2] at this; exact this)) (fun v108 J108 b108 f108 o108 => ?_)
    refine x_iastore dX5_readDeed_111 (k_ar_290 cs) (by omega) (by omega) ?_
    refine x_goto 148 dX5_readDeed_112 (by decide) ?_
    exact x_return dX5_readDeed_148 rfl (by omega) (by omega) (by first | exact hp (v108, 0, 0) _ (Frc.u0 (Frd.fc f108)) (fun k hk => by rw [uI_o (by omega)]; exact f108.2 k (by omega)) ((Frd.cb f108 hcb).u (by omega)) (fun i hi => by rw [uI_o (by omega), f108.1 290 (by omega) (by omega)]) (by rw [show (((p : Int) + 1).toNat) = p + 1 by omega, uI_s]) (fun h9 => by exfalso; omega) (out_fr o108 (Foc.rf.u0) (by rw [uI_o (by omega)]; exact o108.1.2)) | exact hp (v126, 0, 0) _ (Frc.u0 (Frd.fc f126)) (fun k hk => by rw [uI_o (by omega)]; exact f126.2 k (by omega)) ((Frd.cb f126 hcb).u (by omega)) (fun i hi => by rw [uI_o (by omega), f126.1 290 (by omega) (by omega)]) (by rw [show (((p : Int) + 1).toNat) = p + 1 by omega, uI_s]) (fun h9 => by exfalso; omega) (out_fr o126 (Foc.rf.u0) (by rw [uI_o (by omega)]; exact o126.1.2)) | exact hp (v144, 0, 0) _ (Frc.u0 (Frd.fc f144)) (fun k hk => by rw [uI_o (by omega)]; exact f144.2 k (by omega)) ((Frd.cb f144 hcb).u (by omega)) (fun i hi => by rw [uI_o (by omega), f144.1 290 (by omega) (by omega)]) (by rw [show (((p : Int) + 1).toNat) = p + 1 by omega, uI_s]) (fun h9 => by exfalso; omega) (out_fr o144 (Foc.rf.u0) (by rw [uI_o (by omega)]; exact o144.1.2)) | exact hp (v46, v67, v89) _ (Frc.u0 (Frc.tr (Frc.u0 (Frc.tr (Frc.u0 (Frd.fc f46)) (Frd.fc (Frd.tr f54 f67)))) (Frd.fc (Frd.tr f75 f89)))) (fun k hk => by rw [uI_o (by omega), f89.2 k (by omega), f75.2 k (by omega), uI_o (by omega), f67.2 k (by omega), f54.2 k (by omega), uI_o (by omega), f46.2 k (by omega)]) (CB.u (Frd.cb f89 (Frd.cb f75 (CB.u (Frd.cb f67 (Frd.cb f54 (CB.u (Frd.cb f46 hcb) (by omega)))) (by omega)))) (by omega)) (fun i hi => by rw [uI_o (by omega), f89.1 290 (by omega) (by omega), f75.1 290 (by omega) (by omega), uI_o (by omega), f67.1 290 (by omega) (by omega), f54.1 290 (by omega) (by omega), uI_o (by omega), f46.1 290 (by omega) (by omega)]) (by rw [uI_o (by omega), f89.1 290 (by omega) (by omega), f75.1 290 (by omega) (by omega), uI_o (by omega), f67.1 290 (by omega) (by omega), f54.1 290 (by omega) (by omega), show (((p : Int) + 1).toNat) = p + 1 by omega, uI_s]) (fun _ => ⟨by rw [uI_o (by omega), f89.1 290 (by omega) (by omega), f75.1 290 (by omega) (by omega), show (((p : Int) + 2).toNat) = p + 2 by omega, uI_s], by rw [show (((p : Int) + 3).toNat) = p + 3 by omega, uI_s]⟩) (out_fr o89 (Foc.rf.u0) (by rw [uI_o (by omega)]; exact o89.1.2)))
  refine x_lookup (off := 132) 133 dX5_readDeed_1 (by decide) (by omega) (by show Op.lookupswitch.offset [(128, 114), (138, 35), (142, 95)] _ _ = _; rw [Op.lookupswitch.offset_cons, if_neg (by omega), Op.lookupswitch.offset_cons, if_neg (by omega), Op.lookupswitch.offset_cons, if_neg (by omega)]; rfl) (by decide) ?_
  refine x_aload_n dX5_readDeed_133 rfl ?_
  refine x_getR (b := 290) dX5_readDeed_134 gf_RX5_18 (k_ob_287 cs) (fun _ _ => rfl) (k_r_287_2 cs) ?_
  refine x_iload_n dX5_readDeed_137 rfl ?_
  refine x_iconst dX5_readDeed_138 ?_
  refine x_iadd dX5_readDeed_139 ?_
  refine x_aload_n dX5_readDeed_140 rfl ?_
  refine x_iconst dX5_readDeed_141 ?_
  refine x_bipush dX5_readDeed_142 (by decide) ?_
  refine x_callV2 (mc1 := 0) (ms1 := 0) dX5_readDeed_144 cv_RX5_139 (ci := 5) (k_ob_287 cs) rfl (Nat.le_of_ble_eq_true rfl) (n1 := n - 1) (by omega) (by omega) (by omega) ?_
  have e1 : dlo w = 0 := if_neg (by omega)
  have e2 : dhi w = 7 := (if_neg (by omega)).trans (if_neg (by omega))
  refine sp_num cs (by omega) (by omega) (out_imp hO (fun cu c _ _ _ _ _ _ g => by have := de_o (by omega) g; rw [e1, e2] at this; exact this)) (fun v144 J144 b144 f144 o144 => ?_)
  refine x_iastore dX5_readDeed_147 (k_ar_290 cs) (by omega) (by omega) ?_
  exact x_return dX5_readDeed_148 rfl (by omega) (by omega) (by first | exact hp (v108, 0, 0) _ (Frc.u0 (Frd.fc f108)) (fun k hk => by rw [uI_o (by omega)]; exact f108.2 k (by omega)) ((Frd.cb f108 hcb).u (by omega)) (fun i hi => by rw [uI_o (by omega), f108.1 290 (by omega) (by omega)]) (by rw [show (((p : Int) + 1).toNat) = p + 1 by omega, uI_s]) (fun h9 => by exfalso; omega) (out_fr o108 (Foc.rf.u0) (by rw [uI_o (by omega)]; exact o108.1.2)) | exact hp (v126, 0, 0) _ (Frc.u0 (Frd.fc f126)) (fun k hk => by rw [uI_o (by omega)]; exact f126.2 k (by omega)) ((Frd.cb f126 hcb).u (by omega)) (fun i hi => by rw [uI_o (by omega), f126.1 290 (by omega) (by omega)]) (by rw [show (((p : Int) + 1).toNat) = p + 1 by omega, uI_s]) (fun h9 => by exfalso; omega) (out_fr o126 (Foc.rf.u0) (by rw [uI_o (by omega)]; exact o126.1.2)) | exact hp (v144, 0, 0) _ (Frc.u0 (Frd.fc f144)) (fun k hk => by rw [uI_o (by omega)]; exact f144.2 k (by omega)) ((Frd.cb f144 hcb).u (by omega)) (fun i hi => by rw [uI_o (by omega), f144.1 290 (by omega) (by omega)]) (by rw [show (((p : Int) + 1).toNat) = p + 1 by omega, uI_s]) (fun h9 => by exfalso; omega) (out_fr o144 (Foc.rf.u0) (by rw [uI_o (by omega)]; exact o144.1.2)) | exact hp (v46, v67, v89) _ (Frc.u0 (Frc.tr (Frc.u0 (Frc.tr (Frc.u0 (Frd.fc f46)) (Frd.fc (Frd.tr f54 f67)))) (Frd.fc (Frd.tr f75 f89)))) (fun k hk => by rw [uI_o (by omega), f89.2 k (by omega), f75.2 k (by omega), uI_o (by omega), f67.2 k (by omega), f54.2 k (by omega), uI_o (by omega), f46.2 k (by omega)]) (CB.u (Frd.cb f89 (Frd.cb f75 (CB.u (Frd.cb f67 (Frd.cb f54 (CB.u (Frd.cb f46 hcb) (by omega)))) (by omega)))) (by omega)) (fun i hi => by rw [uI_o (by omega), f89.1 290 (by omega) (by omega), f75.1 290 (by omega) (by omega), uI_o (by omega), f67.1 290 (by omega) (by omega), f54.1 290 (by omega) (by omega), uI_o (by omega), f46.1 290 (by omega) (by omega)]) (by rw [uI_o (by omega), f89.1 290 (by omega) (by omega), f75.1 290 (by omega) (by omega), uI_o (by omega), f67.1 290 (by omega) (by omega), f54.1 290 (by omega) (by omega), show (((p : Int) + 1).toNat) = p + 1 by omega, uI_s]) (fun _ => ⟨by rw [uI_o (by omega), f89.1 290 (by omega) (by omega), f75.1 290 (by omega) (by omega), show (((p : Int) + 2).toNat) = p + 2 by omega, uI_s], by rw [show (((p : Int) + 3).toNat) = p + 3 by omega, uI_s]⟩) (out_fr o89 (Foc.rf.u0) (by rw [uI_o (by omega)]; exact o89.1.2)))
end Rd4
