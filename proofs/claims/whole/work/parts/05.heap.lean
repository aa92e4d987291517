def GF (own : String) (idx ci kk : Nat) (fin : Bool) : Prop := ci < 13 ∧ ∃ (C : String) (T : u_T) (N : Nat), vwCl[ci]? = some (C, T, N) ∧ N = nfd ci ∧ kk < N ∧ (∀ w ∈ u_ws C T N, w ∈ bigW) ∧ (∀ k, k < N → parseFieldDescriptor (T k).2.2.1 = some (fty ci k)) ∧ (∀ a, a < N → ∀ b, b < N → a ≠ b → (T a).2.1 ≠ (T b).2.1) ∧ Cond.fieldLink own idx (T kk).1 (T kk).2.1 (T kk).2.2.1 ∈ bigW ∧ (T kk).2.2.2 = fin ∧ (T kk).1 = C
theorem pE_ob {cy : Nat → ClassId} {S : Sh} {I : CI} {R : CR} {a ci : Nat} (h : OB S a ci) (hc : ci < 13) : pE cy S I R a = .inr (ci, fl ci (I a) (fun k => (R a k).map S.2.1)) := by
  simp [pE, h.2, hc]
theorem pE_i {cy : Nat → ClassId} {S : Sh} {I : CI} {R : CR} {a N : Nat} (h : AR S a 13 N) : pE cy S I R a = .inl (cy 0, N, .inl (fun i => iI (I a i))) := by
  simp [pE, h.2.1, h.2.2]
theorem pE_l {cy : Nat → ClassId} {S : Sh} {I : CI} {R : CR} {a N : Nat} (h : AR S a 14 N) : pE cy S I R a = .inl (cy 1, N, .inr (.inl (fun i => lI (I a i)))) := by
  simp [pE, h.2.1, h.2.2]
theorem pE_z {cy : Nat → ClassId} {S : Sh} {I : CI} {R : CR} {a N : Nat} (h : AR S a 15 N) : pE cy S I R a = .inl (cy 2, N, .inl (fun i => iI (I a i))) := by
  simp [pE, h.2.1, h.2.2]
theorem pE_s {cy : Nat → ClassId} {S : Sh} {I : CI} {R : CR} {a N : Nat} (h : AR S a 16 N) : pE cy S I R a = .inl (cy 3, N, .inr (.inr (.inr (.inr (fun k => (R a k).map S.2.1))))) := by
  simp [pE, h.2.1, h.2.2]
theorem pE_t {cy : Nat → ClassId} {S : Sh} {I : CI} {R : CR} {a N : Nat} (h : AR S a 17 N) : pE cy S I R a = .inl (cy 4, N, .inr (.inr (.inr (.inr (fun k => (R a k).map S.2.1))))) := by
  simp [pE, h.2.1, h.2.2]
theorem fl_at {ci kk : Nat} {I : Nat → Int} {R : Nat → Option Nat} (h : kk < nfd ci) : (fl ci I R)[kk]? = some (fv (fty ci kk) (I kk) (R kk)) := by
  simp [fl, h]
theorem fl_len {ci : Nat} {I : Nat → Int} {R : Nat → Option Nat} : (fl ci I R).length = nfd ci := by simp [fl]
theorem fl_set {ci kk : Nat} {I I' : Nat → Int} {R R' : Nat → Option Nat} {v : Value} (h : kk < nfd ci) (hv : fv (fty ci kk) (I' kk) (R' kk) = v) (ho : ∀ i, i ≠ kk → I' i = I i ∧ R' i = R i) : (fl ci I R).set kk v = fl ci I' R' := by
  apply List.ext_getElem?
  intro i
  by_cases hi : i = kk
  · subst hi
    rw [List.getElem?_set_self (by rw [fl_len]; exact h), fl_at h, hv]
  · rw [List.getElem?_set_ne (Ne.symm hi)]
    by_cases hl : i < nfd ci
    · rw [fl_at hl, fl_at hl, (ho i hi).1, (ho i hi).2]
    · rw [List.getElem?_eq_none (by rw [fl_len]; omega), List.getElem?_eq_none (by rw [fl_len]; omega)]
theorem uI_s (I : CI) (a i : Nat) (v : Int) : uI I a i v a i = v := by simp [uI]
theorem uI_o {I : CI} {a i b jj : Nat} {v : Int} (h : b ≠ a ∨ jj ≠ i) : uI I a i v b jj = I b jj := by
  unfold uI; rw [if_neg]; intro q; rcases h with h | h
  · exact h q.1
  · exact h q.2
theorem uI_row {I : CI} {a i b : Nat} {v : Int} (h : b ≠ a) : uI I a i v b = I b := by funext x; exact uI_o (Or.inl h)
theorem uR_s (R : CR) (a i : Nat) (v : Option Nat) : uR R a i v a i = v := by simp [uR]
theorem uR_o {R : CR} {a i b jj : Nat} {v : Option Nat} (h : b ≠ a ∨ jj ≠ i) : uR R a i v b jj = R b jj := by
  unfold uR; rw [if_neg]; intro q; rcases h with h | h
  · exact h q.1
  · exact h q.2
theorem uR_row {R : CR} {a i b : Nat} {v : Option Nat} (h : b ≠ a) : uR R a i v b = R b := by funext x; exact uR_o (Or.inl h)
theorem pE_uI {cy : Nat → ClassId} {S : Sh} {I : CI} {R : CR} {a i b : Nat} {v : Int} (h : b ≠ a) : pE cy S (uI I a i v) R b = pE cy S I R b := by simp only [pE, uI_row h]
theorem pE_uR {cy : Nat → ClassId} {S : Sh} {I : CI} {R : CR} {a i b : Nat} {v : Option Nat} (h : b ≠ a) : pE cy S I (uR R a i v) b = pE cy S I R b := by simp only [pE, uR_row h]
theorem lI_upd {I : CI} {a i : Nat} {v : Int} : vp_updL (fun q => lI (I a q)) i (lI v) = fun q => lI (uI I a i v a q) := by
  funext q; by_cases h : q = i <;> simp [vp_updL, uI, h]
theorem iI_upd {I : CI} {a i : Nat} {v : Int} : upd (fun q => iI (I a q)) i (iI v) = fun q => iI (uI I a i v a q) := by
  funext q; by_cases h : q = i <;> simp [upd, uI, h]
section Heap
variable {n mc ms : Nat} {M : Md} {Post : PT} {pc : Nat} {lv lv2 : List (Nat × Value)} {st : List Value} {k j : Nat} {S : Sh} {I : CI} {R : CR}
theorem x_getI {idx ci kk a : Nat} {fin : Bool}  (d : decode M.2.1 pc = .ok (.getfield idx, 3)) (gf : GF M.1.cls idx ci kk fin) (hb : OB S a ci) (hf : ∀ z r, fv (fty ci kk) z r = .int (iI z)) (h : WP n mc ms M Post (pc + 3) lv (.int (iI (I a kk)) :: st) k j S I R) : WP n mc ms M Post pc lv (.ref (S.2.1 a) :: st) k j S I R := by
  intro l p e s m args below meth c D cy A H locs ls C hl hP hD hS
  obtain ⟨hc, C2, T, N, e1, e2, e3, e4, e5, e6, e7, e8, e9⟩ := gf
  refine va_get C.1 C.2.1 (own := M.1.cls) (ref := (T kk).1) C.2.2.2.2.2.2.2.1 (fun w hw => List.mem_cons_of_mem _ (e4 w hw)) C.2.2.2.2.2.1 C.2.2.2.2.2.2.2.2.1.1 hP a (fs := fl ci (I a) (fun k => (R a k).map S.2.1)) (by rw [pw_get hb.1, pE_ob hb hc]) e1 kk e3 (C.2.2.2.2.2.2.2.1 _ (List.mem_cons_of_mem _ e7)) (fun _ h9 => h9) (v := .int (iI (I a kk))) (by rw [fl_at (e2 ▸ e3), hf]) d ?_
  exact h l p e s m args below meth c D cy A H locs ls C hl hP hD hS
theorem x_getL {idx ci kk a : Nat} {fin : Bool}  (d : decode M.2.1 pc = .ok (.getfield idx, 3)) (gf : GF M.1.cls idx ci kk fin) (hb : OB S a ci) (hf : ∀ z r, fv (fty ci kk) z r = .long (lI z)) (h : WP n mc ms M Post (pc + 3) lv (.long (lI (I a kk)) :: st) k j S I R) : WP n mc ms M Post pc lv (.ref (S.2.1 a) :: st) k j S I R := by
  intro l p e s m args below meth c D cy A H locs ls C hl hP hD hS
  obtain ⟨hc, C2, T, N, e1, e2, e3, e4, e5, e6, e7, e8, e9⟩ := gf
  refine va_get C.1 C.2.1 (own := M.1.cls) (ref := (T kk).1) C.2.2.2.2.2.2.2.1 (fun w hw => List.mem_cons_of_mem _ (e4 w hw)) C.2.2.2.2.2.1 C.2.2.2.2.2.2.2.2.1.1 hP a (fs := fl ci (I a) (fun k => (R a k).map S.2.1)) (by rw [pw_get hb.1, pE_ob hb hc]) e1 kk e3 (C.2.2.2.2.2.2.2.1 _ (List.mem_cons_of_mem _ e7)) (fun _ h9 => h9) (v := .long (lI (I a kk))) (by rw [fl_at (e2 ▸ e3), hf]) d ?_
  exact h l p e s m args below meth c D cy A H locs ls C hl hP hD hS
theorem x_getR {idx ci kk a : Nat} {fin : Bool} {b : Nat} (d : decode M.2.1 pc = .ok (.getfield idx, 3)) (gf : GF M.1.cls idx ci kk fin) (hb : OB S a ci) (hf : ∀ z r, fv (fty ci kk) z r = va_rf r) (hr : R a kk = some b) (h : WP n mc ms M Post (pc + 3) lv (.ref (S.2.1 b) :: st) k j S I R) : WP n mc ms M Post pc lv (.ref (S.2.1 a) :: st) k j S I R := by
  intro l p e s m args below meth c D cy A H locs ls C hl hP hD hS
  obtain ⟨hc, C2, T, N, e1, e2, e3, e4, e5, e6, e7, e8, e9⟩ := gf
  refine va_get C.1 C.2.1 (own := M.1.cls) (ref := (T kk).1) C.2.2.2.2.2.2.2.1 (fun w hw => List.mem_cons_of_mem _ (e4 w hw)) C.2.2.2.2.2.1 C.2.2.2.2.2.2.2.2.1.1 hP a (fs := fl ci (I a) (fun k => (R a k).map S.2.1)) (by rw [pw_get hb.1, pE_ob hb hc]) e1 kk e3 (C.2.2.2.2.2.2.2.1 _ (List.mem_cons_of_mem _ e7)) (fun _ h9 => h9) (v := .ref (S.2.1 b)) (by rw [fl_at (e2 ▸ e3), hf]; simp [hr, va_rf]) d ?_
  exact h l p e s m args below meth c D cy A H locs ls C hl hP hD hS
theorem x_getN {idx ci kk a : Nat} {fin : Bool}  (d : decode M.2.1 pc = .ok (.getfield idx, 3)) (gf : GF M.1.cls idx ci kk fin) (hb : OB S a ci) (hf : ∀ z r, fv (fty ci kk) z r = va_rf r) (hr : R a kk = none) (h : WP n mc ms M Post (pc + 3) lv (.null :: st) k j S I R) : WP n mc ms M Post pc lv (.ref (S.2.1 a) :: st) k j S I R := by
  intro l p e s m args below meth c D cy A H locs ls C hl hP hD hS
  obtain ⟨hc, C2, T, N, e1, e2, e3, e4, e5, e6, e7, e8, e9⟩ := gf
  refine va_get C.1 C.2.1 (own := M.1.cls) (ref := (T kk).1) C.2.2.2.2.2.2.2.1 (fun w hw => List.mem_cons_of_mem _ (e4 w hw)) C.2.2.2.2.2.1 C.2.2.2.2.2.2.2.2.1.1 hP a (fs := fl ci (I a) (fun k => (R a k).map S.2.1)) (by rw [pw_get hb.1, pE_ob hb hc]) e1 kk e3 (C.2.2.2.2.2.2.2.1 _ (List.mem_cons_of_mem _ e7)) (fun _ h9 => h9) (v := .null) (by rw [fl_at (e2 ▸ e3), hf]; simp [hr, va_rf]) d ?_
  exact h l p e s m args below meth c D cy A H locs ls C hl hP hD hS
theorem x_getIv {idx ci kk a : Nat} {fin : Bool} {z : Int} (d : decode M.2.1 pc = .ok (.getfield idx, 3)) (gf : GF M.1.cls idx ci kk fin) (hb : OB S a ci) (hf : ∀ z r, fv (fty ci kk) z r = .int (iI z)) (hz : I a kk = z) (h : WP n mc ms M Post (pc + 3) lv (.int (iI z) :: st) k j S I R) : WP n mc ms M Post pc lv (.ref (S.2.1 a) :: st) k j S I R := by
  intro l p e s m args below meth c D cy A H locs ls C hl hP hD hS
  obtain ⟨hc, C2, T, N, e1, e2, e3, e4, e5, e6, e7, e8, e9⟩ := gf
  refine va_get C.1 C.2.1 (own := M.1.cls) (ref := (T kk).1) C.2.2.2.2.2.2.2.1 (fun w hw => List.mem_cons_of_mem _ (e4 w hw)) C.2.2.2.2.2.1 C.2.2.2.2.2.2.2.2.1.1 hP a (fs := fl ci (I a) (fun k => (R a k).map S.2.1)) (by rw [pw_get hb.1, pE_ob hb hc]) e1 kk e3 (C.2.2.2.2.2.2.2.1 _ (List.mem_cons_of_mem _ e7)) (fun _ h9 => h9) (v := .int (iI z)) (by rw [fl_at (e2 ▸ e3), hf, hz]) d ?_
  exact h l p e s m args below meth c D cy A H locs ls C hl hP hD hS
theorem x_putI {idx ci kk a : Nat} {z : Int} (d : decode M.2.1 pc = .ok (.putfield idx, 3)) (gf : GF M.1.cls idx ci kk false) (hb : OB S a ci) (hf : fty ci kk = .int) (h : WP n mc ms M Post (pc + 3) lv st k j S (uI I a kk z) R) : WP n mc ms M Post pc lv (.int (iI z) :: .ref (S.2.1 a) :: st) k j S I R := by
  intro l p e s m args below meth c D cy A H locs ls C hl hP hD hS
  obtain ⟨hc, C2, T, N, e1, e2, e3, e4, e5, e6, e7, e8, e9⟩ := gf
  refine va_put C.1 C.2.1 (own := M.1.cls) (ref := (T kk).1) C.2.2.2.2.2.2.2.1 (fun w hw => List.mem_cons_of_mem _ (e4 w hw)) (fty ci) e5 e6 C.2.2.2.2.2.1 C.2.2.2.2.2.2.2.2.1.1 hP hD hS a (fs := fl ci (I a) (fun k => (R a k).map S.2.1)) (by rw [pw_get hb.1, pE_ob hb hc]) e1 kk e3 (C.2.2.2.2.2.2.2.1 _ (List.mem_cons_of_mem _ e7)) (fun _ h9 => h9) e8 (e5 kk e3) (by rw [hf]; rfl) (by rw [hf]; rfl) (by rw [fl_len]; exact e2 ▸ e3) d (fun H1 locs1 hP hD hS => ?_)
  rw [pw_set (I' := (uI I a kk z)) (R' := R) (by rw [pE_ob hb hc, fl_set (e2 ▸ e3) (I' := ((uI I a kk z)) a) (R' := fun k => ((R) a k).map S.2.1) (v := .int (iI z)) (by simp [hf, fv, uI_s]) (fun i hi => ⟨by simp [uI, uR, hi], by simp [uI, uR, hi]⟩)]) (fun b hb => by simp [pE_uI hb, pE_uR hb])] at hP hD
  exact h l p e s m args below meth c D cy A H1 locs1 ls C hl hP hD hS
theorem x_putZ {idx ci kk a : Nat} {z : Int} (d : decode M.2.1 pc = .ok (.putfield idx, 3)) (gf : GF M.1.cls idx ci kk false) (hb : OB S a ci) (hf : fty ci kk = .boolean) (hz : z = 0 ∨ z = 1) (h : WP n mc ms M Post (pc + 3) lv st k j S (uI I a kk z) R) : WP n mc ms M Post pc lv (.int (iI z) :: .ref (S.2.1 a) :: st) k j S I R := by
  intro l p e s m args below meth c D cy A H locs ls C hl hP hD hS
  obtain ⟨hc, C2, T, N, e1, e2, e3, e4, e5, e6, e7, e8, e9⟩ := gf
  refine va_put C.1 C.2.1 (own := M.1.cls) (ref := (T kk).1) C.2.2.2.2.2.2.2.1 (fun w hw => List.mem_cons_of_mem _ (e4 w hw)) (fty ci) e5 e6 C.2.2.2.2.2.1 C.2.2.2.2.2.2.2.2.1.1 hP hD hS a (fs := fl ci (I a) (fun k => (R a k).map S.2.1)) (by rw [pw_get hb.1, pE_ob hb hc]) e1 kk e3 (C.2.2.2.2.2.2.2.1 _ (List.mem_cons_of_mem _ e7)) (fun _ h9 => h9) e8 (e5 kk e3) (by rw [hf]; rcases hz with rfl | rfl <;> rfl) (by rw [hf]; rcases hz with rfl | rfl <;> rfl) (by rw [fl_len]; exact e2 ▸ e3) d (fun H1 locs1 hP hD hS => ?_)
  rw [pw_set (I' := (uI I a kk z)) (R' := R) (by rw [pE_ob hb hc, fl_set (e2 ▸ e3) (I' := ((uI I a kk z)) a) (R' := fun k => ((R) a k).map S.2.1) (v := .int (iI z)) (by simp [hf, fv, uI_s]) (fun i hi => ⟨by simp [uI, uR, hi], by simp [uI, uR, hi]⟩)]) (fun b hb => by simp [pE_uI hb, pE_uR hb])] at hP hD
  exact h l p e s m args below meth c D cy A H1 locs1 ls C hl hP hD hS
theorem x_putL {idx ci kk a : Nat} {z : Int} (d : decode M.2.1 pc = .ok (.putfield idx, 3)) (gf : GF M.1.cls idx ci kk false) (hb : OB S a ci) (hf : fty ci kk = .long) (h : WP n mc ms M Post (pc + 3) lv st k j S (uI I a kk z) R) : WP n mc ms M Post pc lv (.long (lI z) :: .ref (S.2.1 a) :: st) k j S I R := by
  intro l p e s m args below meth c D cy A H locs ls C hl hP hD hS
  obtain ⟨hc, C2, T, N, e1, e2, e3, e4, e5, e6, e7, e8, e9⟩ := gf
  refine va_put C.1 C.2.1 (own := M.1.cls) (ref := (T kk).1) C.2.2.2.2.2.2.2.1 (fun w hw => List.mem_cons_of_mem _ (e4 w hw)) (fty ci) e5 e6 C.2.2.2.2.2.1 C.2.2.2.2.2.2.2.2.1.1 hP hD hS a (fs := fl ci (I a) (fun k => (R a k).map S.2.1)) (by rw [pw_get hb.1, pE_ob hb hc]) e1 kk e3 (C.2.2.2.2.2.2.2.1 _ (List.mem_cons_of_mem _ e7)) (fun _ h9 => h9) e8 (e5 kk e3) (by rw [hf]; rfl) (by rw [hf]; rfl) (by rw [fl_len]; exact e2 ▸ e3) d (fun H1 locs1 hP hD hS => ?_)
  rw [pw_set (I' := (uI I a kk z)) (R' := R) (by rw [pE_ob hb hc, fl_set (e2 ▸ e3) (I' := ((uI I a kk z)) a) (R' := fun k => ((R) a k).map S.2.1) (v := .long (lI z)) (by simp [hf, fv, uI_s]) (fun i hi => ⟨by simp [uI, uR, hi], by simp [uI, uR, hi]⟩)]) (fun b hb => by simp [pE_uI hb, pE_uR hb])] at hP hD
  exact h l p e s m args below meth c D cy A H1 locs1 ls C hl hP hD hS
theorem x_putR {idx ci kk a : Nat} {b : Nat} {ty : FieldType} (d : decode M.2.1 pc = .ok (.putfield idx, 3)) (gf : GF M.1.cls idx ci kk false) (hb : OB S a ci) (hf : fty ci kk = ty) (hfv : ∀ z r, fv ty z r = va_rf r) (hnr : ∀ x, narrow ty (.ref x) = .ref x) (hft : ∀ x, fits ty (.ref x) = true) (h : WP n mc ms M Post (pc + 3) lv st k j S I (uR R a kk (some b))) : WP n mc ms M Post pc lv (.ref (S.2.1 b) :: .ref (S.2.1 a) :: st) k j S I R := by
  intro l p e s m args below meth c D cy A H locs ls C hl hP hD hS
  obtain ⟨hc, C2, T, N, e1, e2, e3, e4, e5, e6, e7, e8, e9⟩ := gf
  refine va_put C.1 C.2.1 (own := M.1.cls) (ref := (T kk).1) C.2.2.2.2.2.2.2.1 (fun w hw => List.mem_cons_of_mem _ (e4 w hw)) (fty ci) e5 e6 C.2.2.2.2.2.1 C.2.2.2.2.2.2.2.2.1.1 hP hD hS a (fs := fl ci (I a) (fun k => (R a k).map S.2.1)) (by rw [pw_get hb.1, pE_ob hb hc]) e1 kk e3 (C.2.2.2.2.2.2.2.1 _ (List.mem_cons_of_mem _ e7)) (fun _ h9 => h9) e8 (e5 kk e3) (by rw [hf]; exact hnr _) (by rw [hf]; exact hft _) (by rw [fl_len]; exact e2 ▸ e3) d (fun H1 locs1 hP hD hS => ?_)
  rw [pw_set (I' := I) (R' := (uR R a kk (some b))) (by rw [pE_ob hb hc, fl_set (e2 ▸ e3) (I' := (I) a) (R' := fun k => (((uR R a kk (some b))) a k).map S.2.1) (v := .ref (S.2.1 b)) (by simp [hf, hfv, uR_s, va_rf]) (fun i hi => ⟨by simp [uI, uR, hi], by simp [uI, uR, hi]⟩)]) (fun b hb => by simp [pE_uI hb, pE_uR hb])] at hP hD
  exact h l p e s m args below meth c D cy A H1 locs1 ls C hl hP hD hS
theorem x_putIF {idx ci kk a : Nat} {z : Int} (d : decode M.2.1 pc = .ok (.putfield idx, 3)) (gf : GF M.1.cls idx ci kk true) (hb : OB S a ci) (hf : fty ci kk = .int) (hini : M.1.name = "<init>") (hdecl : vwCl[ci]?.map (fun q => q.1) = some M.1.cls) (h : WP n mc ms M Post (pc + 3) lv st k j S (uI I a kk z) R) : WP n mc ms M Post pc lv (.int (iI z) :: .ref (S.2.1 a) :: st) k j S I R := by
  intro l p e s m args below meth c D cy A H locs ls C hl hP hD hS
  obtain ⟨hc, C2, T, N, e1, e2, e3, e4, e5, e6, e7, e8, e9⟩ := gf
  have hdecl : (T kk).1 = M.1.cls := by rw [e1] at hdecl; exact e9.trans (Option.some.inj hdecl)
  refine va_putF C.1 C.2.1 (own := M.1.cls) (ref := (T kk).1) C.2.2.2.2.2.2.2.1 (fun w hw => List.mem_cons_of_mem _ (e4 w hw)) (fty ci) e5 e6 C.2.2.2.2.2.1 C.2.2.2.2.2.2.2.2.1.1 hP hD hS a (fs := fl ci (I a) (fun k => (R a k).map S.2.1)) (by rw [pw_get hb.1, pE_ob hb hc]) e1 kk e3 (C.2.2.2.2.2.2.2.1 _ (List.mem_cons_of_mem _ e7)) (fun _ h9 => h9) e8 (C.2.2.2.2.2.2.1.trans hini) hdecl (e5 kk e3) (by rw [hf]; rfl) (by rw [hf]; rfl) (by rw [fl_len]; exact e2 ▸ e3) d (fun H1 locs1 hP hD hS => ?_)
  rw [pw_set (I' := (uI I a kk z)) (R' := R) (by rw [pE_ob hb hc, fl_set (e2 ▸ e3) (I' := ((uI I a kk z)) a) (R' := fun k => ((R) a k).map S.2.1) (v := .int (iI z)) (by simp [hf, fv, uI_s]) (fun i hi => ⟨by simp [uI, uR, hi], by simp [uI, uR, hi]⟩)]) (fun b hb => by simp [pE_uI hb, pE_uR hb])] at hP hD
  exact h l p e s m args below meth c D cy A H1 locs1 ls C hl hP hD hS
theorem x_putZF {idx ci kk a : Nat} {z : Int} (d : decode M.2.1 pc = .ok (.putfield idx, 3)) (gf : GF M.1.cls idx ci kk true) (hb : OB S a ci) (hf : fty ci kk = .boolean) (hz : z = 0 ∨ z = 1) (hini : M.1.name = "<init>") (hdecl : vwCl[ci]?.map (fun q => q.1) = some M.1.cls) (h : WP n mc ms M Post (pc + 3) lv st k j S (uI I a kk z) R) : WP n mc ms M Post pc lv (.int (iI z) :: .ref (S.2.1 a) :: st) k j S I R := by
  intro l p e s m args below meth c D cy A H locs ls C hl hP hD hS
  obtain ⟨hc, C2, T, N, e1, e2, e3, e4, e5, e6, e7, e8, e9⟩ := gf
  have hdecl : (T kk).1 = M.1.cls := by rw [e1] at hdecl; exact e9.trans (Option.some.inj hdecl)
  refine va_putF C.1 C.2.1 (own := M.1.cls) (ref := (T kk).1) C.2.2.2.2.2.2.2.1 (fun w hw => List.mem_cons_of_mem _ (e4 w hw)) (fty ci) e5 e6 C.2.2.2.2.2.1 C.2.2.2.2.2.2.2.2.1.1 hP hD hS a (fs := fl ci (I a) (fun k => (R a k).map S.2.1)) (by rw [pw_get hb.1, pE_ob hb hc]) e1 kk e3 (C.2.2.2.2.2.2.2.1 _ (List.mem_cons_of_mem _ e7)) (fun _ h9 => h9) e8 (C.2.2.2.2.2.2.1.trans hini) hdecl (e5 kk e3) (by rw [hf]; rcases hz with rfl | rfl <;> rfl) (by rw [hf]; rcases hz with rfl | rfl <;> rfl) (by rw [fl_len]; exact e2 ▸ e3) d (fun H1 locs1 hP hD hS => ?_)
  rw [pw_set (I' := (uI I a kk z)) (R' := R) (by rw [pE_ob hb hc, fl_set (e2 ▸ e3) (I' := ((uI I a kk z)) a) (R' := fun k => ((R) a k).map S.2.1) (v := .int (iI z)) (by simp [hf, fv, uI_s]) (fun i hi => ⟨by simp [uI, uR, hi], by simp [uI, uR, hi]⟩)]) (fun b hb => by simp [pE_uI hb, pE_uR hb])] at hP hD
  exact h l p e s m args below meth c D cy A H1 locs1 ls C hl hP hD hS
theorem x_putLF {idx ci kk a : Nat} {z : Int} (d : decode M.2.1 pc = .ok (.putfield idx, 3)) (gf : GF M.1.cls idx ci kk true) (hb : OB S a ci) (hf : fty ci kk = .long) (hini : M.1.name = "<init>") (hdecl : vwCl[ci]?.map (fun q => q.1) = some M.1.cls) (h : WP n mc ms M Post (pc + 3) lv st k j S (uI I a kk z) R) : WP n mc ms M Post pc lv (.long (lI z) :: .ref (S.2.1 a) :: st) k j S I R := by
  intro l p e s m args below meth c D cy A H locs ls C hl hP hD hS
  obtain ⟨hc, C2, T, N, e1, e2, e3, e4, e5, e6, e7, e8, e9⟩ := gf
  have hdecl : (T kk).1 = M.1.cls := by rw [e1] at hdecl; exact e9.trans (Option.some.inj hdecl)
  refine va_putF C.1 C.2.1 (own := M.1.cls) (ref := (T kk).1) C.2.2.2.2.2.2.2.1 (fun w hw => List.mem_cons_of_mem _ (e4 w hw)) (fty ci) e5 e6 C.2.2.2.2.2.1 C.2.2.2.2.2.2.2.2.1.1 hP hD hS a (fs := fl ci (I a) (fun k => (R a k).map S.2.1)) (by rw [pw_get hb.1, pE_ob hb hc]) e1 kk e3 (C.2.2.2.2.2.2.2.1 _ (List.mem_cons_of_mem _ e7)) (fun _ h9 => h9) e8 (C.2.2.2.2.2.2.1.trans hini) hdecl (e5 kk e3) (by rw [hf]; rfl) (by rw [hf]; rfl) (by rw [fl_len]; exact e2 ▸ e3) d (fun H1 locs1 hP hD hS => ?_)
  rw [pw_set (I' := (uI I a kk z)) (R' := R) (by rw [pE_ob hb hc, fl_set (e2 ▸ e3) (I' := ((uI I a kk z)) a) (R' := fun k => ((R) a k).map S.2.1) (v := .long (lI z)) (by simp [hf, fv, uI_s]) (fun i hi => ⟨by simp [uI, uR, hi], by simp [uI, uR, hi]⟩)]) (fun b hb => by simp [pE_uI hb, pE_uR hb])] at hP hD
  exact h l p e s m args below meth c D cy A H1 locs1 ls C hl hP hD hS
theorem x_putRF {idx ci kk a : Nat} {b : Nat} {ty : FieldType} (d : decode M.2.1 pc = .ok (.putfield idx, 3)) (gf : GF M.1.cls idx ci kk true) (hb : OB S a ci) (hf : fty ci kk = ty) (hfv : ∀ z r, fv ty z r = va_rf r) (hnr : ∀ x, narrow ty (.ref x) = .ref x) (hft : ∀ x, fits ty (.ref x) = true) (hini : M.1.name = "<init>") (hdecl : vwCl[ci]?.map (fun q => q.1) = some M.1.cls) (h : WP n mc ms M Post (pc + 3) lv st k j S I (uR R a kk (some b))) : WP n mc ms M Post pc lv (.ref (S.2.1 b) :: .ref (S.2.1 a) :: st) k j S I R := by
  intro l p e s m args below meth c D cy A H locs ls C hl hP hD hS
  obtain ⟨hc, C2, T, N, e1, e2, e3, e4, e5, e6, e7, e8, e9⟩ := gf
  have hdecl : (T kk).1 = M.1.cls := by rw [e1] at hdecl; exact e9.trans (Option.some.inj hdecl)
  refine va_putF C.1 C.2.1 (own := M.1.cls) (ref := (T kk).1) C.2.2.2.2.2.2.2.1 (fun w hw => List.mem_cons_of_mem _ (e4 w hw)) (fty ci) e5 e6 C.2.2.2.2.2.1 C.2.2.2.2.2.2.2.2.1.1 hP hD hS a (fs := fl ci (I a) (fun k => (R a k).map S.2.1)) (by rw [pw_get hb.1, pE_ob hb hc]) e1 kk e3 (C.2.2.2.2.2.2.2.1 _ (List.mem_cons_of_mem _ e7)) (fun _ h9 => h9) e8 (C.2.2.2.2.2.2.1.trans hini) hdecl (e5 kk e3) (by rw [hf]; exact hnr _) (by rw [hf]; exact hft _) (by rw [fl_len]; exact e2 ▸ e3) d (fun H1 locs1 hP hD hS => ?_)
  rw [pw_set (I' := I) (R' := (uR R a kk (some b))) (by rw [pE_ob hb hc, fl_set (e2 ▸ e3) (I' := (I) a) (R' := fun k => (((uR R a kk (some b))) a k).map S.2.1) (v := .ref (S.2.1 b)) (by simp [hf, hfv, uR_s, va_rf]) (fun i hi => ⟨by simp [uI, uR, hi], by simp [uI, uR, hi]⟩)]) (fun b hb => by simp [pE_uI hb, pE_uR hb])] at hP hD
  exact h l p e s m args below meth c D cy A H1 locs1 ls C hl hP hD hS
theorem x_iaload {a N : Nat} {z : Int} (d : decode M.2.1 pc = .ok (.iaload, 1)) (hA : AR S a 13 N) (hz : 0 ≤ z ∧ z < N) (hN : N < 2147483648) (h : WP n mc ms M Post (pc + 1) lv (.int (iI (I a z.toNat)) :: st) k j S I R) : WP n mc ms M Post pc lv (.int (iI z) :: .ref (S.2.1 a) :: st) k j S I R := by
  intro l p e s m args below meth c D cy A H locs ls C hl hP hD hS
  refine va_iald C.1 C.2.1 C.2.2.2.2.2.2.2.2.1.1 hP a 0 (ha := by rw [pw_get hA.1, pE_i hA]) rfl (iI_in hz.1 hz.2 (by omega)) d ?_
  rw [iI_clamp hz.1 (by omega)]
  exact h l p e s m args below meth c D cy A H locs ls C hl hP hD hS
theorem x_laload {a N : Nat} {z : Int} (d : decode M.2.1 pc = .ok (.laload, 1)) (hA : AR S a 14 N) (hz : 0 ≤ z ∧ z < N) (hN : N < 2147483648) (h : WP n mc ms M Post (pc + 1) lv (.long (lI (I a z.toNat)) :: st) k j S I R) : WP n mc ms M Post pc lv (.int (iI z) :: .ref (S.2.1 a) :: st) k j S I R := by
  intro l p e s m args below meth c D cy A H locs ls C hl hP hD hS
  refine va_lald C.1 C.2.1 C.2.2.2.2.2.2.2.2.1.1 hP a 1 (ha := by rw [pw_get hA.1, pE_l hA]) rfl (iI_in hz.1 hz.2 (by omega)) d ?_
  rw [iI_clamp hz.1 (by omega)]
  exact h l p e s m args below meth c D cy A H locs ls C hl hP hD hS
theorem x_zaload {a N : Nat} {z : Int} (d : decode M.2.1 pc = .ok (.baload, 1)) (hA : AR S a 15 N) (hz : 0 ≤ z ∧ z < N) (hN : N < 2147483648) (h : WP n mc ms M Post (pc + 1) lv (.int (iI (I a z.toNat)) :: st) k j S I R) : WP n mc ms M Post pc lv (.int (iI z) :: .ref (S.2.1 a) :: st) k j S I R := by
  intro l p e s m args below meth c D cy A H locs ls C hl hP hD hS
  refine va_zald C.1 C.2.1 C.2.2.2.2.2.2.2.2.1.1 hP a 2 (ha := by rw [pw_get hA.1, pE_z hA]) rfl (iI_in hz.1 hz.2 (by omega)) d ?_
  rw [iI_clamp hz.1 (by omega)]
  exact h l p e s m args below meth c D cy A H locs ls C hl hP hD hS
theorem x_aaload_s {a N : Nat} {z : Int} {v : Value} (d : decode M.2.1 pc = .ok (.aaload, 1)) (hA : AR S a 16 N) (hz : 0 ≤ z ∧ z < N) (hv : va_rf ((R a z.toNat).map S.2.1) = v) (hN : N < 2147483648) (h : WP n mc ms M Post (pc + 1) lv (v :: st) k j S I R) : WP n mc ms M Post pc lv (.int (iI z) :: .ref (S.2.1 a) :: st) k j S I R := by
  intro l p e s m args below meth c D cy A H locs ls C hl hP hD hS
  refine va_aldq C.1 C.2.1 C.2.2.2.2.2.2.2.2.1.1 hP a 3 (ha := by rw [pw_get hA.1, pE_s hA]) rfl (iI_in hz.1 hz.2 (by omega)) d ?_
  rw [iI_clamp hz.1 (by omega), hv]
  exact h l p e s m args below meth c D cy A H locs ls C hl hP hD hS
theorem x_aaload_t {a N : Nat} {z : Int} {v : Value} (d : decode M.2.1 pc = .ok (.aaload, 1)) (hA : AR S a 17 N) (hz : 0 ≤ z ∧ z < N) (hv : va_rf ((R a z.toNat).map S.2.1) = v) (hN : N < 2147483648) (h : WP n mc ms M Post (pc + 1) lv (v :: st) k j S I R) : WP n mc ms M Post pc lv (.int (iI z) :: .ref (S.2.1 a) :: st) k j S I R := by
  intro l p e s m args below meth c D cy A H locs ls C hl hP hD hS
  refine va_aldq C.1 C.2.1 C.2.2.2.2.2.2.2.2.1.1 hP a 4 (ha := by rw [pw_get hA.1, pE_t hA]) rfl (iI_in hz.1 hz.2 (by omega)) d ?_
  rw [iI_clamp hz.1 (by omega), hv]
  exact h l p e s m args below meth c D cy A H locs ls C hl hP hD hS
theorem x_iastore {a N : Nat} {z v : Int} (d : decode M.2.1 pc = .ok (.iastore, 1)) (hA : AR S a 13 N) (hz : 0 ≤ z ∧ z < N) (hN : N < 2147483648) (h : WP n mc ms M Post (pc + 1) lv st k j S (uI I a z.toNat v) R) : WP n mc ms M Post pc lv (.int (iI v) :: .int (iI z) :: .ref (S.2.1 a) :: st) k j S I R := by
  intro l p e s m args below meth c D cy A H locs ls C hl hP hD hS
  refine va_iast C.1 C.2.1 C.2.2.2.2.2.2.2.2.1.1 hP hD hS a 0 (ha := by rw [pw_get hA.1, pE_i hA]) rfl (iI_in hz.1 hz.2 (by omega)) d (fun H1 locs1 hP hD hS => ?_)
  rw [iI_clamp hz.1 (by omega), pw_set (I' := uI I a z.toNat v) (R' := R) (by rw [pE_i hA, iI_upd]) (fun b hb => pE_uI hb)] at hP hD
  exact h l p e s m args below meth c D cy A H1 locs1 ls C hl hP hD hS
theorem x_lastore {a N : Nat} {z v : Int} (d : decode M.2.1 pc = .ok (.lastore, 1)) (hA : AR S a 14 N) (hz : 0 ≤ z ∧ z < N) (hN : N < 2147483648) (h : WP n mc ms M Post (pc + 1) lv st k j S (uI I a z.toNat v) R) : WP n mc ms M Post pc lv (.long (lI v) :: .int (iI z) :: .ref (S.2.1 a) :: st) k j S I R := by
  intro l p e s m args below meth c D cy A H locs ls C hl hP hD hS
  refine va_last C.1 C.2.1 C.2.2.2.2.2.2.2.2.1.1 hP hD hS a 1 (ha := by rw [pw_get hA.1, pE_l hA]) rfl (iI_in hz.1 hz.2 (by omega)) d (fun H1 locs1 hP hD hS => ?_)
  rw [iI_clamp hz.1 (by omega), pw_set (I' := uI I a z.toNat v) (R' := R) (by rw [pE_l hA, lI_upd]) (fun b hb => pE_uI hb)] at hP hD
  exact h l p e s m args below meth c D cy A H1 locs1 ls C hl hP hD hS
theorem x_zastore {a N : Nat} {z v : Int} (d : decode M.2.1 pc = .ok (.bastore, 1)) (hA : AR S a 15 N) (hz : 0 ≤ z ∧ z < N) (hv : v = 0 ∨ v = 1) (hN : N < 2147483648) (h : WP n mc ms M Post (pc + 1) lv st k j S (uI I a z.toNat v) R) : WP n mc ms M Post pc lv (.int (iI v) :: .int (iI z) :: .ref (S.2.1 a) :: st) k j S I R := by
  intro l p e s m args below meth c D cy A H locs ls C hl hP hD hS
  refine va_zast C.1 C.2.1 C.2.2.2.2.2.2.2.2.1.1 hP hD hS a 2 (ha := by rw [pw_get hA.1, pE_z hA]) rfl (iI_in hz.1 hz.2 (by omega)) d (fun H1 locs1 hP hD hS => ?_)
  rw [iI_clamp hz.1 (by omega), show vp_nar .boolean (iI v) = iI v by rcases hv with rfl | rfl <;> rfl, pw_set (I' := uI I a z.toNat v) (R' := R) (by rw [pE_z hA, iI_upd]) (fun b hb => pE_uI hb)] at hP hD
  exact h l p e s m args below meth c D cy A H1 locs1 ls C hl hP hD hS
theorem x_aastore_s {a N b : Nat} {z : Int} (d : decode M.2.1 pc = .ok (.aastore, 1)) (hA : AR S a 16 N) (hb : OB S b 6) (hz : 0 ≤ z ∧ z < N) (hN : N < 2147483648) (h : WP n mc ms M Post (pc + 1) lv st k j S I (uR R a z.toNat (some b))) : WP n mc ms M Post pc lv (.ref (S.2.1 b) :: .int (iI z) :: .ref (S.2.1 a) :: st) k j S I R := by
  intro l p e s m args below meth c D cy A H locs ls C hl hP hD hS
  refine va_astq C.1 C.2.1 C.2.2.2.2.2.2.2.2.1.1 hP hD hS a 3 b 6 (r := (RX6, TX6, 9)) (ha := by rw [pw_get hA.1, pE_s hA]) rfl (hv := by rw [pw_get hb.1, pE_ob hb (by decide)]) rfl (iI_in hz.1 hz.2 (by omega)) d (fun H1 locs1 hP hD hS => ?_)
  rw [iI_clamp hz.1 (by omega), pw_set (I' := I) (R' := uR R a z.toNat (some b)) (by rw [pE_s hA]; congr; funext q; by_cases hq : q = z.toNat <;> simp [uR, va_up, hq]) (fun b hb => pE_uR hb)] at hP hD
  exact h l p e s m args below meth c D cy A H1 locs1 ls C hl hP hD hS
theorem x_aastore_t {a N b : Nat} {z : Int} (d : decode M.2.1 pc = .ok (.aastore, 1)) (hA : AR S a 17 N) (hb : OB S b 8) (hz : 0 ≤ z ∧ z < N) (hN : N < 2147483648) (h : WP n mc ms M Post (pc + 1) lv st k j S I (uR R a z.toNat (some b))) : WP n mc ms M Post pc lv (.ref (S.2.1 b) :: .int (iI z) :: .ref (S.2.1 a) :: st) k j S I R := by
  intro l p e s m args below meth c D cy A H locs ls C hl hP hD hS
  refine va_astq C.1 C.2.1 C.2.2.2.2.2.2.2.2.1.1 hP hD hS a 4 b 8 (r := (RX8, TX8, 7)) (ha := by rw [pw_get hA.1, pE_t hA]) rfl (hv := by rw [pw_get hb.1, pE_ob hb (by decide)]) rfl (iI_in hz.1 hz.2 (by omega)) d (fun H1 locs1 hP hD hS => ?_)
  rw [iI_clamp hz.1 (by omega), pw_set (I' := I) (R' := uR R a z.toNat (some b)) (by rw [pE_t hA]; congr; funext q; by_cases hq : q = z.toNat <;> simp [uR, va_up, hq]) (fun b hb => pE_uR hb)] at hP hD
  exact h l p e s m args below meth c D cy A H1 locs1 ls C hl hP hD hS
theorem x_alen {a N : Nat} (d : decode M.2.1 pc = .ok (.arraylength, 1)) (hA : AR S a 13 N) (h : WP n mc ms M Post (pc + 1) lv (.int (iI (N : Int)) :: st) k j S I R) : WP n mc ms M Post pc lv (.ref (S.2.1 a) :: st) k j S I R := by
  intro l p e s m args below meth c D cy A H locs ls C hl hP hD hS
  refine va_alen C.1 C.2.1 C.2.2.2.2.2.2.2.2.1.1 hP a 0 (ha := by rw [pw_get hA.1, pE_i hA]) rfl (v := iI (N : Int)) (by unfold iI; simp [Int32.ofInt_eq_ofNat]) d ?_
  exact h l p e s m args below meth c D cy A H locs ls C hl hP hD hS
end Heap
