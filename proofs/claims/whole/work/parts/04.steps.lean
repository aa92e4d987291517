section Steps
variable {n mc ms : Nat} {M : Md} {Post : PT} {pc : Nat} {lv lv2 : List (Nat × Value)} {st : List Value} {k j : Nat} {S : Sh} {I : CI} {R : CR}
theorem lk_of {ls : Array Slot} {nL : Nat} {i : Nat} {v : Value} (h : lv_has ls nL lv) (hv : lv.lookup i = some v) : ls[i]? = some (.val v) := by
  refine h.2.2 (i, v) ?_
  clear h
  induction lv with
  | nil => simp at hv
  | cons q r ih =>
    obtain ⟨a, b⟩ := q
    simp only [List.lookup] at hv
    by_cases ha : i = a
    · subst ha
      simp at hv
      subst hv
      exact List.mem_cons_self
    · have : (i == a) = false := by simp [ha]
      rw [this] at hv
      exact List.mem_cons_of_mem _ (ih hv)
theorem x_sub (ks : List Nat) (hk : lv_pick lv ks = lv2) (h : WP n mc ms M Post pc lv2 st k j S I R) : WP n mc ms M Post pc lv st k j S I R := by
  intro l p e s m args below meth c D cy A H locs ls C hl hP hD hS
  exact h l p e s m args below meth c D cy A H locs ls C (lv_sub hl ks hk) hP hD hS
theorem x_iconst {z : Int} (d : decode M.2.1 pc = .ok (.iconst z, 1))  (h : WP n mc ms M Post (pc + 1) lv (.int (iI z) :: st) k j S I R) : WP n mc ms M Post pc lv st k j S I R := by
  intro l p e s m args below meth c D cy A H locs ls C hl hP hD hS
  refine lv_iconst C.1 C.2.1 d rfl ?_
  exact h l p e s m args below meth c D cy A H locs ls C hl hP hD hS
theorem x_bipush {z : Int} (d : decode M.2.1 pc = .ok (.bipush z, 2)) (hz : -128 ≤ z ∧ z < 128) (h : WP n mc ms M Post (pc + 2) lv (.int (iI z) :: st) k j S I R) : WP n mc ms M Post pc lv st k j S I R := by
  intro l p e s m args below meth c D cy A H locs ls C hl hP hD hS
  refine lv_bipush C.1 C.2.1 d (v := iI z) (by rw [← Int32.toInt_inj, Int8.toInt_toInt32, Int8.toInt_ofInt, show Int8.size = 256 from rfl, iI_toInt (by omega) (by omega)]; exact Int.bmod_eq_of_le (by omega) (by omega)) ?_
  exact h l p e s m args below meth c D cy A H locs ls C hl hP hD hS
theorem x_sipush {z : Int} (d : decode M.2.1 pc = .ok (.sipush z, 3)) (hz : -32768 ≤ z ∧ z < 32768) (h : WP n mc ms M Post (pc + 3) lv (.int (iI z) :: st) k j S I R) : WP n mc ms M Post pc lv st k j S I R := by
  intro l p e s m args below meth c D cy A H locs ls C hl hP hD hS
  refine lv_sipush C.1 C.2.1 d (v := iI z) (by rw [← Int32.toInt_inj, Int16.toInt_toInt32, Int16.toInt_ofInt, show Int16.size = 65536 from rfl, iI_toInt (by omega) (by omega)]; exact Int.bmod_eq_of_le (by omega) (by omega)) ?_
  exact h l p e s m args below meth c D cy A H locs ls C hl hP hD hS
theorem x_lconst {z : Fin 2} (d : decode M.2.1 pc = .ok (.lconst z, 1))  (h : WP n mc ms M Post (pc + 1) lv (.long (lI (z : Nat)) :: st) k j S I R) : WP n mc ms M Post pc lv st k j S I R := by
  intro l p e s m args below meth c D cy A H locs ls C hl hP hD hS
  refine lv_lconst C.1 C.2.1 d (v := lI (z : Nat)) (by match z with | 0 => rfl | 1 => rfl) ?_
  exact h l p e s m args below meth c D cy A H locs ls C hl hP hD hS
theorem x_iload_n {i : Fin 4} {x : Int} (d : decode M.2.1 pc = .ok (.iload_n i, 1)) (hv : lv.lookup (i : Nat) = some (.int (iI x))) (h : WP n mc ms M Post (pc + 1) lv (.int (iI x) :: st) k j S I R) : WP n mc ms M Post pc lv st k j S I R := by
  intro l p e s m args below meth c D cy A H locs ls C hl hP hD hS
  refine lv_iload_n C.1 C.2.1 d rfl (lk_of hl hv) ?_
  exact h l p e s m args below meth c D cy A H locs ls C hl hP hD hS
theorem x_iload {i : Nat} {x : Int} (d : decode M.2.1 pc = .ok (.iload i, 2)) (hv : lv.lookup i = some (.int (iI x))) (h : WP n mc ms M Post (pc + 2) lv (.int (iI x) :: st) k j S I R) : WP n mc ms M Post pc lv st k j S I R := by
  intro l p e s m args below meth c D cy A H locs ls C hl hP hD hS
  refine lv_iload C.1 C.2.1 d (lk_of hl hv) ?_
  exact h l p e s m args below meth c D cy A H locs ls C hl hP hD hS
theorem x_lload_n {i : Fin 4} {x : Int} (d : decode M.2.1 pc = .ok (.lload_n i, 1)) (hv : lv.lookup (i : Nat) = some (.long (lI x))) (h : WP n mc ms M Post (pc + 1) lv (.long (lI x) :: st) k j S I R) : WP n mc ms M Post pc lv st k j S I R := by
  intro l p e s m args below meth c D cy A H locs ls C hl hP hD hS
  refine lv_lload_n C.1 C.2.1 d rfl (lk_of hl hv) ?_
  exact h l p e s m args below meth c D cy A H locs ls C hl hP hD hS
theorem x_lload {i : Nat} {x : Int} (d : decode M.2.1 pc = .ok (.lload i, 2)) (hv : lv.lookup i = some (.long (lI x))) (h : WP n mc ms M Post (pc + 2) lv (.long (lI x) :: st) k j S I R) : WP n mc ms M Post pc lv st k j S I R := by
  intro l p e s m args below meth c D cy A H locs ls C hl hP hD hS
  refine lv_lload C.1 C.2.1 d (lk_of hl hv) ?_
  exact h l p e s m args below meth c D cy A H locs ls C hl hP hD hS
theorem x_aload_n {i : Fin 4} {x : Nat} (d : decode M.2.1 pc = .ok (.aload_n i, 1)) (hv : lv.lookup (i : Nat) = some (.ref x)) (h : WP n mc ms M Post (pc + 1) lv (.ref x :: st) k j S I R) : WP n mc ms M Post pc lv st k j S I R := by
  intro l p e s m args below meth c D cy A H locs ls C hl hP hD hS
  refine lv_aload_n C.1 C.2.1 d rfl (lk_of hl hv) ?_
  exact h l p e s m args below meth c D cy A H locs ls C hl hP hD hS
theorem x_aload {i : Nat} {x : Nat} (d : decode M.2.1 pc = .ok (.aload i, 2)) (hv : lv.lookup i = some (.ref x)) (h : WP n mc ms M Post (pc + 2) lv (.ref x :: st) k j S I R) : WP n mc ms M Post pc lv st k j S I R := by
  intro l p e s m args below meth c D cy A H locs ls C hl hP hD hS
  refine lv_aload C.1 C.2.1 d (lk_of hl hv) ?_
  exact h l p e s m args below meth c D cy A H locs ls C hl hP hD hS
theorem x_istore_n {i : Fin 4} {x : Int} (d : decode M.2.1 pc = .ok (.istore_n i, 1)) (hn : (i : Nat) < M.2.2.1) (hl2 : ((i : Nat), Value.int (iI x)) :: lv.filter (fun q => !(q.1 == (i : Nat)) && !(q.1 + 1 == (i : Nat) && q.2.category == 2)) = lv2) (h : WP n mc ms M Post (pc + 1) lv2 st k j S I R) : WP n mc ms M Post pc lv (Value.int (iI x) :: st) k j S I R := by
  intro l p e s m args below meth c D cy A H locs ls C hl hP hD hS
  refine lv_istore_n C.1 C.2.1 d rfl hl hn hl2 (fun ls hl => ?_)
  exact h l p e s m args below meth c D cy A H locs ls C hl hP hD hS
theorem x_istore {i : Nat} {x : Int} (d : decode M.2.1 pc = .ok (.istore i, 2)) (hn : i < M.2.2.1) (hl2 : (i, Value.int (iI x)) :: lv.filter (fun q => !(q.1 == i) && !(q.1 + 1 == i && q.2.category == 2)) = lv2) (h : WP n mc ms M Post (pc + 2) lv2 st k j S I R) : WP n mc ms M Post pc lv (Value.int (iI x) :: st) k j S I R := by
  intro l p e s m args below meth c D cy A H locs ls C hl hP hD hS
  refine lv_istore C.1 C.2.1 d hl hn hl2 (fun ls hl => ?_)
  exact h l p e s m args below meth c D cy A H locs ls C hl hP hD hS
theorem x_astore_n {i : Fin 4} {x : Nat} (d : decode M.2.1 pc = .ok (.astore_n i, 1)) (hn : (i : Nat) < M.2.2.1) (hl2 : ((i : Nat), Value.ref x) :: lv.filter (fun q => !(q.1 == (i : Nat)) && !(q.1 + 1 == (i : Nat) && q.2.category == 2)) = lv2) (h : WP n mc ms M Post (pc + 1) lv2 st k j S I R) : WP n mc ms M Post pc lv (Value.ref x :: st) k j S I R := by
  intro l p e s m args below meth c D cy A H locs ls C hl hP hD hS
  refine lv_astore_n C.1 C.2.1 d rfl hl hn hl2 (fun ls hl => ?_)
  exact h l p e s m args below meth c D cy A H locs ls C hl hP hD hS
theorem x_astore {i : Nat} {x : Nat} (d : decode M.2.1 pc = .ok (.astore i, 2)) (hn : i < M.2.2.1) (hl2 : (i, Value.ref x) :: lv.filter (fun q => !(q.1 == i) && !(q.1 + 1 == i && q.2.category == 2)) = lv2) (h : WP n mc ms M Post (pc + 2) lv2 st k j S I R) : WP n mc ms M Post pc lv (Value.ref x :: st) k j S I R := by
  intro l p e s m args below meth c D cy A H locs ls C hl hP hD hS
  refine lv_astore C.1 C.2.1 d hl hn hl2 (fun ls hl => ?_)
  exact h l p e s m args below meth c D cy A H locs ls C hl hP hD hS
theorem x_lstore_n {i : Fin 4} {x : Int} (d : decode M.2.1 pc = .ok (.lstore_n i, 1)) (hn : (i : Nat) + 1 < M.2.2.1) (hl2 : ((i : Nat), Value.long (lI x)) :: lv.filter (fun q => !(q.1 == (i : Nat)) && (!(q.1 == (i : Nat) + 1) && !(q.1 + 1 == (i : Nat) && q.2.category == 2))) = lv2) (h : WP n mc ms M Post (pc + 1) lv2 st k j S I R) : WP n mc ms M Post pc lv (Value.long (lI x) :: st) k j S I R := by
  intro l p e s m args below meth c D cy A H locs ls C hl hP hD hS
  refine lv_lstore_n C.1 C.2.1 d rfl hl hn hl2 (fun ls hl => ?_)
  exact h l p e s m args below meth c D cy A H locs ls C hl hP hD hS
theorem x_lstore {i : Nat} {x : Int} (d : decode M.2.1 pc = .ok (.lstore i, 2)) (hn : i + 1 < M.2.2.1) (hl2 : (i, Value.long (lI x)) :: lv.filter (fun q => !(q.1 == i) && (!(q.1 == i + 1) && !(q.1 + 1 == i && q.2.category == 2))) = lv2) (h : WP n mc ms M Post (pc + 2) lv2 st k j S I R) : WP n mc ms M Post pc lv (Value.long (lI x) :: st) k j S I R := by
  intro l p e s m args below meth c D cy A H locs ls C hl hP hD hS
  refine lv_lstore C.1 C.2.1 d hl hn hl2 (fun ls hl => ?_)
  exact h l p e s m args below meth c D cy A H locs ls C hl hP hD hS
theorem x_iinc {i : Nat} {z x : Int} (d : decode M.2.1 pc = .ok (.iinc i z, 3)) (hv : lv.lookup i = some (.int (iI x))) (hn : i < M.2.2.1) (hl2 : (i, Value.int (iI (x + z))) :: lv.filter (fun q => !(q.1 == i) && !(q.1 + 1 == i && q.2.category == 2)) = lv2) (h : WP n mc ms M Post (pc + 3) lv2 st k j S I R) : WP n mc ms M Post pc lv st k j S I R := by
  intro l p e s m args below meth c D cy A H locs ls C hl hP hD hS
  have hm : (i, Value.int (iI x)) ∈ lv := by
    clear hl2 h d hl hP hD hS C
    induction lv with
    | nil => simp at hv
    | cons q r ih =>
      obtain ⟨a, b⟩ := q
      simp only [List.lookup] at hv
      by_cases ha : i = a
      · subst ha; simp at hv; subst hv; exact List.mem_cons_self
      · have : (i == a) = false := by simp [ha]
        rw [this] at hv
        exact List.mem_cons_of_mem _ (ih hv)
  obtain ⟨kk, hkk⟩ := List.getElem?_of_mem hm
  refine lv_iinc C.1 C.2.1 d hl hkk (v := iI (x + z)) (by rw [← iI_add]; rfl) hn hl2 (fun ls hl => ?_)
  exact h l p e s m args below meth c D cy A H locs ls C hl hP hD hS
theorem x_iadd {x y : Int} (d : decode M.2.1 pc = .ok (.iadd, 1))  (h : WP n mc ms M Post (pc + 1) lv (.int (iI (x + y)) :: st) k j S I R) : WP n mc ms M Post pc lv (.int (iI y) :: .int (iI x) :: st) k j S I R := by
  intro l p e s m args below meth c D cy A H locs ls C hl hP hD hS
  refine lv_iadd C.1 C.2.1 d ?_
  rw [iI_add]
  exact h l p e s m args below meth c D cy A H locs ls C hl hP hD hS
theorem x_isub {x y : Int} (d : decode M.2.1 pc = .ok (.isub, 1))  (h : WP n mc ms M Post (pc + 1) lv (.int (iI (x - y)) :: st) k j S I R) : WP n mc ms M Post pc lv (.int (iI y) :: .int (iI x) :: st) k j S I R := by
  intro l p e s m args below meth c D cy A H locs ls C hl hP hD hS
  refine lv_isub C.1 C.2.1 d ?_
  rw [iI_sub]
  exact h l p e s m args below meth c D cy A H locs ls C hl hP hD hS
theorem x_imul {x y : Int} (d : decode M.2.1 pc = .ok (.imul, 1))  (h : WP n mc ms M Post (pc + 1) lv (.int (iI (x * y)) :: st) k j S I R) : WP n mc ms M Post pc lv (.int (iI y) :: .int (iI x) :: st) k j S I R := by
  intro l p e s m args below meth c D cy A H locs ls C hl hP hD hS
  refine lv_imul C.1 C.2.1 d ?_
  rw [iI_mul]
  exact h l p e s m args below meth c D cy A H locs ls C hl hP hD hS
theorem x_ineg {x : Int} (d : decode M.2.1 pc = .ok (.ineg, 1))  (h : WP n mc ms M Post (pc + 1) lv (.int (iI (-x)) :: st) k j S I R) : WP n mc ms M Post pc lv (.int (iI x) :: st) k j S I R := by
  intro l p e s m args below meth c D cy A H locs ls C hl hP hD hS
  refine lv_ineg C.1 C.2.1 d ?_
  rw [iI_neg]
  exact h l p e s m args below meth c D cy A H locs ls C hl hP hD hS
theorem x_dup {v : Value} (d : decode M.2.1 pc = .ok (.dup, 1)) (hv : v.category = 1) (h : WP n mc ms M Post (pc + 1) lv (v :: v :: st) k j S I R) : WP n mc ms M Post pc lv (v :: st) k j S I R := by
  intro l p e s m args below meth c D cy A H locs ls C hl hP hD hS
  refine lv_dup C.1 C.2.1 d hv ?_
  exact h l p e s m args below meth c D cy A H locs ls C hl hP hD hS
theorem x_pop {v : Value} (d : decode M.2.1 pc = .ok (.pop, 1)) (hv : v.category = 1) (h : WP n mc ms M Post (pc + 1) lv st k j S I R) : WP n mc ms M Post pc lv (v :: st) k j S I R := by
  intro l p e s m args below meth c D cy A H locs ls C hl hP hD hS
  refine lv_pop C.1 C.2.1 d hv ?_
  exact h l p e s m args below meth c D cy A H locs ls C hl hP hD hS
theorem x_dup2 {v w : Value} (d : decode M.2.1 pc = .ok (.dup2, 1)) (hv : v.category = 1) (hw : w.category = 1) (h : WP n mc ms M Post (pc + 1) lv (v :: w :: v :: w :: st) k j S I R) : WP n mc ms M Post pc lv (v :: w :: st) k j S I R := by
  intro l p e s m args below meth c D cy A H locs ls C hl hP hD hS
  refine lv_dup2_11 C.1 C.2.1 d hv hw ?_
  exact h l p e s m args below meth c D cy A H locs ls C hl hP hD hS
theorem x_icmp_eq {x y off : Int} (tgt : Nat) (d : decode M.2.1 pc = .ok (.if_icmp .eq off, 3)) (ht : (pc : Int) + off = (tgt : Int)) (hr : (-2147483648 ≤ x ∧ x < 2147483648) ∧ (-2147483648 ≤ y ∧ y < 2147483648)) (h1 : x = y → WP n mc ms M Post tgt lv st k j S I R) (h2 : ¬ (x = y) → WP n mc ms M Post (pc + 3) lv st k j S I R) : WP n mc ms M Post pc lv (.int (iI y) :: .int (iI x) :: st) k j S I R := by
  intro l p e s m args below meth c D cy A H locs ls C hl hP hD hS
  refine lv_icmp_eq C.1 C.2.1 d ht (fun q => ?_) (fun q => ?_)
  · exact h1 (by first | exact (iI_eq hr.1 hr.2).mp q | exact fun z => q ((iI_eq hr.1 hr.2).mpr z)) l p e s m args below meth c D cy A H locs ls C hl hP hD hS
  · exact h2 (by first | exact fun z => q ((iI_eq hr.1 hr.2).mpr z) | exact fun z => z ((iI_eq hr.1 hr.2).mp q)) l p e s m args below meth c D cy A H locs ls C hl hP hD hS
theorem x_if_eq {x off : Int} (tgt : Nat) (d : decode M.2.1 pc = .ok (.ifCond .eq off, 3)) (ht : (pc : Int) + off = (tgt : Int)) (hr : -2147483648 ≤ x ∧ x < 2147483648) (h1 : x = 0 → WP n mc ms M Post tgt lv st k j S I R) (h2 : ¬ (x = 0) → WP n mc ms M Post (pc + 3) lv st k j S I R) : WP n mc ms M Post pc lv (.int (iI x) :: st) k j S I R := by
  intro l p e s m args below meth c D cy A H locs ls C hl hP hD hS
  refine lv_if_eq C.1 C.2.1 d ht (fun q => ?_) (fun q => ?_)
  · exact h1 (by first | exact (iI_eq (y := 0) hr (by omega)).mp q | exact fun z => q ((iI_eq (y := 0) hr (by omega)).mpr z)) l p e s m args below meth c D cy A H locs ls C hl hP hD hS
  · exact h2 (by first | exact fun z => q ((iI_eq (y := 0) hr (by omega)).mpr z) | exact fun z => z ((iI_eq (y := 0) hr (by omega)).mp q)) l p e s m args below meth c D cy A H locs ls C hl hP hD hS
theorem x_icmp_ne {x y off : Int} (tgt : Nat) (d : decode M.2.1 pc = .ok (.if_icmp .ne off, 3)) (ht : (pc : Int) + off = (tgt : Int)) (hr : (-2147483648 ≤ x ∧ x < 2147483648) ∧ (-2147483648 ≤ y ∧ y < 2147483648)) (h1 : x ≠ y → WP n mc ms M Post tgt lv st k j S I R) (h2 : ¬ (x ≠ y) → WP n mc ms M Post (pc + 3) lv st k j S I R) : WP n mc ms M Post pc lv (.int (iI y) :: .int (iI x) :: st) k j S I R := by
  intro l p e s m args below meth c D cy A H locs ls C hl hP hD hS
  refine lv_icmp_ne C.1 C.2.1 d ht (fun q => ?_) (fun q => ?_)
  · exact h1 (by first | exact (iI_eq hr.1 hr.2).mp q | exact fun z => q ((iI_eq hr.1 hr.2).mpr z)) l p e s m args below meth c D cy A H locs ls C hl hP hD hS
  · exact h2 (by first | exact fun z => q ((iI_eq hr.1 hr.2).mpr z) | exact fun z => z ((iI_eq hr.1 hr.2).mp q)) l p e s m args below meth c D cy A H locs ls C hl hP hD hS
theorem x_if_ne {x off : Int} (tgt : Nat) (d : decode M.2.1 pc = .ok (.ifCond .ne off, 3)) (ht : (pc : Int) + off = (tgt : Int)) (hr : -2147483648 ≤ x ∧ x < 2147483648) (h1 : x ≠ 0 → WP n mc ms M Post tgt lv st k j S I R) (h2 : ¬ (x ≠ 0) → WP n mc ms M Post (pc + 3) lv st k j S I R) : WP n mc ms M Post pc lv (.int (iI x) :: st) k j S I R := by
  intro l p e s m args below meth c D cy A H locs ls C hl hP hD hS
  refine lv_if_ne C.1 C.2.1 d ht (fun q => ?_) (fun q => ?_)
  · exact h1 (by first | exact (iI_eq (y := 0) hr (by omega)).mp q | exact fun z => q ((iI_eq (y := 0) hr (by omega)).mpr z)) l p e s m args below meth c D cy A H locs ls C hl hP hD hS
  · exact h2 (by first | exact fun z => q ((iI_eq (y := 0) hr (by omega)).mpr z) | exact fun z => z ((iI_eq (y := 0) hr (by omega)).mp q)) l p e s m args below meth c D cy A H locs ls C hl hP hD hS
theorem x_icmp_lt {x y off : Int} (tgt : Nat) (d : decode M.2.1 pc = .ok (.if_icmp .lt off, 3)) (ht : (pc : Int) + off = (tgt : Int)) (hr : (-2147483648 ≤ x ∧ x < 2147483648) ∧ (-2147483648 ≤ y ∧ y < 2147483648)) (h1 : x < y → WP n mc ms M Post tgt lv st k j S I R) (h2 : ¬ (x < y) → WP n mc ms M Post (pc + 3) lv st k j S I R) : WP n mc ms M Post pc lv (.int (iI y) :: .int (iI x) :: st) k j S I R := by
  intro l p e s m args below meth c D cy A H locs ls C hl hP hD hS
  refine lv_icmp_lt C.1 C.2.1 d ht (fun q => ?_) (fun q => ?_)
  · exact h1 (by first | exact (iI_lt hr.1 hr.2).mp q | exact fun z => q ((iI_lt hr.1 hr.2).mpr z)) l p e s m args below meth c D cy A H locs ls C hl hP hD hS
  · exact h2 (by first | exact fun z => q ((iI_lt hr.1 hr.2).mpr z) | exact fun z => z ((iI_lt hr.1 hr.2).mp q)) l p e s m args below meth c D cy A H locs ls C hl hP hD hS
theorem x_if_lt {x off : Int} (tgt : Nat) (d : decode M.2.1 pc = .ok (.ifCond .lt off, 3)) (ht : (pc : Int) + off = (tgt : Int)) (hr : -2147483648 ≤ x ∧ x < 2147483648) (h1 : x < 0 → WP n mc ms M Post tgt lv st k j S I R) (h2 : ¬ (x < 0) → WP n mc ms M Post (pc + 3) lv st k j S I R) : WP n mc ms M Post pc lv (.int (iI x) :: st) k j S I R := by
  intro l p e s m args below meth c D cy A H locs ls C hl hP hD hS
  refine lv_if_lt C.1 C.2.1 d ht (fun q => ?_) (fun q => ?_)
  · exact h1 (by first | exact (iI_lt (y := 0) hr (by omega)).mp q | exact fun z => q ((iI_lt (y := 0) hr (by omega)).mpr z)) l p e s m args below meth c D cy A H locs ls C hl hP hD hS
  · exact h2 (by first | exact fun z => q ((iI_lt (y := 0) hr (by omega)).mpr z) | exact fun z => z ((iI_lt (y := 0) hr (by omega)).mp q)) l p e s m args below meth c D cy A H locs ls C hl hP hD hS
theorem x_icmp_ge {x y off : Int} (tgt : Nat) (d : decode M.2.1 pc = .ok (.if_icmp .ge off, 3)) (ht : (pc : Int) + off = (tgt : Int)) (hr : (-2147483648 ≤ x ∧ x < 2147483648) ∧ (-2147483648 ≤ y ∧ y < 2147483648)) (h1 : y ≤ x → WP n mc ms M Post tgt lv st k j S I R) (h2 : ¬ (y ≤ x) → WP n mc ms M Post (pc + 3) lv st k j S I R) : WP n mc ms M Post pc lv (.int (iI y) :: .int (iI x) :: st) k j S I R := by
  intro l p e s m args below meth c D cy A H locs ls C hl hP hD hS
  refine lv_icmp_ge C.1 C.2.1 d ht (fun q => ?_) (fun q => ?_)
  · exact h1 (by first | exact (iI_le hr.2 hr.1).mp q | exact fun z => q ((iI_le hr.2 hr.1).mpr z)) l p e s m args below meth c D cy A H locs ls C hl hP hD hS
  · exact h2 (by first | exact fun z => q ((iI_le hr.2 hr.1).mpr z) | exact fun z => z ((iI_le hr.2 hr.1).mp q)) l p e s m args below meth c D cy A H locs ls C hl hP hD hS
theorem x_if_ge {x off : Int} (tgt : Nat) (d : decode M.2.1 pc = .ok (.ifCond .ge off, 3)) (ht : (pc : Int) + off = (tgt : Int)) (hr : -2147483648 ≤ x ∧ x < 2147483648) (h1 : 0 ≤ x → WP n mc ms M Post tgt lv st k j S I R) (h2 : ¬ (0 ≤ x) → WP n mc ms M Post (pc + 3) lv st k j S I R) : WP n mc ms M Post pc lv (.int (iI x) :: st) k j S I R := by
  intro l p e s m args below meth c D cy A H locs ls C hl hP hD hS
  refine lv_if_ge C.1 C.2.1 d ht (fun q => ?_) (fun q => ?_)
  · exact h1 (by first | exact (iI_le (x := 0) (y := x) (by omega) hr).mp q | exact fun z => q ((iI_le (x := 0) (y := x) (by omega) hr).mpr z)) l p e s m args below meth c D cy A H locs ls C hl hP hD hS
  · exact h2 (by first | exact fun z => q ((iI_le (x := 0) (y := x) (by omega) hr).mpr z) | exact fun z => z ((iI_le (x := 0) (y := x) (by omega) hr).mp q)) l p e s m args below meth c D cy A H locs ls C hl hP hD hS
theorem x_icmp_gt {x y off : Int} (tgt : Nat) (d : decode M.2.1 pc = .ok (.if_icmp .gt off, 3)) (ht : (pc : Int) + off = (tgt : Int)) (hr : (-2147483648 ≤ x ∧ x < 2147483648) ∧ (-2147483648 ≤ y ∧ y < 2147483648)) (h1 : y < x → WP n mc ms M Post tgt lv st k j S I R) (h2 : ¬ (y < x) → WP n mc ms M Post (pc + 3) lv st k j S I R) : WP n mc ms M Post pc lv (.int (iI y) :: .int (iI x) :: st) k j S I R := by
  intro l p e s m args below meth c D cy A H locs ls C hl hP hD hS
  refine lv_icmp_gt C.1 C.2.1 d ht (fun q => ?_) (fun q => ?_)
  · exact h1 (by first | exact (iI_lt hr.2 hr.1).mp q | exact fun z => q ((iI_lt hr.2 hr.1).mpr z)) l p e s m args below meth c D cy A H locs ls C hl hP hD hS
  · exact h2 (by first | exact fun z => q ((iI_lt hr.2 hr.1).mpr z) | exact fun z => z ((iI_lt hr.2 hr.1).mp q)) l p e s m args below meth c D cy A H locs ls C hl hP hD hS
theorem x_if_gt {x off : Int} (tgt : Nat) (d : decode M.2.1 pc = .ok (.ifCond .gt off, 3)) (ht : (pc : Int) + off = (tgt : Int)) (hr : -2147483648 ≤ x ∧ x < 2147483648) (h1 : 0 < x → WP n mc ms M Post tgt lv st k j S I R) (h2 : ¬ (0 < x) → WP n mc ms M Post (pc + 3) lv st k j S I R) : WP n mc ms M Post pc lv (.int (iI x) :: st) k j S I R := by
  intro l p e s m args below meth c D cy A H locs ls C hl hP hD hS
  refine lv_if_gt C.1 C.2.1 d ht (fun q => ?_) (fun q => ?_)
  · exact h1 (by first | exact (iI_lt (x := 0) (y := x) (by omega) hr).mp q | exact fun z => q ((iI_lt (x := 0) (y := x) (by omega) hr).mpr z)) l p e s m args below meth c D cy A H locs ls C hl hP hD hS
  · exact h2 (by first | exact fun z => q ((iI_lt (x := 0) (y := x) (by omega) hr).mpr z) | exact fun z => z ((iI_lt (x := 0) (y := x) (by omega) hr).mp q)) l p e s m args below meth c D cy A H locs ls C hl hP hD hS
theorem x_icmp_le {x y off : Int} (tgt : Nat) (d : decode M.2.1 pc = .ok (.if_icmp .le off, 3)) (ht : (pc : Int) + off = (tgt : Int)) (hr : (-2147483648 ≤ x ∧ x < 2147483648) ∧ (-2147483648 ≤ y ∧ y < 2147483648)) (h1 : x ≤ y → WP n mc ms M Post tgt lv st k j S I R) (h2 : ¬ (x ≤ y) → WP n mc ms M Post (pc + 3) lv st k j S I R) : WP n mc ms M Post pc lv (.int (iI y) :: .int (iI x) :: st) k j S I R := by
  intro l p e s m args below meth c D cy A H locs ls C hl hP hD hS
  refine lv_icmp_le C.1 C.2.1 d ht (fun q => ?_) (fun q => ?_)
  · exact h1 (by first | exact (iI_le hr.1 hr.2).mp q | exact fun z => q ((iI_le hr.1 hr.2).mpr z)) l p e s m args below meth c D cy A H locs ls C hl hP hD hS
  · exact h2 (by first | exact fun z => q ((iI_le hr.1 hr.2).mpr z) | exact fun z => z ((iI_le hr.1 hr.2).mp q)) l p e s m args below meth c D cy A H locs ls C hl hP hD hS
theorem x_if_le {x off : Int} (tgt : Nat) (d : decode M.2.1 pc = .ok (.ifCond .le off, 3)) (ht : (pc : Int) + off = (tgt : Int)) (hr : -2147483648 ≤ x ∧ x < 2147483648) (h1 : x ≤ 0 → WP n mc ms M Post tgt lv st k j S I R) (h2 : ¬ (x ≤ 0) → WP n mc ms M Post (pc + 3) lv st k j S I R) : WP n mc ms M Post pc lv (.int (iI x) :: st) k j S I R := by
  intro l p e s m args below meth c D cy A H locs ls C hl hP hD hS
  refine lv_if_le C.1 C.2.1 d ht (fun q => ?_) (fun q => ?_)
  · exact h1 (by first | exact (iI_le (y := 0) hr (by omega)).mp q | exact fun z => q ((iI_le (y := 0) hr (by omega)).mpr z)) l p e s m args below meth c D cy A H locs ls C hl hP hD hS
  · exact h2 (by first | exact fun z => q ((iI_le (y := 0) hr (by omega)).mpr z) | exact fun z => z ((iI_le (y := 0) hr (by omega)).mp q)) l p e s m args below meth c D cy A H locs ls C hl hP hD hS
theorem x_goto {off : Int} (tgt : Nat) (d : decode M.2.1 pc = .ok (.goto off, 3)) (ht : (pc : Int) + off = (tgt : Int)) (h : WP n mc ms M Post tgt lv st k j S I R) : WP n mc ms M Post pc lv st k j S I R := by
  intro l p e s m args below meth c D cy A H locs ls C hl hP hD hS
  exact lv_goto C.1 C.2.1 d ht (h l p e s m args below meth c D cy A H locs ls C hl hP hD hS)
theorem x_ireturn {x : Int} (d : decode M.2.1 pc = .ok (.ireturn, 1)) (hret : M.2.2.2 = some .int) (hk : k ≤ mc) (hj : j ≤ ms) (h : Post (some (.int (iI x))) S I R) : WP n mc ms M Post pc lv [.int (iI x)] k j S I R := by
  intro l p e s m args below meth c D cy A H locs ls C hl hP hD hS
  refine W.widen hk hj ?_
  have hlocks := C.2.2.2.2.1
  exact W.iret C.1 C.2.1 (C.2.2.2.1.trans hret) (fun t ht hW => ⟨⟨_, S, I, R, rfl, h, by rw [ht]; exact hP, hD, rfl⟩, hS.F ht⟩) hS.2.2 d
theorem x_zreturn {x : Int} (hx : x = 0 ∨ x = 1) (d : decode M.2.1 pc = .ok (.ireturn, 1)) (hret : M.2.2.2 = some .boolean) (hk : k ≤ mc) (hj : j ≤ ms) (h : Post (some (.int (iI x))) S I R) : WP n mc ms M Post pc lv [.int (iI x)] k j S I R := by
  intro l p e s m args below meth c D cy A H locs ls C hl hP hD hS
  refine W.widen hk hj ?_
  have hlocks := C.2.2.2.2.1
  exact W.zret C.1 C.2.1 (C.2.2.2.1.trans hret) (ty := .boolean) (by rcases hx with rfl | rfl <;> rfl) (fun t ht hW => ⟨⟨_, S, I, R, rfl, h, by rw [ht]; exact hP, hD, rfl⟩, hS.F ht⟩) hS.2.2 d
theorem x_lreturn {x : Int} (d : decode M.2.1 pc = .ok (.lreturn, 1)) (hret : M.2.2.2 = some .long) (hk : k ≤ mc) (hj : j ≤ ms) (h : Post (some (.long (lI x))) S I R) : WP n mc ms M Post pc lv [.long (lI x)] k j S I R := by
  intro l p e s m args below meth c D cy A H locs ls C hl hP hD hS
  refine W.widen hk hj ?_
  have hlocks := C.2.2.2.2.1
  exact W.lret C.1 C.2.1 (C.2.2.2.1.trans hret) (fun t ht hW => ⟨⟨_, S, I, R, rfl, h, by rw [ht]; exact hP, hD, rfl⟩, hS.F ht⟩) hS.2.2 d
theorem x_return  (d : decode M.2.1 pc = .ok (.return_, 1)) (hret : M.2.2.2 = none) (hk : k ≤ mc) (hj : j ≤ ms) (h : Post none S I R) : WP n mc ms M Post pc lv [] k j S I R := by
  intro l p e s m args below meth c D cy A H locs ls C hl hP hD hS
  refine W.widen hk hj ?_
  have hlocks := C.2.2.2.2.1
  exact W.vret C.1 C.2.1 (C.2.2.2.1.trans hret) (fun t ht hW => ⟨⟨_, S, I, R, rfl, h, by rw [ht]; exact hP, hD, rfl⟩, hS.F ht⟩) hS.2.2 d
end Steps
