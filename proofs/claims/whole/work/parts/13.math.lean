section LCif
variable {n mc ms : Nat} {M : Md} {Post : PT} {pc : Nat} {lv lv2 : List (Nat × Value)} {st : List Value} {k j : Nat} {S : Sh} {I : CI} {R : CR}
theorem x_lcif_lt {x y off : Int} (tgt : Nat) (d1 : decode M.2.1 pc = .ok (.lcmp, 1)) (d2 : decode M.2.1 (pc + 1) = .ok (.ifCond .lt off, 3)) (ht : ((pc + 1 : Nat) : Int) + off = (tgt : Int)) (hr : Rl x ∧ Rl y) (h1 : x < y → WP n mc ms M Post tgt lv st k j S I R) (h2 : ¬ (x < y) → WP n mc ms M Post (pc + 4) lv st k j S I R) : WP n mc ms M Post pc lv (.long (lI y) :: .long (lI x) :: st) k j S I R := by
  have e : cmpI x y < 0 ↔ x < y := by
    unfold cmpI
    by_cases q1 : y < x
    · rw [if_pos q1]; omega
    · rw [if_neg q1]
      by_cases q2 : x = y
      · rw [if_pos q2]; omega
      · rw [if_neg q2]; omega
  have er : -2147483648 ≤ cmpI x y ∧ cmpI x y < 2147483648 := by
    unfold cmpI
    by_cases q1 : y < x
    · rw [if_pos q1]; omega
    · rw [if_neg q1]
      by_cases q2 : x = y
      · rw [if_pos q2]; omega
      · rw [if_neg q2]; omega
  refine x_lcmp d1 hr ?_
  exact x_if_lt tgt d2 ht er (fun q => h1 (e.mp q)) (fun q => h2 (fun z => q (e.mpr z)))
theorem x_lcif_le {x y off : Int} (tgt : Nat) (d1 : decode M.2.1 pc = .ok (.lcmp, 1)) (d2 : decode M.2.1 (pc + 1) = .ok (.ifCond .le off, 3)) (ht : ((pc + 1 : Nat) : Int) + off = (tgt : Int)) (hr : Rl x ∧ Rl y) (h1 : x ≤ y → WP n mc ms M Post tgt lv st k j S I R) (h2 : ¬ (x ≤ y) → WP n mc ms M Post (pc + 4) lv st k j S I R) : WP n mc ms M Post pc lv (.long (lI y) :: .long (lI x) :: st) k j S I R := by
  have e : cmpI x y ≤ 0 ↔ x ≤ y := by
    unfold cmpI
    by_cases q1 : y < x
    · rw [if_pos q1]; omega
    · rw [if_neg q1]
      by_cases q2 : x = y
      · rw [if_pos q2]; omega
      · rw [if_neg q2]; omega
  have er : -2147483648 ≤ cmpI x y ∧ cmpI x y < 2147483648 := by
    unfold cmpI
    by_cases q1 : y < x
    · rw [if_pos q1]; omega
    · rw [if_neg q1]
      by_cases q2 : x = y
      · rw [if_pos q2]; omega
      · rw [if_neg q2]; omega
  refine x_lcmp d1 hr ?_
  exact x_if_le tgt d2 ht er (fun q => h1 (e.mp q)) (fun q => h2 (fun z => q (e.mpr z)))
theorem x_lcif_eq {x y off : Int} (tgt : Nat) (d1 : decode M.2.1 pc = .ok (.lcmp, 1)) (d2 : decode M.2.1 (pc + 1) = .ok (.ifCond .eq off, 3)) (ht : ((pc + 1 : Nat) : Int) + off = (tgt : Int)) (hr : Rl x ∧ Rl y) (h1 : x = y → WP n mc ms M Post tgt lv st k j S I R) (h2 : ¬ (x = y) → WP n mc ms M Post (pc + 4) lv st k j S I R) : WP n mc ms M Post pc lv (.long (lI y) :: .long (lI x) :: st) k j S I R := by
  have e : cmpI x y = 0 ↔ x = y := by
    unfold cmpI
    by_cases q1 : y < x
    · rw [if_pos q1]; omega
    · rw [if_neg q1]
      by_cases q2 : x = y
      · rw [if_pos q2]; omega
      · rw [if_neg q2]; omega
  have er : -2147483648 ≤ cmpI x y ∧ cmpI x y < 2147483648 := by
    unfold cmpI
    by_cases q1 : y < x
    · rw [if_pos q1]; omega
    · rw [if_neg q1]
      by_cases q2 : x = y
      · rw [if_pos q2]; omega
      · rw [if_neg q2]; omega
  refine x_lcmp d1 hr ?_
  exact x_if_eq tgt d2 ht er (fun q => h1 (e.mp q)) (fun q => h2 (fun z => q (e.mpr z)))
theorem x_lcif_ne {x y off : Int} (tgt : Nat) (d1 : decode M.2.1 pc = .ok (.lcmp, 1)) (d2 : decode M.2.1 (pc + 1) = .ok (.ifCond .ne off, 3)) (ht : ((pc + 1 : Nat) : Int) + off = (tgt : Int)) (hr : Rl x ∧ Rl y) (h1 : x ≠ y → WP n mc ms M Post tgt lv st k j S I R) (h2 : ¬ (x ≠ y) → WP n mc ms M Post (pc + 4) lv st k j S I R) : WP n mc ms M Post pc lv (.long (lI y) :: .long (lI x) :: st) k j S I R := by
  have e : cmpI x y ≠ 0 ↔ x ≠ y := by
    unfold cmpI
    by_cases q1 : y < x
    · rw [if_pos q1]; omega
    · rw [if_neg q1]
      by_cases q2 : x = y
      · rw [if_pos q2]; omega
      · rw [if_neg q2]; omega
  have er : -2147483648 ≤ cmpI x y ∧ cmpI x y < 2147483648 := by
    unfold cmpI
    by_cases q1 : y < x
    · rw [if_pos q1]; omega
    · rw [if_neg q1]
      by_cases q2 : x = y
      · rw [if_pos q2]; omega
      · rw [if_neg q2]; omega
  refine x_lcmp d1 hr ?_
  exact x_if_ne tgt d2 ht er (fun q => h1 (e.mp q)) (fun q => h2 (fun z => q (e.mpr z)))
theorem x_lcif_gt {x y off : Int} (tgt : Nat) (d1 : decode M.2.1 pc = .ok (.lcmp, 1)) (d2 : decode M.2.1 (pc + 1) = .ok (.ifCond .gt off, 3)) (ht : ((pc + 1 : Nat) : Int) + off = (tgt : Int)) (hr : Rl x ∧ Rl y) (h1 : y < x → WP n mc ms M Post tgt lv st k j S I R) (h2 : ¬ (y < x) → WP n mc ms M Post (pc + 4) lv st k j S I R) : WP n mc ms M Post pc lv (.long (lI y) :: .long (lI x) :: st) k j S I R := by
  have e : 0 < cmpI x y ↔ y < x := by
    unfold cmpI
    by_cases q1 : y < x
    · rw [if_pos q1]; omega
    · rw [if_neg q1]
      by_cases q2 : x = y
      · rw [if_pos q2]; omega
      · rw [if_neg q2]; omega
  have er : -2147483648 ≤ cmpI x y ∧ cmpI x y < 2147483648 := by
    unfold cmpI
    by_cases q1 : y < x
    · rw [if_pos q1]; omega
    · rw [if_neg q1]
      by_cases q2 : x = y
      · rw [if_pos q2]; omega
      · rw [if_neg q2]; omega
  refine x_lcmp d1 hr ?_
  exact x_if_gt tgt d2 ht er (fun q => h1 (e.mp q)) (fun q => h2 (fun z => q (e.mpr z)))
theorem x_lcif_ge {x y off : Int} (tgt : Nat) (d1 : decode M.2.1 pc = .ok (.lcmp, 1)) (d2 : decode M.2.1 (pc + 1) = .ok (.ifCond .ge off, 3)) (ht : ((pc + 1 : Nat) : Int) + off = (tgt : Int)) (hr : Rl x ∧ Rl y) (h1 : y ≤ x → WP n mc ms M Post tgt lv st k j S I R) (h2 : ¬ (y ≤ x) → WP n mc ms M Post (pc + 4) lv st k j S I R) : WP n mc ms M Post pc lv (.long (lI y) :: .long (lI x) :: st) k j S I R := by
  have e : 0 ≤ cmpI x y ↔ y ≤ x := by
    unfold cmpI
    by_cases q1 : y < x
    · rw [if_pos q1]; omega
    · rw [if_neg q1]
      by_cases q2 : x = y
      · rw [if_pos q2]; omega
      · rw [if_neg q2]; omega
  have er : -2147483648 ≤ cmpI x y ∧ cmpI x y < 2147483648 := by
    unfold cmpI
    by_cases q1 : y < x
    · rw [if_pos q1]; omega
    · rw [if_neg q1]
      by_cases q2 : x = y
      · rw [if_pos q2]; omega
      · rw [if_neg q2]; omega
  refine x_lcmp d1 hr ?_
  exact x_if_ge tgt d2 ht er (fun q => h1 (e.mp q)) (fun q => h2 (fun z => q (e.mpr z)))
theorem x_mmin {idx : Nat} {x y : Int} (d : decode M.2.1 pc = .ok (.invokestatic idx, 3)) (cv : CSf M.1.cls idx mJ9_min_7cf53 2) (hn : 1 ≤ n) (hrest : (st.map fun v => v.category).sum ≤ 8) (hk : k ≤ mc) (hj : j ≤ ms) (hr : Rg x ∧ Rg y) (h : ∀ r, (r = x ∧ x ≤ y ∨ r = y ∧ y < x) → WP n mc ms M Post (pc + 3) lv (.int (iI r) :: st) k j S I R) : WP n mc ms M Post pc lv (.int (iI y) :: .int (iI x) :: st) k j S I R := by
  intro l p e s m args below meth c D cy A H locs ls C hl hP hD hS
  refine va_mmin C.1 C.2.1 (C.2.2.1.trans hl.1.symm) C.2.2.2.2.2.1 (index := idx) (C.2.2.2.2.2.2.2.1 _ (List.mem_cons_of_mem _ cv.2.1)) (C.2.2.2.2.2.2.2.1 _ (List.mem_cons_of_mem _ cv.2.2)) (C.2.2.2.2.2.2.2.1 _ (List.mem_cons_of_mem _ cv.1.1)) (C.2.2.2.2.2.2.2.1 _ (List.mem_cons_of_mem _ cv.1.2.1)) hn (by show _ ≤ 64 * n; omega) hk hj d ?_
  by_cases q : y < x
  · rw [if_pos ((iI_lt hr.2 hr.1).mpr q)]; exact h y (by omega) l p e s m args below meth c D cy A H locs ls C hl hP hD hS
  · rw [if_neg (fun z => q ((iI_lt hr.2 hr.1).mp z))]; exact h x (by omega) l p e s m args below meth c D cy A H locs ls C hl hP hD hS
theorem x_mmax {idx : Nat} {x y : Int} (d : decode M.2.1 pc = .ok (.invokestatic idx, 3)) (cv : CSf M.1.cls idx mJ9_max_7cf53 2) (hn : 1 ≤ n) (hrest : (st.map fun v => v.category).sum ≤ 8) (hk : k ≤ mc) (hj : j ≤ ms) (hr : Rg x ∧ Rg y) (h : ∀ r, (r = x ∧ y ≤ x ∨ r = y ∧ x < y) → WP n mc ms M Post (pc + 3) lv (.int (iI r) :: st) k j S I R) : WP n mc ms M Post pc lv (.int (iI y) :: .int (iI x) :: st) k j S I R := by
  intro l p e s m args below meth c D cy A H locs ls C hl hP hD hS
  refine va_mmax C.1 C.2.1 (C.2.2.1.trans hl.1.symm) C.2.2.2.2.2.1 (index := idx) (C.2.2.2.2.2.2.2.1 _ (List.mem_cons_of_mem _ cv.2.1)) (C.2.2.2.2.2.2.2.1 _ (List.mem_cons_of_mem _ cv.2.2)) (C.2.2.2.2.2.2.2.1 _ (List.mem_cons_of_mem _ cv.1.1)) (C.2.2.2.2.2.2.2.1 _ (List.mem_cons_of_mem _ cv.1.2.1)) hn (by show _ ≤ 64 * n; omega) hk hj d ?_
  by_cases q : x < y
  · rw [if_pos ((iI_lt hr.1 hr.2).mpr q)]; exact h y (by omega) l p e s m args below meth c D cy A H locs ls C hl hP hD hS
  · rw [if_neg (fun z => q ((iI_lt hr.1 hr.2).mp z))]; exact h x (by omega) l p e s m args below meth c D cy A H locs ls C hl hP hD hS
theorem x_mabs {idx : Nat} {x : Int} (d : decode M.2.1 pc = .ok (.invokestatic idx, 3)) (cv : CSf M.1.cls idx mJ9_abs_0f7a4 1) (hn : 1 ≤ n) (hrest : (st.map fun v => v.category).sum ≤ 8) (hk : k ≤ mc) (hj : j ≤ ms) (hr : Rg x) (h : ∀ r, (r = x ∧ 0 ≤ x ∨ r = -x ∧ x < 0) → WP n mc ms M Post (pc + 3) lv (.int (iI r) :: st) k j S I R) : WP n mc ms M Post pc lv (.int (iI x) :: st) k j S I R := by
  intro l p e s m args below meth c D cy A H locs ls C hl hP hD hS
  refine va_mabs C.1 C.2.1 (C.2.2.1.trans hl.1.symm) C.2.2.2.2.2.1 (index := idx) (C.2.2.2.2.2.2.2.1 _ (List.mem_cons_of_mem _ cv.2.1)) (C.2.2.2.2.2.2.2.1 _ (List.mem_cons_of_mem _ cv.2.2)) (C.2.2.2.2.2.2.2.1 _ (List.mem_cons_of_mem _ cv.1.1)) (C.2.2.2.2.2.2.2.1 _ (List.mem_cons_of_mem _ cv.1.2.1)) hn (by show _ ≤ 64 * n; omega) hk hj d ?_
  rw [show (0 : Int32) = iI 0 from rfl]
  by_cases q : 0 ≤ x
  · rw [if_pos ((iI_le (x := 0) (by omega) hr).mpr q)]; exact h x (by omega) l p e s m args below meth c D cy A H locs ls C hl hP hD hS
  · rw [if_neg (fun z => q ((iI_le (x := 0) (by omega) hr).mp z)), iI_sub, Int.zero_sub]; exact h (-x) (by omega) l p e s m args below meth c D cy A H locs ls C hl hP hD hS
theorem x_mmin_long {idx : Nat} {x y : Int} (d : decode M.2.1 pc = .ok (.invokestatic idx, 3)) (cv : CSf M.1.cls idx mJ9_min_f86c9 2) (hn : 1 ≤ n) (hrest : (st.map fun v => v.category).sum ≤ 8) (hk : k ≤ mc) (hj : j ≤ ms) (hr : Rl x ∧ Rl y) (h : ∀ r, (r = x ∧ x ≤ y ∨ r = y ∧ y < x) → WP n mc ms M Post (pc + 3) lv (.long (lI r) :: st) k j S I R) : WP n mc ms M Post pc lv (.long (lI y) :: .long (lI x) :: st) k j S I R := by
  intro l p e s m args below meth c D cy A H locs ls C hl hP hD hS
  refine va_mmin_long C.1 C.2.1 (C.2.2.1.trans hl.1.symm) C.2.2.2.2.2.1 (index := idx) (C.2.2.2.2.2.2.2.1 _ (List.mem_cons_of_mem _ cv.2.1)) (C.2.2.2.2.2.2.2.1 _ (List.mem_cons_of_mem _ cv.2.2)) (C.2.2.2.2.2.2.2.1 _ (List.mem_cons_of_mem _ cv.1.1)) (C.2.2.2.2.2.2.2.1 _ (List.mem_cons_of_mem _ cv.1.2.1)) hn (by show _ ≤ 64 * n; omega) hk hj d ?_
  by_cases q : y < x
  · rw [if_pos ((lI_lt hr.2 hr.1).mpr q)]; exact h y (by omega) l p e s m args below meth c D cy A H locs ls C hl hP hD hS
  · rw [if_neg (fun z => q ((lI_lt hr.2 hr.1).mp z))]; exact h x (by omega) l p e s m args below meth c D cy A H locs ls C hl hP hD hS
theorem x_mmax_long {idx : Nat} {x y : Int} (d : decode M.2.1 pc = .ok (.invokestatic idx, 3)) (cv : CSf M.1.cls idx mJ9_max_f86c9 2) (hn : 1 ≤ n) (hrest : (st.map fun v => v.category).sum ≤ 8) (hk : k ≤ mc) (hj : j ≤ ms) (hr : Rl x ∧ Rl y) (h : ∀ r, (r = x ∧ y ≤ x ∨ r = y ∧ x < y) → WP n mc ms M Post (pc + 3) lv (.long (lI r) :: st) k j S I R) : WP n mc ms M Post pc lv (.long (lI y) :: .long (lI x) :: st) k j S I R := by
  intro l p e s m args below meth c D cy A H locs ls C hl hP hD hS
  refine va_mmax_long C.1 C.2.1 (C.2.2.1.trans hl.1.symm) C.2.2.2.2.2.1 (index := idx) (C.2.2.2.2.2.2.2.1 _ (List.mem_cons_of_mem _ cv.2.1)) (C.2.2.2.2.2.2.2.1 _ (List.mem_cons_of_mem _ cv.2.2)) (C.2.2.2.2.2.2.2.1 _ (List.mem_cons_of_mem _ cv.1.1)) (C.2.2.2.2.2.2.2.1 _ (List.mem_cons_of_mem _ cv.1.2.1)) hn (by show _ ≤ 64 * n; omega) hk hj d ?_
  by_cases q : y < x
  · rw [if_pos ((lI_lt hr.2 hr.1).mpr q)]; exact h x (by omega) l p e s m args below meth c D cy A H locs ls C hl hP hD hS
  · rw [if_neg (fun z => q ((lI_lt hr.2 hr.1).mp z))]; exact h y (by omega) l p e s m args below meth c D cy A H locs ls C hl hP hD hS
theorem x_mabs_long {idx : Nat} {x : Int} (d : decode M.2.1 pc = .ok (.invokestatic idx, 3)) (cv : CSf M.1.cls idx mJ9_abs_067f4 1) (hn : 1 ≤ n) (hrest : (st.map fun v => v.category).sum ≤ 8) (hk : k ≤ mc) (hj : j ≤ ms) (hr : Rl x) (h : ∀ r, (r = x ∧ 0 ≤ x ∨ r = -x ∧ x ≤ 0) → WP n mc ms M Post (pc + 3) lv (.long (lI r) :: st) k j S I R) : WP n mc ms M Post pc lv (.long (lI x) :: st) k j S I R := by
  intro l p e s m args below meth c D cy A H locs ls C hl hP hD hS
  refine va_mabs_long C.1 C.2.1 (C.2.2.1.trans hl.1.symm) C.2.2.2.2.2.1 (index := idx) (C.2.2.2.2.2.2.2.1 _ (List.mem_cons_of_mem _ cv.2.1)) (C.2.2.2.2.2.2.2.1 _ (List.mem_cons_of_mem _ cv.2.2)) (C.2.2.2.2.2.2.2.1 _ (List.mem_cons_of_mem _ cv.1.1)) (C.2.2.2.2.2.2.2.1 _ (List.mem_cons_of_mem _ cv.1.2.1)) hn (by show _ ≤ 64 * n; omega) hk hj d ?_
  rw [show (0 : Int64) = lI 0 from rfl]
  by_cases q : 0 < x
  · rw [if_pos ((lI_lt (x := 0) (by omega) hr).mpr q)]; exact h x (by omega) l p e s m args below meth c D cy A H locs ls C hl hP hD hS
  · rw [if_neg (fun z => q ((lI_lt (x := 0) (by omega) hr).mp z)), lI_neg]; exact h (-x) (by omega) l p e s m args below meth c D cy A H locs ls C hl hP hD hS
end LCif
section MathM
variable {n : Nat} {Post : PT} {S : Sh} {I : CI} {R : CR}
theorem dX11_isPerson_0 : decode prog_1_method_48_code 0 = .ok (.iload_n 0, 1) := by decide +kernel
theorem dX11_isPerson_1 : decode prog_1_method_48_code 1 = .ok (.ifCond .lt 13, 3) := by decide +kernel
theorem dX11_isPerson_4 : decode prog_1_method_48_code 4 = .ok (.iload_n 0, 1) := by decide +kernel
theorem dX11_isPerson_5 : decode prog_1_method_48_code 5 = .ok (.bipush 6, 2) := by decide +kernel
theorem dX11_isPerson_7 : decode prog_1_method_48_code 7 = .ok (.if_icmp .ge 7, 3) := by decide +kernel
theorem dX11_isPerson_10 : decode prog_1_method_48_code 10 = .ok (.iconst 1, 1) := by decide +kernel
theorem dX11_isPerson_11 : decode prog_1_method_48_code 11 = .ok (.goto 4, 3) := by decide +kernel
theorem dX11_isPerson_14 : decode prog_1_method_48_code 14 = .ok (.iconst 0, 1) := by decide +kernel
theorem dX11_isPerson_15 : decode prog_1_method_48_code 15 = .ok (.ireturn, 1) := by decide +kernel
theorem sp_X11_isPerson {q : Int} (hq : Rg q) (hp : ∀ r, (r = 1 ∧ 0 ≤ q ∧ q < 6 ∨ r = 0 ∧ ¬ (0 ≤ q ∧ q < 6)) → Post (some (.int (iI r))) S I R) : Call n 0 0 mX11_isPerson [.int (iI q)] S I R Post := by
  refine Call.of (by decide +kernel) (Nat.le_of_ble_eq_true rfl) ?_
  show WP _ _ _ _ _ 0 [(0, _)] [] 0 0 _ _ _
  refine x_iload_n dX11_isPerson_0 rfl ?_
  refine x_if_lt 14 dX11_isPerson_1 (by decide) (by omega) (fun w1 => ?_) (fun w1 => ?_)
  · refine x_iconst dX11_isPerson_14 ?_
    exact x_zreturn (by omega) dX11_isPerson_15 rfl (by omega) (by omega) (hp _ (by omega))
  · refine x_iload_n dX11_isPerson_4 rfl ?_
    refine x_bipush dX11_isPerson_5 (by decide) ?_
    refine x_icmp_ge 14 dX11_isPerson_7 (by decide) ⟨(by omega), (by omega)⟩ (fun w7 => ?_) (fun w7 => ?_)
    · refine x_iconst dX11_isPerson_14 ?_
      exact x_zreturn (by omega) dX11_isPerson_15 rfl (by omega) (by omega) (hp _ (by omega))
    · refine x_iconst dX11_isPerson_10 ?_
      refine x_goto 15 dX11_isPerson_11 (by decide) ?_
      exact x_zreturn (by omega) dX11_isPerson_15 rfl (by omega) (by omega) (hp _ (by omega))
theorem dX11_areTwo_0 : decode prog_1_method_49_code 0 = .ok (.iload_n 0, 1) := by decide +kernel
theorem dX11_areTwo_1 : decode prog_1_method_49_code 1 = .ok (.invokestatic 219, 3) := by decide +kernel
theorem dX11_areTwo_4 : decode prog_1_method_49_code 4 = .ok (.ifCond .eq 19, 3) := by decide +kernel
theorem dX11_areTwo_7 : decode prog_1_method_49_code 7 = .ok (.iload_n 1, 1) := by decide +kernel
theorem dX11_areTwo_8 : decode prog_1_method_49_code 8 = .ok (.invokestatic 219, 3) := by decide +kernel
theorem dX11_areTwo_11 : decode prog_1_method_49_code 11 = .ok (.ifCond .eq 12, 3) := by decide +kernel
theorem dX11_areTwo_14 : decode prog_1_method_49_code 14 = .ok (.iload_n 0, 1) := by decide +kernel
theorem dX11_areTwo_15 : decode prog_1_method_49_code 15 = .ok (.iload_n 1, 1) := by decide +kernel
theorem dX11_areTwo_16 : decode prog_1_method_49_code 16 = .ok (.if_icmp .eq 7, 3) := by decide +kernel
theorem dX11_areTwo_19 : decode prog_1_method_49_code 19 = .ok (.iconst 1, 1) := by decide +kernel
theorem dX11_areTwo_20 : decode prog_1_method_49_code 20 = .ok (.goto 4, 3) := by decide +kernel
theorem dX11_areTwo_23 : decode prog_1_method_49_code 23 = .ok (.iconst 0, 1) := by decide +kernel
theorem dX11_areTwo_24 : decode prog_1_method_49_code 24 = .ok (.ireturn, 1) := by decide +kernel
theorem sp_X11_areTwo {q w : Int} (hq : Rg q) (hw : Rg w) (hn : 1 ≤ n) (hp : ∀ r, (r = 1 ∧ (0 ≤ q ∧ q < 6 ∧ 0 ≤ w ∧ w < 6 ∧ q ≠ w) ∨ r = 0 ∧ ¬ (0 ≤ q ∧ q < 6 ∧ 0 ≤ w ∧ w < 6 ∧ q ≠ w)) → Post (some (.int (iI r))) S I R) : Call n 0 0 mX11_areTwo [.int (iI q), .int (iI w)] S I R Post := by
  refine Call.of (by decide +kernel) (Nat.le_of_ble_eq_true rfl) ?_
  show WP _ _ _ _ _ 0 [(0, _), (1, _)] [] 0 0 _ _ _
  refine x_iload_n dX11_areTwo_0 rfl ?_
  refine x_callS1 (mc1 := 0) (ms1 := 0) dX11_areTwo_1 cv_RX11_219 (Nat.le_of_ble_eq_true rfl) (n1 := n - 1) (by omega) (by omega) (by omega) ?_
  refine sp_X11_isPerson (by omega) (fun r1 hr1 => ?_)
  refine x_if_eq 23 dX11_areTwo_4 (by decide) (by omega) (fun w4 => ?_) (fun w4 => ?_)
  · refine x_iconst dX11_areTwo_23 ?_
    exact x_zreturn (by omega) dX11_areTwo_24 rfl (by omega) (by omega) (hp _ (by omega))
  · refine x_iload_n dX11_areTwo_7 rfl ?_
    refine x_callS1 (mc1 := 0) (ms1 := 0) dX11_areTwo_8 cv_RX11_219 (Nat.le_of_ble_eq_true rfl) (n1 := n - 1) (by omega) (by omega) (by omega) ?_
    refine sp_X11_isPerson (by omega) (fun r8 hr8 => ?_)
    refine x_if_eq 23 dX11_areTwo_11 (by decide) (by omega) (fun w11 => ?_) (fun w11 => ?_)
    · refine x_iconst dX11_areTwo_23 ?_
      exact x_zreturn (by omega) dX11_areTwo_24 rfl (by omega) (by omega) (hp _ (by omega))
    · refine x_iload_n dX11_areTwo_14 rfl ?_
      refine x_iload_n dX11_areTwo_15 rfl ?_
      refine x_icmp_eq 23 dX11_areTwo_16 (by decide) ⟨(by omega), (by omega)⟩ (fun w16 => ?_) (fun w16 => ?_)
      · refine x_iconst dX11_areTwo_23 ?_
        exact x_zreturn (by omega) dX11_areTwo_24 rfl (by omega) (by omega) (hp _ (by omega))
      · refine x_iconst dX11_areTwo_19 ?_
        refine x_goto 24 dX11_areTwo_20 (by decide) ?_
        exact x_zreturn (by omega) dX11_areTwo_24 rfl (by omega) (by omega) (hp _ (by omega))
end MathM
