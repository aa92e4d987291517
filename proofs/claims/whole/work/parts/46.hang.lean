section Hang
variable {n : Nat} {Post : PT} {S : Sh} {I : CI} {R : CR} {A : Nat → Int} {tx : Nat → Nat → Int}
/-- a sum of a row's first places -/
def sg (g : Nat → Int) : Nat → Int
  | 0 => 0
  | i + 1 => sg g i + g i
theorem sg_congr {g g' : Nat → Int} : ∀ m : Nat, (∀ i, i < m → g i = g' i) → sg g m = sg g' m := by
  intro m
  induction m with
  | zero => intro _; rfl
  | succ m ih => intro h; simp only [sg]; rw [ih (fun i hi => h i (by omega)), h m (by omega)]
theorem sg_add {g g' : Nat → Int} {j : Nat} {v : Int} : ∀ m : Nat, j < m → (∀ i, i < m → i ≠ j → g' i = g i) → g' j = g j + v → sg g' m = sg g m + v := by
  intro m
  induction m with
  | zero => intro h; omega
  | succ m ih =>
    intro h1 h2 h3
    simp only [sg]
    by_cases e : j = m
    · subst e
      rw [sg_congr j (fun i hi => h2 i (by omega) (by omega)), h3]; omega
    · rw [ih (by omega) (fun i hi => h2 i (by omega)) h3, h2 m (by omega) (Ne.symm e)]; omega
theorem sg_b {g : Nat → Int} {M : Int} (hM : 0 ≤ M) : ∀ m : Nat, (∀ i, i < m → 0 ≤ g i ∧ g i ≤ M) → 0 ≤ sg g m ∧ sg g m ≤ M * m := by
  intro m
  induction m with
  | zero => intro _; simp [sg]
  | succ m ih =>
    intro h
    have h1 := ih (fun i hi => h i (by omega))
    have h2 := h m (by omega)
    simp only [sg]
    have e : M * ((m + 1 : Nat) : Int) = M * m + M := by rw [show ((m + 1 : Nat) : Int) = (m : Int) + 1 by omega, Int.mul_add, Int.mul_one]
    omega
theorem sg_0 {g : Nat → Int} : ∀ m : Nat, (∀ i, i < m → g i = 0) → sg g m = 0 := by
  intro m
  induction m with
  | zero => intro _; rfl
  | succ m ih => intro h; simp only [sg]; rw [ih (fun i hi => h i (by omega)), h m (by omega)]; rfl
/-- bits of sets of eight -/
theorem bc_or {s i : Nat} (hs : s < 256) (hi : i < 8) (h : s.testBit i = false) : bcN (s ||| 2 ^ i) = bcN s + 1 ∧ s ||| 2 ^ i < 256 ∧ s ||| 2 ^ i = s + 2 ^ i := by
  have : ∀ s < 256, ∀ i < 8, s.testBit i = false → bcN (s ||| 2 ^ i) = bcN s + 1 ∧ s ||| 2 ^ i < 256 ∧ s ||| 2 ^ i = s + 2 ^ i := by decide +kernel
  exact this s hs i hi h
theorem bc_less {s i : Nat} (hs : s < 256) (hi : i < 8) (h : s.testBit i = true) : bcN (s - 2 ^ i) + 1 = bcN s ∧ 2 ^ i ≤ s ∧ (s - 2 ^ i).testBit i = false ∧ (s - 2 ^ i) ||| 2 ^ i = s := by
  have : ∀ s < 256, ∀ i < 8, s.testBit i = true → bcN (s - 2 ^ i) + 1 = bcN s ∧ 2 ^ i ≤ s ∧ (s - 2 ^ i).testBit i = false ∧ (s - 2 ^ i) ||| 2 ^ i = s := by decide +kernel
  exact this s hs i hi h
theorem bc_0 {s : Nat} (hs : s < 256) : bcN s = 0 ↔ s = 0 := by
  have : ∀ s < 256, bcN s = 0 ↔ s = 0 := by decide +kernel
  exact this s hs
theorem pw7 {i : Nat} (h : i < 8) : 2 ^ i ≤ 128 ∧ 0 < 2 ^ i := ⟨Nat.pow_le_pow_right (n := 2) (by decide) (show i ≤ 7 by omega), Nat.pow_pos (by decide)⟩
def bck (s : Nat) : Nat → Nat
  | 0 => 0
  | k + 1 => bck s k + (if s.testBit k then 1 else 0)
theorem bck_8 {s : Nat} (hs : s < 256) : bck s 8 = bcN s := by
  have : ∀ s < 256, bck s 8 = bcN s := by decide +kernel
  exact this s hs
theorem sg_bits {s : Nat} {M : Int} : ∀ k : Nat, sg (fun i => if s.testBit i then M else 0) k = M * (bck s k : Nat) := by
  intro k
  induction k with
  | zero => simp [sg, bck]
  | succ k ih =>
    simp only [sg, bck]
    rw [ih]
    split
    · rw [Int.natCast_add, Int.mul_add]; omega
    · rw [Nat.add_zero, Int.add_zero]
theorem sg_le {g g' : Nat → Int} : ∀ m : Nat, (∀ i, i < m → g i ≤ g' i) → sg g m ≤ sg g' m := by
  intro m
  induction m with
  | zero => intro _; exact Int.le_refl _
  | succ m ih => intro h; simp only [sg]; have := ih (fun i hi => h i (by omega)); have := h m (by omega); omega
/-- which quarrels fit a hook -/
def fitQ (A : Nat → Int) (e : Int) (h : Nat) : Nat → Nat
  | 0 => 0
  | i + 1 => if A (12 + 3 * i) = 1 ∧ A (52 + i) - A (68 + h) ≤ e ∧ A (68 + h) - A (52 + i) ≤ e then fitQ A e h i ||| 2 ^ i else fitQ A e h i
theorem fitQ_lt {e : Int} {h : Nat} : ∀ i : Nat, fitQ A e h i < 2 ^ i := by
  intro i
  induction i with
  | zero => exact Nat.one_pos
  | succ i ih =>
    simp only [fitQ]
    split
    · exact orb_lt ih
    · exact Nat.lt_trans ih (Nat.pow_lt_pow_right (by decide) (by omega))
def ftA (A : Nat → Int) (e : Int) (h : Nat) : Nat := fitQ A e h (A 0).toNat
theorem ftA_lt (hb : BA A) {e : Int} {h : Nat} : ftA A e h < 256 := Nat.lt_of_lt_of_le (fitQ_lt _) (Nat.pow_le_pow_right (n := 2) (j := 8) (by decide) (by have := hb.1.1; omega))
/-- in how many ways the hooks from here on hang -/
def wbF (ft : Nat → Nat) (H : Nat) : Nat → Nat → Int
  | 0, s => if bcN s = H then 1 else 0
  | f + 1, s => sg (fun i => if (sdN (ft (bcN s)) s).testBit i = true then wbF ft H f (s ||| 2 ^ i) else 0) 8
def wbA (ft : Nat → Nat) (H s : Nat) : Int := wbF ft H (H - bcN s) s
/-- in how many ways these hang on the first hooks -/
def wuF (ft : Nat → Nat) : Nat → Nat → Int
  | 0, s => if s = 0 then 1 else 0
  | f + 1, s => sg (fun i => if s.testBit i = true ∧ (ft f).testBit i = true then wuF ft f (s - 2 ^ i) else 0) 8
def wuA (ft : Nat → Nat) (s : Nat) : Int := wuF ft (bcN s) s
theorem cn_bit {x s i : Nat} (hx : x < 256) (h : (sdN x s).testBit i = true) : x.testBit i = true ∧ s.testBit i = false := by
  rw [sdN_tb (by omega)] at h
  simpa using h
theorem wbA_ge {ft : Nat → Nat} {H s : Nat} (h : H ≤ bcN s) : wbA ft H s = if bcN s = H then 1 else 0 := by
  unfold wbA
  rw [show H - bcN s = 0 by omega]; rfl
theorem wbA_lt {ft : Nat → Nat} {H s : Nat} (hft : ∀ h, ft h < 256) (hs : s < 256) (h : bcN s < H) : wbA ft H s = sg (fun i => if (sdN (ft (bcN s)) s).testBit i = true then wbA ft H (s ||| 2 ^ i) else 0) 8 := by
  obtain ⟨f, hf⟩ : ∃ f, H - bcN s = f + 1 := ⟨H - bcN s - 1, by omega⟩
  have e : wbA ft H s = wbF ft H (f + 1) s := by unfold wbA; rw [hf]
  rw [e]
  simp only [wbF]
  refine sg_congr 8 (fun i hi => ?_)
  by_cases hc : (sdN (ft (bcN s)) s).testBit i = true
  · rw [if_pos hc, if_pos hc]
    have := (bc_or hs hi (cn_bit (hft _) hc).2).1
    unfold wbA
    rw [show H - bcN (s ||| 2 ^ i) = f by omega]
  · rw [if_neg hc, if_neg hc]
theorem wuA_s {ft : Nat → Nat} {s : Nat} (hs : s < 256) (h0 : s ≠ 0) : wuA ft s = sg (fun i => if s.testBit i = true ∧ (ft (bcN s - 1)).testBit i = true then wuA ft (s - 2 ^ i) else 0) 8 := by
  have hz := bc_0 hs
  obtain ⟨f, hf⟩ : ∃ f, bcN s = f + 1 := ⟨bcN s - 1, by omega⟩
  have e : wuA ft s = wuF ft (f + 1) s := by unfold wuA; rw [hf]
  rw [e]
  simp only [wuF]
  refine sg_congr 8 (fun i hi => ?_)
  rw [show bcN s - 1 = f by omega]
  by_cases hc : s.testBit i = true ∧ (ft f).testBit i = true
  · rw [if_pos hc, if_pos hc]
    have := (bc_less hs hi hc.1).1
    unfold wuA
    rw [show bcN (s - 2 ^ i) = f by omega]
  · rw [if_neg hc, if_neg hc]
def fac : Nat → Int
  | 0 => 1
  | k + 1 => fac k * (k + 1)
theorem fac_p : ∀ k, 0 < fac k := by
  intro k
  induction k with
  | zero => decide
  | succ k ih => simp only [fac]; exact Int.mul_pos ih (by omega)
theorem wuF_b {ft : Nat → Nat} : ∀ (f s : Nat), s < 256 → bcN s = f → 0 ≤ wuF ft f s ∧ wuF ft f s ≤ fac f := by
  intro f
  induction f with
  | zero => intro s hs h; simp only [wuF, fac]; split <;> omega
  | succ f ih =>
    intro s hs h
    simp only [wuF, fac]
    have hp := fac_p f
    have hterm : ∀ i, i < 8 → 0 ≤ (if s.testBit i = true ∧ (ft f).testBit i = true then wuF ft f (s - 2 ^ i) else 0) ∧ (if s.testBit i = true ∧ (ft f).testBit i = true then wuF ft f (s - 2 ^ i) else 0) ≤ (if s.testBit i then fac f else 0) := by
      intro i hi
      by_cases hc : s.testBit i = true ∧ (ft f).testBit i = true
      · rw [if_pos hc, if_pos hc.1]
        have := (bc_less hs hi hc.1).1
        exact ih (s - 2 ^ i) (Nat.lt_of_le_of_lt (Nat.sub_le _ _) hs) (by omega)
      · rw [if_neg hc]
        split <;> omega
    constructor
    · exact (sg_b (M := fac f) (by omega) 8 (fun i hi => ⟨(hterm i hi).1, Int.le_trans (hterm i hi).2 (by split <;> omega)⟩)).1
    · refine Int.le_trans (sg_le 8 (fun i hi => (hterm i hi).2)) ?_
      rw [sg_bits, bck_8 hs, h]
      rw [show (((f + 1 : Nat)) : Int) = (f : Int) + 1 by omega]
      exact Int.le_refl _
theorem wbF_b {ft : Nat → Nat} {H : Nat} : ∀ (f s : Nat), 0 ≤ wbF ft H f s ∧ wbF ft H f s ≤ 8 ^ f := by
  intro f
  induction f with
  | zero => intro s; simp only [wbF]; split <;> omega
  | succ f ih =>
    intro s
    simp only [wbF]
    have hp : (0 : Int) ≤ 8 ^ f := Int.le_trans (ih 0).1 (ih 0).2
    have := sg_b (g := fun i => if (sdN (ft (bcN s)) s).testBit i = true then wbF ft H f (s ||| 2 ^ i) else 0) (M := 8 ^ f) hp 8 (fun i hi => by split; exact ih _; omega)
    rw [Int.pow_succ]
    exact this
theorem p8 {k : Nat} (h : k ≤ 6) : (8 : Int) ^ k ≤ 262144 := by
  have : ∀ k ≤ 6, (8 : Int) ^ k ≤ 262144 := by decide +kernel
  exact this k h
theorem wub {ft : Nat → Nat} {s : Nat} (hs : s < 256) : 0 ≤ wuA ft s ∧ wuA ft s ≤ fac (bcN s) := wuF_b _ s hs rfl
theorem wbb {ft : Nat → Nat} {H s : Nat} : 0 ≤ wbA ft H s ∧ wbA ft H s ≤ 8 ^ (H - bcN s) := wbF_b _ s
theorem prod_b {ft : Nat → Nat} {H h s t : Nat} (hs : s < 256) (h1 : bcN s = h) (h2 : bcN t = h + 1) (hh : h < H) (hH : H ≤ 6) : 0 ≤ wuA ft s * wbA ft H t ∧ wuA ft s * wbA ft H t ≤ 32768 := by
  have b1 := wub (ft := ft) hs
  have b2 := wbb (ft := ft) (H := H) (s := t)
  rw [h1] at b1
  rw [h2] at b2
  refine ⟨Int.mul_nonneg b1.1 b2.1, Int.le_trans (Int.mul_le_mul b1.2 b2.2 b2.1 (by have := fac_p h; omega)) ?_⟩
  have : ∀ H ≤ 6, ∀ h < H, fac h * 8 ^ (H - (h + 1)) ≤ 32768 := by decide +kernel
  exact this H hH h hh
def HFr (I : CI) (ft : Nat → Nat) (H : Nat) : Prop := (∀ h, h < H → I 300 h = (ft h : Int)) ∧ (∀ h, ft h < 256) ∧ H ≤ 6
def Fh (I I' : CI) : Prop := ∀ c, c ≠ 300 → c ≠ 301 → c ≠ 302 → I' c = I c
theorem Fh.rf {I : CI} : Fh I I := fun _ _ _ _ => rfl
theorem Fh.tr {I I' I'' : CI} (h : Fh I I') (h2 : Fh I' I'') : Fh I I'' := fun c h1 h3 h4 => (h2 c h1 h3 h4).trans (h c h1 h3 h4)
theorem Fh.u {I I' : CI} {a k : Nat} {v : Int} (h : Fh I I') (ha : 300 ≤ a ∧ a ≤ 302) : Fh I (uI I' a k v) := fun c h1 h2 h3 => (uI_row (by omega)).trans (h c h1 h2 h3)
theorem Fh.W {I I' : CI} (h : Fh I I') (hc : ClW I 1 A) : ClW I' 1 A := ClW_fr (fun c h1 h2 => h c (by omega) (by omega) (by omega)) hc
theorem dX2_canHang_0 : decode prog_4_method_8_code 0 = .ok (.aload_n 0, 1) := by decide +kernel
theorem dX2_canHang_1 : decode prog_4_method_8_code 1 = .ok (.getfield 9, 3) := by decide +kernel
theorem dX2_canHang_4 : decode prog_4_method_8_code 4 = .ok (.iload_n 1, 1) := by decide +kernel
theorem dX2_canHang_5 : decode prog_4_method_8_code 5 = .ok (.iaload, 1) := by decide +kernel
theorem dX2_canHang_6 : decode prog_4_method_8_code 6 = .ok (.iload_n 3, 1) := by decide +kernel
theorem dX2_canHang_7 : decode prog_4_method_8_code 7 = .ok (.iconst (-1), 1) := by decide +kernel
theorem dX2_canHang_8 : decode prog_4_method_8_code 8 = .ok (.ixor, 1) := by decide +kernel
theorem dX2_canHang_9 : decode prog_4_method_8_code 9 = .ok (.iand, 1) := by decide +kernel
theorem dX2_canHang_10 : decode prog_4_method_8_code 10 = .ok (.iload_n 2, 1) := by decide +kernel
theorem dX2_canHang_11 : decode prog_4_method_8_code 11 = .ok (.ishr, 1) := by decide +kernel
theorem dX2_canHang_12 : decode prog_4_method_8_code 12 = .ok (.iconst 1, 1) := by decide +kernel
theorem dX2_canHang_13 : decode prog_4_method_8_code 13 = .ok (.iand, 1) := by decide +kernel
theorem dX2_canHang_14 : decode prog_4_method_8_code 14 = .ok (.iconst 1, 1) := by decide +kernel
theorem dX2_canHang_15 : decode prog_4_method_8_code 15 = .ok (.if_icmp .ne 7, 3) := by decide +kernel
theorem dX2_canHang_18 : decode prog_4_method_8_code 18 = .ok (.iconst 1, 1) := by decide +kernel
theorem dX2_canHang_19 : decode prog_4_method_8_code 19 = .ok (.goto 4, 3) := by decide +kernel
theorem dX2_canHang_22 : decode prog_4_method_8_code 22 = .ok (.iconst 0, 1) := by decide +kernel
theorem dX2_canHang_23 : decode prog_4_method_8_code 23 = .ok (.ireturn, 1) := by decide +kernel
theorem sp_X2_canHang {ft : Nat → Nat} {H h q s : Nat} (cs : CS S R) (hf : HFr I ft H) (hh : h < H) (hq : q < 8) (hs : s < 256) (hp : ∀ r, (r = 1 ∧ (sdN (ft h) s).testBit q = true ∨ r = 0 ∧ (sdN (ft h) s).testBit q = false) → Post (some (.int (iI r))) S I R) : Call n 0 0 mX2_canHang [.ref (S.2.1 299), .int (iI (h : Int)), .int (iI (q : Int)), .int (iI (s : Int))] S I R Post := by
  have h6 := hf.2.2
  have hfl := hf.2.1 h
  have hsl := sdN_le (ft h) s
  refine Call.of (by decide +kernel) (Nat.le_of_ble_eq_true rfl) ?_
  show WP _ _ _ _ _ 0 [(0, _), (1, _), (2, _), (3, _)] [] 0 0 _ _ _
  refine x_aload_n dX2_canHang_0 rfl ?_
  refine x_getR (b := 300) dX2_canHang_1 gf_RX2_9 (k_ob_299 cs) (fun _ _ => rfl) (k_r_299_1 cs) ?_
  refine x_iload_n dX2_canHang_4 rfl ?_
  refine x_iaload dX2_canHang_5 (k_ar_300 cs) (by omega) (by omega) ?_
  rw [tN, hf.1 h hh]
  refine x_iload_n dX2_canHang_6 rfl ?_
  refine x_iconst dX2_canHang_7 ?_
  refine x_ixor dX2_canHang_8 ?_
  refine x_iand dX2_canHang_9 ?_
  rw [andnot_n (by omega) (by omega)]
  refine x_iload_n dX2_canHang_10 rfl ?_
  refine x_ishr dX2_canHang_11 ?_
  have hb := has_c (x := sdN (ft h) s) (k := q) (by omega) (by omega)
  refine x_iconst dX2_canHang_12 ?_
  refine x_iand dX2_canHang_13 ?_
  refine x_iconst dX2_canHang_14 ?_
  refine x_icmp_ne 22 dX2_canHang_15 (by decide) ⟨(by omega), (by omega)⟩ (fun w15 => ?_) (fun w15 => ?_)
  · refine x_iconst dX2_canHang_22 ?_
    exact x_zreturn (by omega) dX2_canHang_23 rfl (by omega) (by omega) (by rcases hb with hb | hb; (first | exact hp 1 (Or.inl ⟨rfl, hb.2⟩) | (exfalso; omega)); (first | exact hp 0 (Or.inr ⟨rfl, hb.2⟩) | (exfalso; omega)))
  · refine x_iconst dX2_canHang_18 ?_
    refine x_goto 23 dX2_canHang_19 (by decide) ?_
    exact x_zreturn (by omega) dX2_canHang_23 rfl (by omega) (by omega) (by rcases hb with hb | hb; (first | exact hp 1 (Or.inl ⟨rfl, hb.2⟩) | (exfalso; omega)); (first | exact hp 0 (Or.inr ⟨rfl, hb.2⟩) | (exfalso; omega)))
theorem dX2_findFitting_0 : decode prog_4_method_9_code 0 = .ok (.iconst 0, 1) := by decide +kernel
theorem dX2_findFitting_1 : decode prog_4_method_9_code 1 = .ok (.istore_n 2, 1) := by decide +kernel
theorem dX2_findFitting_2 : decode prog_4_method_9_code 2 = .ok (.iload_n 2, 1) := by decide +kernel
theorem dX2_findFitting_3 : decode prog_4_method_9_code 3 = .ok (.aload_n 0, 1) := by decide +kernel
theorem dX2_findFitting_4 : decode prog_4_method_9_code 4 = .ok (.getfield 21, 3) := by decide +kernel
theorem dX2_findFitting_7 : decode prog_4_method_9_code 7 = .ok (.getfield 47, 3) := by decide +kernel
theorem dX2_findFitting_10 : decode prog_4_method_9_code 10 = .ok (.getfield 53, 3) := by decide +kernel
theorem dX2_findFitting_13 : decode prog_4_method_9_code 13 = .ok (.if_icmp .ge 99, 3) := by decide +kernel
theorem dX2_findFitting_16 : decode prog_4_method_9_code 16 = .ok (.aload_n 0, 1) := by decide +kernel
theorem dX2_findFitting_17 : decode prog_4_method_9_code 17 = .ok (.getfield 9, 3) := by decide +kernel
theorem dX2_findFitting_20 : decode prog_4_method_9_code 20 = .ok (.iload_n 2, 1) := by decide +kernel
theorem dX2_findFitting_21 : decode prog_4_method_9_code 21 = .ok (.iconst 0, 1) := by decide +kernel
theorem dX2_findFitting_22 : decode prog_4_method_9_code 22 = .ok (.iastore, 1) := by decide +kernel
theorem dX2_findFitting_23 : decode prog_4_method_9_code 23 = .ok (.iconst 0, 1) := by decide +kernel
theorem dX2_findFitting_24 : decode prog_4_method_9_code 24 = .ok (.istore_n 3, 1) := by decide +kernel
theorem dX2_findFitting_25 : decode prog_4_method_9_code 25 = .ok (.iload_n 3, 1) := by decide +kernel
theorem dX2_findFitting_26 : decode prog_4_method_9_code 26 = .ok (.aload_n 0, 1) := by decide +kernel
theorem dX2_findFitting_27 : decode prog_4_method_9_code 27 = .ok (.getfield 21, 3) := by decide +kernel
theorem dX2_findFitting_30 : decode prog_4_method_9_code 30 = .ok (.getfield 75, 3) := by decide +kernel
theorem dX2_findFitting_33 : decode prog_4_method_9_code 33 = .ok (.getfield 79, 3) := by decide +kernel
theorem dX2_findFitting_36 : decode prog_4_method_9_code 36 = .ok (.if_icmp .ge 70, 3) := by decide +kernel
theorem dX2_findFitting_39 : decode prog_4_method_9_code 39 = .ok (.aload_n 0, 1) := by decide +kernel
theorem dX2_findFitting_40 : decode prog_4_method_9_code 40 = .ok (.getfield 21, 3) := by decide +kernel
theorem dX2_findFitting_43 : decode prog_4_method_9_code 43 = .ok (.getfield 84, 3) := by decide +kernel
theorem dX2_findFitting_46 : decode prog_4_method_9_code 46 = .ok (.iload_n 3, 1) := by decide +kernel
theorem dX2_findFitting_47 : decode prog_4_method_9_code 47 = .ok (.iaload, 1) := by decide +kernel
theorem dX2_findFitting_48 : decode prog_4_method_9_code 48 = .ok (.aload_n 0, 1) := by decide +kernel
theorem dX2_findFitting_49 : decode prog_4_method_9_code 49 = .ok (.getfield 21, 3) := by decide +kernel
theorem dX2_findFitting_52 : decode prog_4_method_9_code 52 = .ok (.getfield 47, 3) := by decide +kernel
theorem dX2_findFitting_55 : decode prog_4_method_9_code 55 = .ok (.getfield 87, 3) := by decide +kernel
theorem dX2_findFitting_58 : decode prog_4_method_9_code 58 = .ok (.iload_n 2, 1) := by decide +kernel
theorem dX2_findFitting_59 : decode prog_4_method_9_code 59 = .ok (.iaload, 1) := by decide +kernel
theorem dX2_findFitting_60 : decode prog_4_method_9_code 60 = .ok (.isub, 1) := by decide +kernel
theorem dX2_findFitting_61 : decode prog_4_method_9_code 61 = .ok (.invokestatic 90, 3) := by decide +kernel
theorem dX2_findFitting_64 : decode prog_4_method_9_code 64 = .ok (.istore 4, 2) := by decide +kernel
theorem dX2_findFitting_66 : decode prog_4_method_9_code 66 = .ok (.aload_n 0, 1) := by decide +kernel
theorem dX2_findFitting_67 : decode prog_4_method_9_code 67 = .ok (.getfield 21, 3) := by decide +kernel
theorem dX2_findFitting_70 : decode prog_4_method_9_code 70 = .ok (.getfield 75, 3) := by decide +kernel
theorem dX2_findFitting_73 : decode prog_4_method_9_code 73 = .ok (.getfield 93, 3) := by decide +kernel
theorem dX2_findFitting_76 : decode prog_4_method_9_code 76 = .ok (.iload_n 3, 1) := by decide +kernel
theorem dX2_findFitting_77 : decode prog_4_method_9_code 77 = .ok (.iaload, 1) := by decide +kernel
theorem dX2_findFitting_78 : decode prog_4_method_9_code 78 = .ok (.iconst 1, 1) := by decide +kernel
theorem dX2_findFitting_79 : decode prog_4_method_9_code 79 = .ok (.if_icmp .ne 21, 3) := by decide +kernel
theorem dX2_findFitting_82 : decode prog_4_method_9_code 82 = .ok (.iload 4, 2) := by decide +kernel
theorem dX2_findFitting_84 : decode prog_4_method_9_code 84 = .ok (.iload_n 1, 1) := by decide +kernel
theorem dX2_findFitting_85 : decode prog_4_method_9_code 85 = .ok (.if_icmp .gt 15, 3) := by decide +kernel
theorem dX2_findFitting_88 : decode prog_4_method_9_code 88 = .ok (.aload_n 0, 1) := by decide +kernel
theorem dX2_findFitting_89 : decode prog_4_method_9_code 89 = .ok (.getfield 9, 3) := by decide +kernel
theorem dX2_findFitting_92 : decode prog_4_method_9_code 92 = .ok (.iload_n 2, 1) := by decide +kernel
theorem dX2_findFitting_93 : decode prog_4_method_9_code 93 = .ok (.dup2, 1) := by decide +kernel
theorem dX2_findFitting_94 : decode prog_4_method_9_code 94 = .ok (.iaload, 1) := by decide +kernel
theorem dX2_findFitting_95 : decode prog_4_method_9_code 95 = .ok (.iconst 1, 1) := by decide +kernel
theorem dX2_findFitting_96 : decode prog_4_method_9_code 96 = .ok (.iload_n 3, 1) := by decide +kernel
theorem dX2_findFitting_97 : decode prog_4_method_9_code 97 = .ok (.ishl, 1) := by decide +kernel
theorem dX2_findFitting_98 : decode prog_4_method_9_code 98 = .ok (.ior, 1) := by decide +kernel
theorem dX2_findFitting_99 : decode prog_4_method_9_code 99 = .ok (.iastore, 1) := by decide +kernel
theorem dX2_findFitting_100 : decode prog_4_method_9_code 100 = .ok (.iinc 3 1, 3) := by decide +kernel
theorem dX2_findFitting_103 : decode prog_4_method_9_code 103 = .ok (.goto (-78), 3) := by decide +kernel
theorem dX2_findFitting_106 : decode prog_4_method_9_code 106 = .ok (.iinc 2 1, 3) := by decide +kernel
theorem dX2_findFitting_109 : decode prog_4_method_9_code 109 = .ok (.goto (-107), 3) := by decide +kernel
theorem dX2_findFitting_112 : decode prog_4_method_9_code 112 = .ok (.return_, 1) := by decide +kernel
theorem lp1_X2_findFitting {e : Int} {h : Nat} (cs : CS S R) (he : 0 ≤ e ∧ e ≤ 9) (hh : (h : Int) < A 4) (hc0 : ClW I 1 A) (hb : BA A) (hn : 1 ≤ n) (hK : ∀ I', (∀ x, x ≠ 300 → I' x = I x) → (∀ k, k ≠ h → I' 300 k = I 300 k) → I' 300 h = (ftA A e h : Int) → WP n 0 0 mX2_findFitting Post 106 [(0, .ref (S.2.1 299)), (1, .int (iI e)), (2, .int (iI (h : Int)))] [] 0 0 S I' R) : ∀ (d i : Nat) (J : CI), (i : Int) ≤ A 0 → (A 0).toNat - i = d → (∀ x, x ≠ 300 → J x = I x) → (∀ k, k ≠ h → J 300 k = I 300 k) → J 300 h = (fitQ A e h i : Int) → WP n 0 0 mX2_findFitting Post 25 [(0, .ref (S.2.1 299)), (1, .int (iI e)), (2, .int (iI (h : Int))), (3, .int (iI (i : Int)))] [] 0 0 S J R := by
  intro d
  induction d using Nat.strongRecOn with
  | ind d ih =>
    intro i J k1 k2 hF hR hJ
    have hc : ClW J 1 A := ClW_fr (fun c h1 h2 => hF c (by omega)) hc0
    obtain ⟨⟨⟨c0, c7, c8, c9, c10, c11⟩, cq⟩, ⟨⟨t1, t2, t3, t4, t5, t6, t7, t8, t9⟩, tq, th, tb, ts, td⟩, cb, cp⟩ := id hc
    dsimp only [Nat.reduceAdd] at c0 c7 c8 c9 c10 c11 cq t1 t2 t3 t4 t5 t6 t7 t8 t9 tq th tb ts td
    obtain ⟨⟨b0, b1, b2, b3, b4, bq, bl⟩, ⟨d1, d2, d3, d4, d5, d6, d7⟩, dq, dh, db, ds, dd, dp⟩ := id hb
    have b7 : 0 ≤ A 7 ∧ A 7 ≤ 9999 := b1
    have b8 : 0 ≤ A 8 ∧ A 8 ≤ 30870 := b2
    have b9 : 0 ≤ A 9 ∧ A 9 ≤ 9999 := b3
    have b10 : 0 ≤ A 10 ∧ A 10 ≤ 1 := b4
    have b11 : 0 ≤ A 11 ∧ A 11 ≤ 16 := by have h1 := lns_b (fun q => A (6 + 6 + 3 * q)) (A 0).toNat; have h2 : A 11 = _ := bl; omega
    have hlt := fitQ_lt (A := A) (e := e) (h := h) i
    refine x_iload_n dX2_findFitting_25 rfl ?_
    refine x_aload_n dX2_findFitting_26 rfl ?_
    refine x_getR (b := 1) dX2_findFitting_27 gf_RX2_21 (k_ob_299 cs) (fun _ _ => rfl) (k_r_299_0 cs) ?_
    refine x_getR (b := 6) dX2_findFitting_30 gf_RX2_75 (k_ob_1 cs) (fun _ _ => rfl) (k_r_1_4 cs) ?_
    refine x_getI dX2_findFitting_33 gf_RX2_79 (k_ob_6 cs) (fun _ _ => rfl) ?_
    refine x_icmp_ge 106 dX2_findFitting_36 (by decide) ⟨(by omega), (by omega)⟩ (fun w36 => ?_) (fun w36 => ?_)
    · refine x_sub [0, 1, 2] rfl ?_
      obtain rfl : i = (A 0).toNat := by omega
      exact hK J hF hR hJ
    · refine x_aload_n dX2_findFitting_39 rfl ?_
      refine x_getR (b := 1) dX2_findFitting_40 gf_RX2_21 (k_ob_299 cs) (fun _ _ => rfl) (k_r_299_0 cs) ?_
      refine x_getR (b := 4) dX2_findFitting_43 gf_RX2_84 (k_ob_1 cs) (fun _ _ => rfl) (k_r_1_2 cs) ?_
      refine x_iload_n dX2_findFitting_46 rfl ?_
      refine x_iaload dX2_findFitting_47 (k_ar_4 cs) (by omega) (by omega) ?_
      have g3 := (tq i (by omega)).2.2.1
      have g4 := (dq i (by omega)).2.2.1
      have hpi := pw7 (i := i) (by omega)
      have h256 : 2 ^ i ≤ 2 ^ 8 := Nat.pow_le_pow_right (by decide) (by omega)
      rw [tN, ← g3]
      refine x_aload_n dX2_findFitting_48 rfl ?_
      refine x_getR (b := 1) dX2_findFitting_49 gf_RX2_21 (k_ob_299 cs) (fun _ _ => rfl) (k_r_299_0 cs) ?_
      refine x_getR (b := 13) dX2_findFitting_52 gf_RX2_47 (k_ob_1 cs) (fun _ _ => rfl) (k_r_1_8 cs) ?_
      refine x_getR (b := 15) dX2_findFitting_55 gf_RX2_87 (k_ob_13 cs) (fun _ _ => rfl) (k_r_13_1 cs) ?_
      refine x_iload_n dX2_findFitting_58 rfl ?_
      refine x_iaload dX2_findFitting_59 (k_ar_15 cs) (by omega) (by omega) ?_
      have g5 := th h (by omega)
      have g6 := dh h (by omega)
      rw [tN, ← g5]
      refine x_isub dX2_findFitting_60 ?_
      refine x_mabs dX2_findFitting_61 cv_RX2_90 (by omega) (Nat.le_of_ble_eq_true rfl) (by omega) (by omega) (by omega) (fun r61 hr61 => ?_)
      refine x_istore (lv2 := [(4, _), (0, _), (1, _), (2, _), (3, _)]) dX2_findFitting_64 (by decide) rfl ?_
      refine x_aload_n dX2_findFitting_66 rfl ?_
      refine x_getR (b := 1) dX2_findFitting_67 gf_RX2_21 (k_ob_299 cs) (fun _ _ => rfl) (k_r_299_0 cs) ?_
      refine x_getR (b := 6) dX2_findFitting_70 gf_RX2_75 (k_ob_1 cs) (fun _ _ => rfl) (k_r_1_4 cs) ?_
      refine x_getR (b := 7) dX2_findFitting_73 gf_RX2_93 (k_ob_6 cs) (fun _ _ => rfl) (k_r_6_0 cs) ?_
      refine x_iload_n dX2_findFitting_76 rfl ?_
      refine x_iaload dX2_findFitting_77 (k_ar_7 cs) (by omega) (by omega) ?_
      have g1 := (cq i (by omega)).1
      have g2 := (bq i (by omega)).1
      rw [show 6 + 6 + 3 * i = 12 + 3 * i by omega] at g2
      rw [tN, ← g1]
      refine x_iconst dX2_findFitting_78 ?_
      refine x_icmp_ne 100 dX2_findFitting_79 (by decide) ⟨(by omega), (by omega)⟩ (fun w79 => ?_) (fun w79 => ?_)
      · refine x_iinc (lv2 := [(3, _), (4, _), (0, _), (1, _), (2, _)]) dX2_findFitting_100 rfl (by decide) rfl ?_
        refine x_goto 25 dX2_findFitting_103 (by decide) ?_
        refine x_sub [2, 3, 4, 0] rfl ?_
        have hg := ih _ (by omega) (i + 1) (J) (by omega) rfl
        first
          | (refine ih _ (by omega) (i + 1) J (by omega) rfl hF hR (hJ.trans ?_)
             rw [show fitQ A e h (i + 1) = fitQ A e h i from if_neg (by omega)]; done)
          | (rw [tN]
             refine ih _ (by omega) (i + 1) _ (by omega) rfl (fun x hx => (uI_row hx).trans (hF x hx)) (fun k hk => (uI_o (by omega)).trans (hR k hk)) ?_
             rw [uI_s, show fitQ A e h (i + 1) = fitQ A e h i ||| 2 ^ i from if_pos (by omega)])
      · refine x_iload dX2_findFitting_82 rfl ?_
        refine x_iload_n dX2_findFitting_84 rfl ?_
        refine x_icmp_gt 100 dX2_findFitting_85 (by decide) ⟨(by omega), (by omega)⟩ (fun w85 => ?_) (fun w85 => ?_)
        · refine x_iinc (lv2 := [(3, _), (4, _), (0, _), (1, _), (2, _)]) dX2_findFitting_100 rfl (by decide) rfl ?_
          refine x_goto 25 dX2_findFitting_103 (by decide) ?_
          refine x_sub [2, 3, 4, 0] rfl ?_
          have hg := ih _ (by omega) (i + 1) (J) (by omega) rfl
          first
            | (refine ih _ (by omega) (i + 1) J (by omega) rfl hF hR (hJ.trans ?_)
               rw [show fitQ A e h (i + 1) = fitQ A e h i from if_neg (by omega)]; done)
            | (rw [tN]
               refine ih _ (by omega) (i + 1) _ (by omega) rfl (fun x hx => (uI_row hx).trans (hF x hx)) (fun k hk => (uI_o (by omega)).trans (hR k hk)) ?_
               rw [uI_s, show fitQ A e h (i + 1) = fitQ A e h i ||| 2 ^ i from if_pos (by omega)])
        · refine x_aload_n dX2_findFitting_88 rfl ?_
          refine x_getR (b := 300) dX2_findFitting_89 gf_RX2_9 (k_ob_299 cs) (fun _ _ => rfl) (k_r_299_1 cs) ?_
          refine x_iload_n dX2_findFitting_92 rfl ?_
          refine x_dup2 dX2_findFitting_93 rfl rfl ?_
          refine x_iaload dX2_findFitting_94 (k_ar_300 cs) (by omega) (by omega) ?_
          rw [tN, hJ]
          refine x_iconst dX2_findFitting_95 ?_
          refine x_iload_n dX2_findFitting_96 rfl ?_
          refine x_ishl dX2_findFitting_97 ?_
          rw [shl1_n (by omega)]
          refine x_ior dX2_findFitting_98 ?_
          rw [orI_n (by omega) (by omega)]
          refine x_iastore dX2_findFitting_99 (k_ar_300 cs) (by omega) (by omega) ?_
          refine x_iinc (lv2 := [(3, _), (4, _), (0, _), (1, _), (2, _)]) dX2_findFitting_100 rfl (by decide) rfl ?_
          refine x_goto 25 dX2_findFitting_103 (by decide) ?_
          refine x_sub [2, 3, 4, 0] rfl ?_
          have hg := ih _ (by omega) (i + 1) (J) (by omega) rfl
          first
            | (refine ih _ (by omega) (i + 1) J (by omega) rfl hF hR (hJ.trans ?_)
               rw [show fitQ A e h (i + 1) = fitQ A e h i from if_neg (by omega)]; done)
            | (rw [tN]
               refine ih _ (by omega) (i + 1) _ (by omega) rfl (fun x hx => (uI_row hx).trans (hF x hx)) (fun k hk => (uI_o (by omega)).trans (hR k hk)) ?_
               rw [uI_s, show fitQ A e h (i + 1) = fitQ A e h i ||| 2 ^ i from if_pos (by omega)])
theorem lp2_X2_findFitting {e : Int} (cs : CS S R) (he : 0 ≤ e ∧ e ≤ 9) (hc0 : ClW I 1 A) (hb : BA A) (hn : 1 ≤ n) (hp : ∀ I', Fh I I' → HFr I' (ftA A e) (A 4).toNat → Post none S I' R) : ∀ (d h : Nat) (J : CI), (h : Int) ≤ A 4 → (A 4).toNat - h = d → (∀ x, x ≠ 300 → J x = I x) → (∀ k, k < h → J 300 k = (ftA A e k : Int)) → WP n 0 0 mX2_findFitting Post 2 [(0, .ref (S.2.1 299)), (1, .int (iI e)), (2, .int (iI (h : Int)))] [] 0 0 S J R := by
  intro d
  induction d using Nat.strongRecOn with
  | ind d ih =>
    intro h J k1 k2 hF hJ
    have hc : ClW J 1 A := ClW_fr (fun c h1 h2 => hF c (by omega)) hc0
    obtain ⟨⟨⟨c0, c7, c8, c9, c10, c11⟩, cq⟩, ⟨⟨t1, t2, t3, t4, t5, t6, t7, t8, t9⟩, tq, th, tb, ts, td⟩, cb, cp⟩ := id hc
    dsimp only [Nat.reduceAdd] at c0 c7 c8 c9 c10 c11 cq t1 t2 t3 t4 t5 t6 t7 t8 t9 tq th tb ts td
    obtain ⟨⟨b0, b1, b2, b3, b4, bq, bl⟩, ⟨d1, d2, d3, d4, d5, d6, d7⟩, dq, dh, db, ds, dd, dp⟩ := id hb
    have b7 : 0 ≤ A 7 ∧ A 7 ≤ 9999 := b1
    have b8 : 0 ≤ A 8 ∧ A 8 ≤ 30870 := b2
    have b9 : 0 ≤ A 9 ∧ A 9 ≤ 9999 := b3
    have b10 : 0 ≤ A 10 ∧ A 10 ≤ 1 := b4
    have b11 : 0 ≤ A 11 ∧ A 11 ≤ 16 := by have h1 := lns_b (fun q => A (6 + 6 + 3 * q)) (A 0).toNat; have h2 : A 11 = _ := bl; omega
    refine x_iload_n dX2_findFitting_2 rfl ?_
    refine x_aload_n dX2_findFitting_3 rfl ?_
    refine x_getR (b := 1) dX2_findFitting_4 gf_RX2_21 (k_ob_299 cs) (fun _ _ => rfl) (k_r_299_0 cs) ?_
    refine x_getR (b := 13) dX2_findFitting_7 gf_RX2_47 (k_ob_1 cs) (fun _ _ => rfl) (k_r_1_8 cs) ?_
    refine x_getI dX2_findFitting_10 gf_RX2_53 (k_ob_13 cs) (fun _ _ => rfl) ?_
    refine x_icmp_ge 112 dX2_findFitting_13 (by decide) ⟨(by omega), (by omega)⟩ (fun w13 => ?_) (fun w13 => ?_)
    · exact x_return dX2_findFitting_112 rfl (by omega) (by omega) (hp J (fun c h1 _ _ => hF c h1) ⟨fun k hk => hJ k (by omega), fun k => ftA_lt hb, by omega⟩)
    · refine x_aload_n dX2_findFitting_16 rfl ?_
      refine x_getR (b := 300) dX2_findFitting_17 gf_RX2_9 (k_ob_299 cs) (fun _ _ => rfl) (k_r_299_1 cs) ?_
      refine x_iload_n dX2_findFitting_20 rfl ?_
      refine x_iconst dX2_findFitting_21 ?_
      refine x_iastore dX2_findFitting_22 (k_ar_300 cs) (by omega) (by omega) ?_
      refine x_iconst dX2_findFitting_23 ?_
      refine x_istore_n (lv2 := [(3, _), (0, _), (1, _), (2, _)]) dX2_findFitting_24 (by decide) rfl ?_
      refine x_sub [1, 2, 3, 0] rfl ?_
      rw [tN]
      refine lp1_X2_findFitting (I := uI J 300 h 0) cs he (by omega) (ClW_fr (fun c h1 h2 => uI_row (by omega)) hc) hb hn (fun I7 hF7 hR7 h7 => ?_) _ 0 _ (by omega) rfl (fun _ _ => rfl) (fun _ _ => rfl) (by rw [uI_s]; rfl)
      refine x_iinc (lv2 := [(2, _), (0, _), (1, _)]) dX2_findFitting_106 rfl (by decide) rfl ?_
      refine x_goto 2 dX2_findFitting_109 (by decide) ?_
      refine x_sub [1, 2, 0] rfl ?_
      refine ih _ (by omega) (h + 1) I7 (by omega) rfl (fun x hx => (hF7 x hx).trans ((uI_row hx).trans (hF x hx))) (fun k hk => ?_)
      by_cases e2 : k = h
      · rw [e2]; exact h7
      · rw [hR7 k e2, uI_o (by omega)]; exact hJ k (by omega)
theorem sp_X2_findFitting {e : Int} (cs : CS S R) (hc : ClW I 1 A) (hb : BA A) (he : 0 ≤ e ∧ e ≤ 9) (hn : 1 ≤ n) (hp : ∀ I', Fh I I' → HFr I' (ftA A e) (A 4).toNat → Post none S I' R) : Call n 0 0 mX2_findFitting [.ref (S.2.1 299), .int (iI e)] S I R Post := by
  have b4 := hb.2.1.2.2.2.1
  refine Call.of (by decide +kernel) (Nat.le_of_ble_eq_true rfl) ?_
  show WP _ _ _ _ _ 0 [(0, _), (1, _)] [] 0 0 _ _ _
  refine x_iconst dX2_findFitting_0 ?_
  refine x_istore_n (lv2 := [(2, _), (0, _), (1, _)]) dX2_findFitting_1 (by decide) rfl ?_
  refine x_sub [1, 2, 0] rfl ?_
  exact lp2_X2_findFitting cs he hc hb hn hp _ 0 I (by omega) rfl (fun _ _ => rfl) (fun k hk => by omega)
theorem dX2_countBeyond_0 : decode prog_4_method_10_code 0 = .ok (.sipush 255, 3) := by decide +kernel
theorem dX2_countBeyond_3 : decode prog_4_method_10_code 3 = .ok (.istore_n 1, 1) := by decide +kernel
theorem dX2_countBeyond_4 : decode prog_4_method_10_code 4 = .ok (.iload_n 1, 1) := by decide +kernel
theorem dX2_countBeyond_5 : decode prog_4_method_10_code 5 = .ok (.ifCond .lt 96, 3) := by decide +kernel
theorem dX2_countBeyond_8 : decode prog_4_method_10_code 8 = .ok (.iload_n 1, 1) := by decide +kernel
theorem dX2_countBeyond_9 : decode prog_4_method_10_code 9 = .ok (.invokestatic 70, 3) := by decide +kernel
theorem dX2_countBeyond_12 : decode prog_4_method_10_code 12 = .ok (.istore_n 2, 1) := by decide +kernel
theorem dX2_countBeyond_13 : decode prog_4_method_10_code 13 = .ok (.iload_n 2, 1) := by decide +kernel
theorem dX2_countBeyond_14 : decode prog_4_method_10_code 14 = .ok (.aload_n 0, 1) := by decide +kernel
theorem dX2_countBeyond_15 : decode prog_4_method_10_code 15 = .ok (.getfield 21, 3) := by decide +kernel
theorem dX2_countBeyond_18 : decode prog_4_method_10_code 18 = .ok (.getfield 47, 3) := by decide +kernel
theorem dX2_countBeyond_21 : decode prog_4_method_10_code 21 = .ok (.getfield 53, 3) := by decide +kernel
theorem dX2_countBeyond_24 : decode prog_4_method_10_code 24 = .ok (.if_icmp .ne 7, 3) := by decide +kernel
theorem dX2_countBeyond_27 : decode prog_4_method_10_code 27 = .ok (.iconst 1, 1) := by decide +kernel
theorem dX2_countBeyond_28 : decode prog_4_method_10_code 28 = .ok (.goto 4, 3) := by decide +kernel
theorem dX2_countBeyond_31 : decode prog_4_method_10_code 31 = .ok (.iconst 0, 1) := by decide +kernel
theorem dX2_countBeyond_32 : decode prog_4_method_10_code 32 = .ok (.istore_n 3, 1) := by decide +kernel
theorem dX2_countBeyond_33 : decode prog_4_method_10_code 33 = .ok (.iconst 0, 1) := by decide +kernel
theorem dX2_countBeyond_34 : decode prog_4_method_10_code 34 = .ok (.istore 4, 2) := by decide +kernel
theorem dX2_countBeyond_36 : decode prog_4_method_10_code 36 = .ok (.iload 4, 2) := by decide +kernel
theorem dX2_countBeyond_38 : decode prog_4_method_10_code 38 = .ok (.bipush 8, 2) := by decide +kernel
theorem dX2_countBeyond_40 : decode prog_4_method_10_code 40 = .ok (.if_icmp .ge 48, 3) := by decide +kernel
theorem dX2_countBeyond_43 : decode prog_4_method_10_code 43 = .ok (.iload_n 2, 1) := by decide +kernel
theorem dX2_countBeyond_44 : decode prog_4_method_10_code 44 = .ok (.aload_n 0, 1) := by decide +kernel
theorem dX2_countBeyond_45 : decode prog_4_method_10_code 45 = .ok (.getfield 21, 3) := by decide +kernel
theorem dX2_countBeyond_48 : decode prog_4_method_10_code 48 = .ok (.getfield 47, 3) := by decide +kernel
theorem dX2_countBeyond_51 : decode prog_4_method_10_code 51 = .ok (.getfield 53, 3) := by decide +kernel
theorem dX2_countBeyond_54 : decode prog_4_method_10_code 54 = .ok (.if_icmp .ge 34, 3) := by decide +kernel
theorem dX2_countBeyond_57 : decode prog_4_method_10_code 57 = .ok (.aload_n 0, 1) := by decide +kernel
theorem dX2_countBeyond_58 : decode prog_4_method_10_code 58 = .ok (.iload_n 2, 1) := by decide +kernel
theorem dX2_countBeyond_59 : decode prog_4_method_10_code 59 = .ok (.iload 4, 2) := by decide +kernel
theorem dX2_countBeyond_61 : decode prog_4_method_10_code 61 = .ok (.iload_n 1, 1) := by decide +kernel
theorem dX2_countBeyond_62 : decode prog_4_method_10_code 62 = .ok (.invokevirtual 40, 3) := by decide +kernel
theorem dX2_countBeyond_65 : decode prog_4_method_10_code 65 = .ok (.ifCond .eq 17, 3) := by decide +kernel
theorem dX2_countBeyond_68 : decode prog_4_method_10_code 68 = .ok (.iload_n 3, 1) := by decide +kernel
theorem dX2_countBeyond_69 : decode prog_4_method_10_code 69 = .ok (.aload_n 0, 1) := by decide +kernel
theorem dX2_countBeyond_70 : decode prog_4_method_10_code 70 = .ok (.getfield 18, 3) := by decide +kernel
theorem dX2_countBeyond_73 : decode prog_4_method_10_code 73 = .ok (.iload_n 1, 1) := by decide +kernel
theorem dX2_countBeyond_74 : decode prog_4_method_10_code 74 = .ok (.iconst 1, 1) := by decide +kernel
theorem dX2_countBeyond_75 : decode prog_4_method_10_code 75 = .ok (.iload 4, 2) := by decide +kernel
theorem dX2_countBeyond_77 : decode prog_4_method_10_code 77 = .ok (.ishl, 1) := by decide +kernel
theorem dX2_countBeyond_78 : decode prog_4_method_10_code 78 = .ok (.ior, 1) := by decide +kernel
theorem dX2_countBeyond_79 : decode prog_4_method_10_code 79 = .ok (.iaload, 1) := by decide +kernel
theorem dX2_countBeyond_80 : decode prog_4_method_10_code 80 = .ok (.iadd, 1) := by decide +kernel
theorem dX2_countBeyond_81 : decode prog_4_method_10_code 81 = .ok (.istore_n 3, 1) := by decide +kernel
theorem dX2_countBeyond_82 : decode prog_4_method_10_code 82 = .ok (.iinc 4 1, 3) := by decide +kernel
theorem dX2_countBeyond_85 : decode prog_4_method_10_code 85 = .ok (.goto (-49), 3) := by decide +kernel
theorem dX2_countBeyond_88 : decode prog_4_method_10_code 88 = .ok (.aload_n 0, 1) := by decide +kernel
theorem dX2_countBeyond_89 : decode prog_4_method_10_code 89 = .ok (.getfield 18, 3) := by decide +kernel
theorem dX2_countBeyond_92 : decode prog_4_method_10_code 92 = .ok (.iload_n 1, 1) := by decide +kernel
theorem dX2_countBeyond_93 : decode prog_4_method_10_code 93 = .ok (.iload_n 3, 1) := by decide +kernel
theorem dX2_countBeyond_94 : decode prog_4_method_10_code 94 = .ok (.iastore, 1) := by decide +kernel
theorem dX2_countBeyond_95 : decode prog_4_method_10_code 95 = .ok (.iinc 1 (-1), 3) := by decide +kernel
theorem dX2_countBeyond_98 : decode prog_4_method_10_code 98 = .ok (.goto (-94), 3) := by decide +kernel
theorem dX2_countBeyond_101 : decode prog_4_method_10_code 101 = .ok (.return_, 1) := by decide +kernel
theorem lp1_X2_countBeyond {ft : Nat → Nat} {H s : Nat} (cs : CS S R) (hf : HFr I ft H) (hH : I 13 7 = (H : Int)) (hs : s < 256) (hW : ∀ t, s < t → t < 256 → I 302 t = wbA ft H t) (hn : 1 ≤ n) (hK : WP n 0 0 mX2_countBeyond Post 88 [(0, .ref (S.2.1 299)), (1, .int (iI (s : Int))), (3, .int (iI (wbA ft H s)))] [] 0 0 S I R) : ∀ (d i : Nat), i ≤ 8 → 8 - i = d → WP n 0 0 mX2_countBeyond Post 36 [(0, .ref (S.2.1 299)), (1, .int (iI (s : Int))), (2, .int (iI (bcN s : Int))), (3, .int (iI (if H ≤ bcN s then wbA ft H s else sg (fun i => if (sdN (ft (bcN s)) s).testBit i = true then wbA ft H (s ||| 2 ^ i) else 0) i))), (4, .int (iI (i : Int)))] [] 0 0 S I R := by
  intro d
  induction d using Nat.strongRecOn with
  | ind d ih =>
    intro i k1 k2
    have h6 := hf.2.2
    have hbc := bcN_b s
    refine x_iload dX2_countBeyond_36 rfl ?_
    refine x_bipush dX2_countBeyond_38 (by decide) ?_
    refine x_icmp_ge 88 dX2_countBeyond_40 (by decide) ⟨(by omega), (by omega)⟩ (fun w40 => ?_) (fun w40 => ?_)
    · refine x_sub [0, 1, 3] rfl ?_
      by_cases g : H ≤ bcN s
      · rw [if_pos g]; exact hK
      · obtain rfl : i = 8 := by omega
        rw [if_neg g, ← wbA_lt hf.2.1 hs (by omega)]; exact hK
    · refine x_iload_n dX2_countBeyond_43 rfl ?_
      refine x_aload_n dX2_countBeyond_44 rfl ?_
      refine x_getR (b := 1) dX2_countBeyond_45 gf_RX2_21 (k_ob_299 cs) (fun _ _ => rfl) (k_r_299_0 cs) ?_
      refine x_getR (b := 13) dX2_countBeyond_48 gf_RX2_47 (k_ob_1 cs) (fun _ _ => rfl) (k_r_1_8 cs) ?_
      refine x_getIv (z := (H : Int)) dX2_countBeyond_51 gf_RX2_53 (k_ob_13 cs) (fun _ _ => rfl) hH ?_
      refine x_icmp_ge 88 dX2_countBeyond_54 (by decide) ⟨(by omega), (by omega)⟩ (fun w54 => ?_) (fun w54 => ?_)
      · refine x_sub [0, 1, 3] rfl ?_
        by_cases g : H ≤ bcN s
        · rw [if_pos g]; exact hK
        · obtain rfl : i = 8 := by omega
          rw [if_neg g, ← wbA_lt hf.2.1 hs (by omega)]; exact hK
      · refine x_aload_n dX2_countBeyond_57 rfl ?_
        refine x_iload_n dX2_countBeyond_58 rfl ?_
        refine x_iload dX2_countBeyond_59 rfl ?_
        refine x_iload_n dX2_countBeyond_61 rfl ?_
        refine x_callV3 (mc1 := 0) (ms1 := 0) dX2_countBeyond_62 cv_RX2_40 (ci := 2) (k_ob_299 cs) rfl (Nat.le_of_ble_eq_true rfl) (n1 := n - 1) (by omega) (by omega) (by omega) ?_
        refine sp_X2_canHang cs hf (by omega) (by omega) hs (fun r62 hr62 => ?_)
        refine x_if_eq 82 dX2_countBeyond_65 (by decide) (by omega) (fun w65 => ?_) (fun w65 => ?_)
        · refine x_iinc (lv2 := [(4, _), (0, _), (1, _), (2, _), (3, _)]) dX2_countBeyond_82 rfl (by decide) rfl ?_
          refine x_goto 36 dX2_countBeyond_85 (by decide) ?_
          refine x_sub [1, 2, 3, 4, 0] rfl ?_
          have hg := ih _ (by omega) (i + 1) (by omega) rfl
          rw [if_neg (by omega)]
          rw [if_neg (by omega)] at hg
          simp only [sg] at hg
          rcases hr62 with hh | hh
          · rw [if_pos hh.2] at hg
            first | exact hg | (exfalso; omega)
          · rw [if_neg (by rw [hh.2]; decide), Int.add_zero] at hg
            first | exact hg | (exfalso; omega)
        · refine x_iload_n dX2_countBeyond_68 rfl ?_
          refine x_aload_n dX2_countBeyond_69 rfl ?_
          refine x_getR (b := 302) dX2_countBeyond_70 gf_RX2_18 (k_ob_299 cs) (fun _ _ => rfl) (k_r_299_3 cs) ?_
          refine x_iload_n dX2_countBeyond_73 rfl ?_
          refine x_iconst dX2_countBeyond_74 ?_
          refine x_iload dX2_countBeyond_75 rfl ?_
          refine x_ishl dX2_countBeyond_77 ?_
          rw [shl1_n (by omega)]
          have hpi := pw7 (i := i) (by omega)
          refine x_ior dX2_countBeyond_78 ?_
          rw [orI_n (by omega) (by omega)]
          have hcn := cn_bit (hf.2.1 _) (by rcases hr62 with hh | hh; exact hh.2; exfalso; omega)
          have hor := bc_or hs (by omega) hcn.2
          refine x_iaload dX2_countBeyond_79 (k_ar_302 cs) (by omega) (by omega) ?_
          rw [tN, hW _ (by omega) hor.2.1]
          refine x_iadd dX2_countBeyond_80 ?_
          refine x_istore_n (lv2 := [(3, _), (0, _), (1, _), (2, _), (4, _)]) dX2_countBeyond_81 (by decide) rfl ?_
          refine x_iinc (lv2 := [(4, _), (3, _), (0, _), (1, _), (2, _)]) dX2_countBeyond_82 rfl (by decide) rfl ?_
          refine x_goto 36 dX2_countBeyond_85 (by decide) ?_
          refine x_sub [2, 3, 4, 1, 0] rfl ?_
          have hg := ih _ (by omega) (i + 1) (by omega) rfl
          rw [if_neg (by omega)]
          rw [if_neg (by omega)] at hg
          simp only [sg] at hg
          rcases hr62 with hh | hh
          · rw [if_pos hh.2] at hg
            first | exact hg | (exfalso; omega)
          · rw [if_neg (by rw [hh.2]; decide), Int.add_zero] at hg
            first | exact hg | (exfalso; omega)
theorem lp2_X2_countBeyond {ft : Nat → Nat} {H : Nat} (cs : CS S R) (hn : 1 ≤ n) (hf0 : HFr I ft H) (hH0 : I 13 7 = (H : Int)) (hp : ∀ I', (∀ c, c ≠ 302 → I' c = I c) → (∀ t, t < 256 → I' 302 t = wbA ft H t) → Post none S I' R) : ∀ (s : Nat) (J : CI), s ≤ 256 → (∀ c, c ≠ 302 → J c = I c) → (∀ t, s ≤ t → t < 256 → J 302 t = wbA ft H t) → WP n 0 0 mX2_countBeyond Post 4 [(0, .ref (S.2.1 299)), (1, .int (iI ((s : Int) - 1)))] [] 0 0 S J R := by
  intro s
  induction s with
  | zero =>
    intro J k1 hF hW
    refine x_iload_n dX2_countBeyond_4 rfl ?_
    refine x_if_lt 101 dX2_countBeyond_5 (by decide) (by omega) (fun w5 => ?_) (fun w5 => ?_)
    · exact x_return dX2_countBeyond_101 rfl (by omega) (by omega) (hp J hF (fun t ht => hW t (by omega) ht))
    · exfalso; omega
  | succ s ih =>
    intro J k1 hF hW
    have hbc := bcN_b s
    have h6 := hf0.2.2
    have hf : HFr J ft H := ⟨fun h hh => (congrFun (hF 300 (by omega)) _).trans (hf0.1 h hh), hf0.2⟩
    have hH : J 13 7 = (H : Int) := (congrFun (hF 13 (by omega)) _).trans hH0
    rw [show (((s + 1 : Nat)) : Int) - 1 = (s : Int) by omega]
    refine x_iload_n dX2_countBeyond_4 rfl ?_
    refine x_if_lt 101 dX2_countBeyond_5 (by decide) (by omega) (fun w5 => ?_) (fun w5 => ?_)
    · exfalso; omega
    · refine x_iload_n dX2_countBeyond_8 rfl ?_
      refine x_callS1 (mc1 := 0) (ms1 := 0) dX2_countBeyond_9 cv_RX2_70 (Nat.le_of_ble_eq_true rfl) (n1 := n - 1) (by omega) (by omega) (by omega) ?_
      refine sp_bitCount (by omega) ?_
      refine x_istore_n (lv2 := [(2, _), (0, _), (1, _)]) dX2_countBeyond_12 (by decide) rfl ?_
      refine x_iload_n dX2_countBeyond_13 rfl ?_
      refine x_aload_n dX2_countBeyond_14 rfl ?_
      refine x_getR (b := 1) dX2_countBeyond_15 gf_RX2_21 (k_ob_299 cs) (fun _ _ => rfl) (k_r_299_0 cs) ?_
      refine x_getR (b := 13) dX2_countBeyond_18 gf_RX2_47 (k_ob_1 cs) (fun _ _ => rfl) (k_r_1_8 cs) ?_
      refine x_getIv (z := (H : Int)) dX2_countBeyond_21 gf_RX2_53 (k_ob_13 cs) (fun _ _ => rfl) hH ?_
      refine x_icmp_ne 31 dX2_countBeyond_24 (by decide) ⟨(by omega), (by omega)⟩ (fun w24 => ?_) (fun w24 => ?_)
      · refine x_iconst dX2_countBeyond_31 ?_
        refine x_istore_n (lv2 := [(3, _), (2, _), (0, _), (1, _)]) dX2_countBeyond_32 (by decide) rfl ?_
        refine x_iconst dX2_countBeyond_33 ?_
        refine x_istore (lv2 := [(4, _), (3, _), (2, _), (0, _), (1, _)]) dX2_countBeyond_34 (by decide) rfl ?_
        refine x_sub [3, 4, 2, 1, 0] rfl ?_
        have hl := lp1_X2_countBeyond (n := n) (Post := Post) (s := s) cs hf hH (by omega) (fun t h1 h2 => hW t (by omega) h2) hn ?_ _ 0 (by omega) rfl
        · have hge := wbA_ge (ft := ft) (H := H) (s := s)
          first
            | (rw [if_pos (by omega), hge (by omega), if_pos (by omega)] at hl; exact hl)
            | (by_cases g : H ≤ bcN s
               · rw [if_pos g, hge g, if_neg (by omega)] at hl; exact hl
               · rw [if_neg g] at hl; exact hl)
        · refine x_aload_n dX2_countBeyond_88 rfl ?_
          refine x_getR (b := 302) dX2_countBeyond_89 gf_RX2_18 (k_ob_299 cs) (fun _ _ => rfl) (k_r_299_3 cs) ?_
          refine x_iload_n dX2_countBeyond_92 rfl ?_
          refine x_iload_n dX2_countBeyond_93 rfl ?_
          refine x_iastore dX2_countBeyond_94 (k_ar_302 cs) (by omega) (by omega) ?_
          refine x_iinc (lv2 := [(1, _), (0, _), (3, _)]) dX2_countBeyond_95 rfl (by decide) rfl ?_
          refine x_goto 4 dX2_countBeyond_98 (by decide) ?_
          refine x_sub [1, 0] rfl ?_
          rw [tN, show (s : Int) + -1 = (s : Int) - 1 by omega]
          refine ih _ (by omega) (fun c hc => (uI_row hc).trans (hF c hc)) (fun t h1 h2 => ?_)
          by_cases e : t = s
          · rw [e, uI_s]
          · rw [uI_o (by omega)]; exact hW t (by omega) h2
      · refine x_iconst dX2_countBeyond_27 ?_
        refine x_goto 32 dX2_countBeyond_28 (by decide) ?_
        refine x_istore_n (lv2 := [(3, _), (2, _), (0, _), (1, _)]) dX2_countBeyond_32 (by decide) rfl ?_
        refine x_iconst dX2_countBeyond_33 ?_
        refine x_istore (lv2 := [(4, _), (3, _), (2, _), (0, _), (1, _)]) dX2_countBeyond_34 (by decide) rfl ?_
        refine x_sub [3, 4, 2, 1, 0] rfl ?_
        have hl := lp1_X2_countBeyond (n := n) (Post := Post) (s := s) cs hf hH (by omega) (fun t h1 h2 => hW t (by omega) h2) hn ?_ _ 0 (by omega) rfl
        · have hge := wbA_ge (ft := ft) (H := H) (s := s)
          first
            | (rw [if_pos (by omega), hge (by omega), if_pos (by omega)] at hl; exact hl)
            | (by_cases g : H ≤ bcN s
               · rw [if_pos g, hge g, if_neg (by omega)] at hl; exact hl
               · rw [if_neg g] at hl; exact hl)
        · refine x_aload_n dX2_countBeyond_88 rfl ?_
          refine x_getR (b := 302) dX2_countBeyond_89 gf_RX2_18 (k_ob_299 cs) (fun _ _ => rfl) (k_r_299_3 cs) ?_
          refine x_iload_n dX2_countBeyond_92 rfl ?_
          refine x_iload_n dX2_countBeyond_93 rfl ?_
          refine x_iastore dX2_countBeyond_94 (k_ar_302 cs) (by omega) (by omega) ?_
          refine x_iinc (lv2 := [(1, _), (0, _), (3, _)]) dX2_countBeyond_95 rfl (by decide) rfl ?_
          refine x_goto 4 dX2_countBeyond_98 (by decide) ?_
          refine x_sub [1, 0] rfl ?_
          rw [tN, show (s : Int) + -1 = (s : Int) - 1 by omega]
          refine ih _ (by omega) (fun c hc => (uI_row hc).trans (hF c hc)) (fun t h1 h2 => ?_)
          by_cases e : t = s
          · rw [e, uI_s]
          · rw [uI_o (by omega)]; exact hW t (by omega) h2
theorem sp_X2_countBeyond {ft : Nat → Nat} {H : Nat} (cs : CS S R) (hn : 1 ≤ n) (hf : HFr I ft H) (hH : I 13 7 = (H : Int)) (hp : ∀ I', (∀ c, c ≠ 302 → I' c = I c) → (∀ t, t < 256 → I' 302 t = wbA ft H t) → Post none S I' R) : Call n 0 0 mX2_countBeyond [.ref (S.2.1 299)] S I R Post := by
  refine Call.of (by decide +kernel) (Nat.le_of_ble_eq_true rfl) ?_
  show WP _ _ _ _ _ 0 [(0, _)] [] 0 0 _ _ _
  refine x_sipush dX2_countBeyond_0 (by decide) ?_
  refine x_istore_n (lv2 := [(1, _), (0, _)]) dX2_countBeyond_3 (by decide) rfl ?_
  refine x_sub [1, 0] rfl ?_
  exact lp2_X2_countBeyond cs hn hf hH hp 256 I (by omega) (fun _ _ => rfl) (fun t h1 h2 => by omega)
theorem dX2_countWays_0 : decode prog_4_method_2_code 0 = .ok (.aload_n 0, 1) := by decide +kernel
theorem dX2_countWays_1 : decode prog_4_method_2_code 1 = .ok (.iload_n 1, 1) := by decide +kernel
theorem dX2_countWays_2 : decode prog_4_method_2_code 2 = .ok (.invokevirtual 25, 3) := by decide +kernel
theorem dX2_countWays_5 : decode prog_4_method_2_code 5 = .ok (.aload_n 0, 1) := by decide +kernel
theorem dX2_countWays_6 : decode prog_4_method_2_code 6 = .ok (.invokevirtual 29, 3) := by decide +kernel
theorem dX2_countWays_9 : decode prog_4_method_2_code 9 = .ok (.aload_n 0, 1) := by decide +kernel
theorem dX2_countWays_10 : decode prog_4_method_2_code 10 = .ok (.getfield 18, 3) := by decide +kernel
theorem dX2_countWays_13 : decode prog_4_method_2_code 13 = .ok (.iconst 0, 1) := by decide +kernel
theorem dX2_countWays_14 : decode prog_4_method_2_code 14 = .ok (.iaload, 1) := by decide +kernel
theorem dX2_countWays_15 : decode prog_4_method_2_code 15 = .ok (.ireturn, 1) := by decide +kernel
theorem sp_X2_countWays {e : Int} (cs : CS S R) (hc : ClW I 1 A) (hb : BA A) (he : 0 ≤ e ∧ e ≤ 9) (hn : 2 ≤ n) (hp : ∀ I', Fh I I' → HFr I' (ftA A e) (A 4).toNat → (∀ t, t < 256 → I' 302 t = wbA (ftA A e) (A 4).toNat t) → Post (some (.int (iI (wbA (ftA A e) (A 4).toNat 0)))) S I' R) : Call n 0 0 mX2_countWays [.ref (S.2.1 299), .int (iI e)] S I R Post := by
  have b4 := hb.2.1.2.2.2.1
  refine Call.of (by decide +kernel) (Nat.le_of_ble_eq_true rfl) ?_
  show WP _ _ _ _ _ 0 [(0, _), (1, _)] [] 0 0 _ _ _
  refine x_aload_n dX2_countWays_0 rfl ?_
  refine x_iload_n dX2_countWays_1 rfl ?_
  refine x_callV1 (mc1 := 0) (ms1 := 0) dX2_countWays_2 cv_RX2_25 (ci := 2) (k_ob_299 cs) rfl (Nat.le_of_ble_eq_true rfl) (n1 := n - 1) (by omega) (by omega) (by omega) ?_
  refine sp_X2_findFitting cs hc hb he (by omega) (fun I2 hF2 hf2 => ?_)
  refine x_aload_n dX2_countWays_5 rfl ?_
  refine x_callV0 (mc1 := 0) (ms1 := 0) dX2_countWays_6 cv_RX2_29 (ci := 2) (k_ob_299 cs) rfl (Nat.le_of_ble_eq_true rfl) (n1 := n - 1) (by omega) (by omega) (by omega) ?_
  have hH2 : I2 13 7 = ((A 4).toNat : Int) := by rw [hF2 13 (by omega) (by omega) (by omega)]; have := hc.2.1.1.2.2.2.1; dsimp only [Nat.reduceAdd] at this; rw [← this]; omega
  refine sp_X2_countBeyond cs (by omega) hf2 hH2 (fun I6 hF6 hw6 => ?_)
  refine x_aload_n dX2_countWays_9 rfl ?_
  refine x_getR (b := 302) dX2_countWays_10 gf_RX2_18 (k_ob_299 cs) (fun _ _ => rfl) (k_r_299_3 cs) ?_
  refine x_iconst dX2_countWays_13 ?_
  refine x_iaload dX2_countWays_14 (k_ar_302 cs) (by omega) (by omega) ?_
  rw [show ((0 : Int)).toNat = 0 from rfl, hw6 0 (by omega)]
  exact x_ireturn dX2_countWays_15 rfl (by omega) (by omega) (hp I6 (hF2.tr (fun c _ _ h => hF6 c h)) ⟨fun h hh => (congrFun (hF6 300 (by omega)) _).trans (hf2.1 h hh), hf2.2⟩ hw6)
def lnL (ft : Nat → Nat) (H h s : Nat) : Nat → Nat → Int
  | 0, _ => -2
  | d + 1, i => if (sdN (ft h) s).testBit i = true ∧ 0 < wbA ft H (s ||| 2 ^ i) then (i : Int) else lnL ft H h s d (i + 1)
def lnP (ft : Nat → Nat) (H h s : Nat) : Int := lnL ft H h s 8 0
theorem lnL_b {ft : Nat → Nat} {H h s : Nat} : ∀ d i : Nat, i + d = 8 → lnL ft H h s d i = -2 ∨ (0 ≤ lnL ft H h s d i ∧ lnL ft H h s d i < 8) := by
  intro d
  induction d with
  | zero => intro i _; exact Or.inl rfl
  | succ d ih =>
    intro i h
    simp only [lnL]
    split
    · right; omega
    · exact ih (i + 1) (by omega)
/-- the set hung behind k hooks, by the lowest; the last one hung -/
def loK (ft : Nat → Nat) (H : Nat) : Nat → Nat × Int
  | 0 => (0, -2)
  | k + 1 => ((loK ft H k).1 ||| 2 ^ (lnP ft H k (loK ft H k).1).toNat, lnP ft H k (loK ft H k).1)
def loP (ft : Nat → Nat) (H : Nat) : Nat → Prop
  | 0 => True
  | k + 1 => loP ft H k ∧ lnP ft H k (loK ft H k).1 ≠ -2
theorem loK_b {ft : Nat → Nat} {H : Nat} : ∀ k, (loK ft H k).1 < 256 ∧ -2 ≤ (loK ft H k).2 ∧ (loK ft H k).2 < 8 := by
  intro k
  induction k with
  | zero => simp [loK]
  | succ k ih =>
    simp only [loK]
    have h1 := lnL_b (ft := ft) (H := H) (h := k) (s := (loK ft H k).1) 8 0 (by omega)
    have e : lnP ft H k (loK ft H k).1 = lnL ft H k (loK ft H k).1 8 0 := rfl
    refine ⟨Nat.or_lt_two_pow (n := 8) ih.1 ?_, by omega, by omega⟩
    exact Nat.lt_of_le_of_lt (Nat.pow_le_pow_right (n := 2) (j := 7) (by decide) (by omega)) (by decide)
theorem loP_mono {ft : Nat → Nat} {H k : Nat} : ∀ d : Nat, loP ft H (k + d) → loP ft H k := by
  intro d
  induction d with
  | zero => exact id
  | succ d ih => intro h; exact ih h.1
noncomputable def lowP (ft : Nat → Nat) (H k : Nat) : Int := @ite _ (wbA ft H 0 ≠ 0 ∧ loP ft H (k + 1)) (Classical.propDecidable _) (loK ft H (k + 1)).2 (-2)
theorem dX2_lowestNext_0 : decode prog_4_method_4_code 0 = .ok (.iconst 0, 1) := by decide +kernel
theorem dX2_lowestNext_1 : decode prog_4_method_4_code 1 = .ok (.istore_n 3, 1) := by decide +kernel
theorem dX2_lowestNext_2 : decode prog_4_method_4_code 2 = .ok (.iload_n 3, 1) := by decide +kernel
theorem dX2_lowestNext_3 : decode prog_4_method_4_code 3 = .ok (.bipush 8, 2) := by decide +kernel
theorem dX2_lowestNext_5 : decode prog_4_method_4_code 5 = .ok (.if_icmp .ge 34, 3) := by decide +kernel
theorem dX2_lowestNext_8 : decode prog_4_method_4_code 8 = .ok (.aload_n 0, 1) := by decide +kernel
theorem dX2_lowestNext_9 : decode prog_4_method_4_code 9 = .ok (.iload_n 1, 1) := by decide +kernel
theorem dX2_lowestNext_10 : decode prog_4_method_4_code 10 = .ok (.iload_n 3, 1) := by decide +kernel
theorem dX2_lowestNext_11 : decode prog_4_method_4_code 11 = .ok (.iload_n 2, 1) := by decide +kernel
theorem dX2_lowestNext_12 : decode prog_4_method_4_code 12 = .ok (.invokevirtual 40, 3) := by decide +kernel
theorem dX2_lowestNext_15 : decode prog_4_method_4_code 15 = .ok (.ifCond .eq 18, 3) := by decide +kernel
theorem dX2_lowestNext_18 : decode prog_4_method_4_code 18 = .ok (.aload_n 0, 1) := by decide +kernel
theorem dX2_lowestNext_19 : decode prog_4_method_4_code 19 = .ok (.getfield 18, 3) := by decide +kernel
theorem dX2_lowestNext_22 : decode prog_4_method_4_code 22 = .ok (.iload_n 2, 1) := by decide +kernel
theorem dX2_lowestNext_23 : decode prog_4_method_4_code 23 = .ok (.iconst 1, 1) := by decide +kernel
theorem dX2_lowestNext_24 : decode prog_4_method_4_code 24 = .ok (.iload_n 3, 1) := by decide +kernel
theorem dX2_lowestNext_25 : decode prog_4_method_4_code 25 = .ok (.ishl, 1) := by decide +kernel
theorem dX2_lowestNext_26 : decode prog_4_method_4_code 26 = .ok (.ior, 1) := by decide +kernel
theorem dX2_lowestNext_27 : decode prog_4_method_4_code 27 = .ok (.iaload, 1) := by decide +kernel
theorem dX2_lowestNext_28 : decode prog_4_method_4_code 28 = .ok (.ifCond .le 5, 3) := by decide +kernel
theorem dX2_lowestNext_31 : decode prog_4_method_4_code 31 = .ok (.iload_n 3, 1) := by decide +kernel
theorem dX2_lowestNext_32 : decode prog_4_method_4_code 32 = .ok (.ireturn, 1) := by decide +kernel
theorem dX2_lowestNext_33 : decode prog_4_method_4_code 33 = .ok (.iinc 3 1, 3) := by decide +kernel
theorem dX2_lowestNext_36 : decode prog_4_method_4_code 36 = .ok (.goto (-34), 3) := by decide +kernel
theorem dX2_lowestNext_39 : decode prog_4_method_4_code 39 = .ok (.bipush (-2), 2) := by decide +kernel
theorem dX2_lowestNext_41 : decode prog_4_method_4_code 41 = .ok (.ireturn, 1) := by decide +kernel
theorem lp_X2_lowestNext {ft : Nat → Nat} {H h s : Nat} (cs : CS S R) (hf : HFr I ft H) (hh : h < H) (hs : s < 256) (hW : ∀ t, t < 256 → I 302 t = wbA ft H t) (hn : 1 ≤ n) (hp : Post (some (.int (iI (lnP ft H h s)))) S I R) : ∀ (d i : Nat), i + d = 8 → lnL ft H h s d i = lnP ft H h s → WP n 0 0 mX2_lowestNext Post 2 [(0, .ref (S.2.1 299)), (1, .int (iI (h : Int))), (2, .int (iI (s : Int))), (3, .int (iI (i : Int)))] [] 0 0 S I R := by
  intro d
  induction d with
  | zero =>
    intro i k1 k2
    rw [← k2] at hp
    refine x_iload_n dX2_lowestNext_2 rfl ?_
    refine x_bipush dX2_lowestNext_3 (by decide) ?_
    refine x_icmp_ge 39 dX2_lowestNext_5 (by decide) ⟨(by omega), (by omega)⟩ (fun w5 => ?_) (fun w5 => ?_)
    · refine x_bipush dX2_lowestNext_39 (by decide) ?_
      exact x_ireturn dX2_lowestNext_41 rfl (by omega) (by omega) (hp)
    · exfalso; omega
  | succ d ih =>
    intro i k1 k2
    have hpi := pw7 (i := i) (by omega)
    have hwb := wbb (ft := ft) (H := H) (s := s ||| 2 ^ i)
    have h6 := hf.2.2
    have h8 : (8 : Int) ^ (H - bcN (s ||| 2 ^ i)) ≤ 262144 := p8 (by omega)
    refine x_iload_n dX2_lowestNext_2 rfl ?_
    refine x_bipush dX2_lowestNext_3 (by decide) ?_
    refine x_icmp_ge 39 dX2_lowestNext_5 (by decide) ⟨(by omega), (by omega)⟩ (fun w5 => ?_) (fun w5 => ?_)
    · exfalso; omega
    · refine x_aload_n dX2_lowestNext_8 rfl ?_
      refine x_iload_n dX2_lowestNext_9 rfl ?_
      refine x_iload_n dX2_lowestNext_10 rfl ?_
      refine x_iload_n dX2_lowestNext_11 rfl ?_
      refine x_callV3 (mc1 := 0) (ms1 := 0) dX2_lowestNext_12 cv_RX2_40 (ci := 2) (k_ob_299 cs) rfl (Nat.le_of_ble_eq_true rfl) (n1 := n - 1) (by omega) (by omega) (by omega) ?_
      refine sp_X2_canHang cs hf hh (by omega) hs (fun r12 hr12 => ?_)
      refine x_if_eq 33 dX2_lowestNext_15 (by decide) (by omega) (fun w15 => ?_) (fun w15 => ?_)
      · refine x_iinc (lv2 := [(3, _), (0, _), (1, _), (2, _)]) dX2_lowestNext_33 rfl (by decide) rfl ?_
        refine x_goto 2 dX2_lowestNext_36 (by decide) ?_
        refine x_sub [1, 2, 3, 0] rfl ?_
        refine ih (i + 1) (by omega) ?_
        rw [← k2]
        first
          | exact (if_neg (fun h => by have h1 := h.1; rcases hr12 with hh | hh; (exfalso; omega); rw [hh.2] at h1; exact absurd h1 (by decide))).symm
          | exact (if_neg (fun h => by have := h.2; omega)).symm
      · refine x_aload_n dX2_lowestNext_18 rfl ?_
        refine x_getR (b := 302) dX2_lowestNext_19 gf_RX2_18 (k_ob_299 cs) (fun _ _ => rfl) (k_r_299_3 cs) ?_
        refine x_iload_n dX2_lowestNext_22 rfl ?_
        refine x_iconst dX2_lowestNext_23 ?_
        refine x_iload_n dX2_lowestNext_24 rfl ?_
        refine x_ishl dX2_lowestNext_25 ?_
        rw [shl1_n (by omega)]
        refine x_ior dX2_lowestNext_26 ?_
        have hor := Nat.or_lt_two_pow (n := 8) hs (show 2 ^ i < 2 ^ 8 by omega)
        rw [orI_n (by omega) (by omega)]
        refine x_iaload dX2_lowestNext_27 (k_ar_302 cs) (by omega) (by omega) ?_
        rw [tN, hW _ (by omega)]
        refine x_if_le 33 dX2_lowestNext_28 (by decide) (by omega) (fun w28 => ?_) (fun w28 => ?_)
        · refine x_iinc (lv2 := [(3, _), (0, _), (1, _), (2, _)]) dX2_lowestNext_33 rfl (by decide) rfl ?_
          refine x_goto 2 dX2_lowestNext_36 (by decide) ?_
          refine x_sub [1, 2, 3, 0] rfl ?_
          refine ih (i + 1) (by omega) ?_
          rw [← k2]
          first
            | exact (if_neg (fun h => by have h1 := h.1; rcases hr12 with hh | hh; (exfalso; omega); rw [hh.2] at h1; exact absurd h1 (by decide))).symm
            | exact (if_neg (fun h => by have := h.2; omega)).symm
        · refine x_iload_n dX2_lowestNext_31 rfl ?_
          exact x_ireturn dX2_lowestNext_32 rfl (by omega) (by omega) (by rw [← k2, show lnL ft H h s (d + 1) i = i from if_pos ⟨by rcases hr12 with hh | hh; exact hh.2; exfalso; omega, by omega⟩] at hp; exact hp)
theorem sp_X2_lowestNext {ft : Nat → Nat} {H h s : Nat} (cs : CS S R) (hf : HFr I ft H) (hh : h < H) (hs : s < 256) (hW : ∀ t, t < 256 → I 302 t = wbA ft H t) (hn : 1 ≤ n) (hp : Post (some (.int (iI (lnP ft H h s)))) S I R) : Call n 0 0 mX2_lowestNext [.ref (S.2.1 299), .int (iI (h : Int)), .int (iI (s : Int))] S I R Post := by
  refine Call.of (by decide +kernel) (Nat.le_of_ble_eq_true rfl) ?_
  show WP _ _ _ _ _ 0 [(0, _), (1, _), (2, _)] [] 0 0 _ _ _
  refine x_iconst dX2_lowestNext_0 ?_
  refine x_istore_n (lv2 := [(3, _), (0, _), (1, _), (2, _)]) dX2_lowestNext_1 (by decide) rfl ?_
  refine x_sub [1, 2, 3, 0] rfl ?_
  exact lp_X2_lowestNext cs hf hh hs hW hn hp 8 0 (by omega) rfl
theorem dX2_lowestOn_0 : decode prog_4_method_3_code 0 = .ok (.aload_n 0, 1) := by decide +kernel
theorem dX2_lowestOn_1 : decode prog_4_method_3_code 1 = .ok (.iload_n 1, 1) := by decide +kernel
theorem dX2_lowestOn_2 : decode prog_4_method_3_code 2 = .ok (.invokevirtual 32, 3) := by decide +kernel
theorem dX2_lowestOn_5 : decode prog_4_method_3_code 5 = .ok (.ifCond .ne 6, 3) := by decide +kernel
theorem dX2_lowestOn_8 : decode prog_4_method_3_code 8 = .ok (.bipush (-2), 2) := by decide +kernel
theorem dX2_lowestOn_10 : decode prog_4_method_3_code 10 = .ok (.ireturn, 1) := by decide +kernel
theorem dX2_lowestOn_11 : decode prog_4_method_3_code 11 = .ok (.iconst 0, 1) := by decide +kernel
theorem dX2_lowestOn_12 : decode prog_4_method_3_code 12 = .ok (.istore_n 3, 1) := by decide +kernel
theorem dX2_lowestOn_13 : decode prog_4_method_3_code 13 = .ok (.bipush (-2), 2) := by decide +kernel
theorem dX2_lowestOn_15 : decode prog_4_method_3_code 15 = .ok (.istore 4, 2) := by decide +kernel
theorem dX2_lowestOn_17 : decode prog_4_method_3_code 17 = .ok (.iconst 0, 1) := by decide +kernel
theorem dX2_lowestOn_18 : decode prog_4_method_3_code 18 = .ok (.istore 5, 2) := by decide +kernel
theorem dX2_lowestOn_20 : decode prog_4_method_3_code 20 = .ok (.iload 5, 2) := by decide +kernel
theorem dX2_lowestOn_22 : decode prog_4_method_3_code 22 = .ok (.iload_n 2, 1) := by decide +kernel
theorem dX2_lowestOn_23 : decode prog_4_method_3_code 23 = .ok (.if_icmp .gt 35, 3) := by decide +kernel
theorem dX2_lowestOn_26 : decode prog_4_method_3_code 26 = .ok (.aload_n 0, 1) := by decide +kernel
theorem dX2_lowestOn_27 : decode prog_4_method_3_code 27 = .ok (.iload 5, 2) := by decide +kernel
theorem dX2_lowestOn_29 : decode prog_4_method_3_code 29 = .ok (.iload_n 3, 1) := by decide +kernel
theorem dX2_lowestOn_30 : decode prog_4_method_3_code 30 = .ok (.invokevirtual 36, 3) := by decide +kernel
theorem dX2_lowestOn_33 : decode prog_4_method_3_code 33 = .ok (.istore 4, 2) := by decide +kernel
theorem dX2_lowestOn_35 : decode prog_4_method_3_code 35 = .ok (.iload 4, 2) := by decide +kernel
theorem dX2_lowestOn_37 : decode prog_4_method_3_code 37 = .ok (.bipush (-2), 2) := by decide +kernel
theorem dX2_lowestOn_39 : decode prog_4_method_3_code 39 = .ok (.if_icmp .ne 6, 3) := by decide +kernel
theorem dX2_lowestOn_42 : decode prog_4_method_3_code 42 = .ok (.bipush (-2), 2) := by decide +kernel
theorem dX2_lowestOn_44 : decode prog_4_method_3_code 44 = .ok (.ireturn, 1) := by decide +kernel
theorem dX2_lowestOn_45 : decode prog_4_method_3_code 45 = .ok (.iload_n 3, 1) := by decide +kernel
theorem dX2_lowestOn_46 : decode prog_4_method_3_code 46 = .ok (.iconst 1, 1) := by decide +kernel
theorem dX2_lowestOn_47 : decode prog_4_method_3_code 47 = .ok (.iload 4, 2) := by decide +kernel
theorem dX2_lowestOn_49 : decode prog_4_method_3_code 49 = .ok (.ishl, 1) := by decide +kernel
theorem dX2_lowestOn_50 : decode prog_4_method_3_code 50 = .ok (.ior, 1) := by decide +kernel
theorem dX2_lowestOn_51 : decode prog_4_method_3_code 51 = .ok (.istore_n 3, 1) := by decide +kernel
theorem dX2_lowestOn_52 : decode prog_4_method_3_code 52 = .ok (.iinc 5 1, 3) := by decide +kernel
theorem dX2_lowestOn_55 : decode prog_4_method_3_code 55 = .ok (.goto (-35), 3) := by decide +kernel
theorem dX2_lowestOn_58 : decode prog_4_method_3_code 58 = .ok (.iload 4, 2) := by decide +kernel
theorem dX2_lowestOn_60 : decode prog_4_method_3_code 60 = .ok (.ireturn, 1) := by decide +kernel
theorem lp_X2_lowestOn {ft : Nat → Nat} {H : Nat} {e : Int} {k : Nat} (cs : CS S R) (hf : HFr I ft H) (hk : k < H) (hW : ∀ t, t < 256 → I 302 t = wbA ft H t) (h0 : wbA ft H 0 ≠ 0) (hn : 2 ≤ n) (hp : Post (some (.int (iI (lowP ft H k)))) S I R) : ∀ (d i : Nat), i ≤ k + 1 → k + 1 - i = d → loP ft H i → WP n 0 0 mX2_lowestOn Post 20 [(0, .ref (S.2.1 299)), (1, .int (iI e)), (2, .int (iI (k : Int))), (3, .int (iI ((loK ft H i).1 : Int))), (4, .int (iI (loK ft H i).2)), (5, .int (iI (i : Int)))] [] 0 0 S I R := by
  intro d
  induction d using Nat.strongRecOn with
  | ind d ih =>
    intro i k1 k2 hP
    have h6 := hf.2.2
    have hlo := loK_b (ft := ft) (H := H) i
    have hln : lnP ft H i (loK ft H i).1 = -2 ∨ _ := lnL_b (ft := ft) (H := H) (h := i) (s := (loK ft H i).1) 8 0 (by omega)
    rw [show lnL ft H i (loK ft H i).1 8 0 = lnP ft H i (loK ft H i).1 from rfl] at hln
    refine x_iload dX2_lowestOn_20 rfl ?_
    refine x_iload_n dX2_lowestOn_22 rfl ?_
    refine x_icmp_gt 58 dX2_lowestOn_23 (by decide) ⟨(by omega), (by omega)⟩ (fun w23 => ?_) (fun w23 => ?_)
    · refine x_iload dX2_lowestOn_58 rfl ?_
      exact x_ireturn dX2_lowestOn_60 rfl (by omega) (by omega) (by first | (obtain rfl : i = k + 1 := (by omega); rw [show lowP ft H k = (loK ft H (k + 1)).2 from @if_pos _ (Classical.propDecidable _) ⟨h0, hP⟩ _ _ _] at hp; exact hp) | (rw [show lowP ft H k = -2 from @if_neg _ (Classical.propDecidable _) (fun h => by have h2 := loP_mono (k := i + 1) (k - i) (by rw [show i + 1 + (k - i) = k + 1 by omega]; exact h.2); exact h2.2 (by omega)) _ _ _] at hp; exact hp))
    · refine x_aload_n dX2_lowestOn_26 rfl ?_
      refine x_iload dX2_lowestOn_27 rfl ?_
      refine x_iload_n dX2_lowestOn_29 rfl ?_
      refine x_callV2 (mc1 := 0) (ms1 := 0) dX2_lowestOn_30 cv_RX2_36 (ci := 2) (k_ob_299 cs) rfl (Nat.le_of_ble_eq_true rfl) (n1 := n - 1) (by omega) (by omega) (by omega) ?_
      refine sp_X2_lowestNext cs hf (by omega) hlo.1 hW (by omega) ?_
      refine x_istore (lv2 := [(4, _), (0, _), (1, _), (2, _), (3, _), (5, _)]) dX2_lowestOn_33 (by decide) rfl ?_
      refine x_iload dX2_lowestOn_35 rfl ?_
      refine x_bipush dX2_lowestOn_37 (by decide) ?_
      refine x_icmp_ne 45 dX2_lowestOn_39 (by decide) ⟨(by omega), (by omega)⟩ (fun w39 => ?_) (fun w39 => ?_)
      · refine x_iload_n dX2_lowestOn_45 rfl ?_
        refine x_iconst dX2_lowestOn_46 ?_
        refine x_iload dX2_lowestOn_47 rfl ?_
        rw [← Int.toNat_of_nonneg (show 0 ≤ lnP ft H i (loK ft H i).1 by omega)]
        have hpw := pw7 (i := (lnP ft H i (loK ft H i).1).toNat) (by omega)
        refine x_ishl dX2_lowestOn_49 ?_
        rw [shl1_n (by omega)]
        refine x_ior dX2_lowestOn_50 ?_
        rw [orI_n (by omega) (by omega), Int.toNat_of_nonneg (show 0 ≤ lnP ft H i (loK ft H i).1 by omega)]
        refine x_istore_n (lv2 := [(3, _), (4, _), (0, _), (1, _), (2, _), (5, _)]) dX2_lowestOn_51 (by decide) rfl ?_
        refine x_iinc (lv2 := [(5, _), (3, _), (4, _), (0, _), (1, _), (2, _)]) dX2_lowestOn_52 rfl (by decide) rfl ?_
        refine x_goto 20 dX2_lowestOn_55 (by decide) ?_
        refine x_sub [3, 4, 5, 1, 2, 0] rfl ?_
        exact ih _ (by omega) (i + 1) (by omega) rfl ⟨hP, by omega⟩
      · refine x_bipush dX2_lowestOn_42 (by decide) ?_
        exact x_ireturn dX2_lowestOn_44 rfl (by omega) (by omega) (by first | (obtain rfl : i = k + 1 := (by omega); rw [show lowP ft H k = (loK ft H (k + 1)).2 from @if_pos _ (Classical.propDecidable _) ⟨h0, hP⟩ _ _ _] at hp; exact hp) | (rw [show lowP ft H k = -2 from @if_neg _ (Classical.propDecidable _) (fun h => by have h2 := loP_mono (k := i + 1) (k - i) (by rw [show i + 1 + (k - i) = k + 1 by omega]; exact h.2); exact h2.2 (by omega)) _ _ _] at hp; exact hp))
theorem sp_X2_lowestOn {e : Int} {k : Nat} (cs : CS S R) (hc : ClW I 1 A) (hb : BA A) (he : 0 ≤ e ∧ e ≤ 9) (hk : (k : Int) < A 4) (hn : 3 ≤ n) (hp : ∀ I', Fh I I' → Post (some (.int (iI (lowP (ftA A e) (A 4).toNat k)))) S I' R) : Call n 0 0 mX2_lowestOn [.ref (S.2.1 299), .int (iI e), .int (iI (k : Int))] S I R Post := by
  have b4 := hb.2.1.2.2.2.1
  have hwb := wbb (ft := ftA A e) (H := (A 4).toNat) (s := 0)
  have h8 : (8 : Int) ^ ((A 4).toNat - bcN 0) ≤ 262144 := p8 (by omega)
  refine Call.of (by decide +kernel) (Nat.le_of_ble_eq_true rfl) ?_
  show WP _ _ _ _ _ 0 [(0, _), (1, _), (2, _)] [] 0 0 _ _ _
  refine x_aload_n dX2_lowestOn_0 rfl ?_
  refine x_iload_n dX2_lowestOn_1 rfl ?_
  refine x_callV1 (mc1 := 0) (ms1 := 0) dX2_lowestOn_2 cv_RX2_32 (ci := 2) (k_ob_299 cs) rfl (Nat.le_of_ble_eq_true rfl) (n1 := n - 1) (by omega) (by omega) (by omega) ?_
  refine sp_X2_countWays cs hc hb he (by omega) (fun I2 hF2 hf2 hw2 => ?_)
  refine x_if_ne 11 dX2_lowestOn_5 (by decide) (by omega) (fun w5 => ?_) (fun w5 => ?_)
  · refine x_iconst dX2_lowestOn_11 ?_
    refine x_istore_n (lv2 := [(3, _), (0, _), (1, _), (2, _)]) dX2_lowestOn_12 (by decide) rfl ?_
    refine x_bipush dX2_lowestOn_13 (by decide) ?_
    refine x_istore (lv2 := [(4, _), (3, _), (0, _), (1, _), (2, _)]) dX2_lowestOn_15 (by decide) rfl ?_
    refine x_iconst dX2_lowestOn_17 ?_
    refine x_istore (lv2 := [(5, _), (4, _), (3, _), (0, _), (1, _), (2, _)]) dX2_lowestOn_18 (by decide) rfl ?_
    refine x_sub [3, 4, 5, 2, 1, 0] rfl ?_
    exact lp_X2_lowestOn cs hf2 (by omega) hw2 (by omega) (by omega) (hp _ hF2) _ 0 (by omega) rfl trivial
  · refine x_bipush dX2_lowestOn_8 (by decide) ?_
    exact x_ireturn dX2_lowestOn_10 rfl (by omega) (by omega) (by rw [show lowP (ftA A e) (A 4).toNat k = -2 from @if_neg _ (Classical.propDecidable _) (fun h => h.1 (by omega)) _ _ _] at hp; exact hp _ hF2)
noncomputable def f_hung (A : Nat → Int) (e k : Int) : Int := if 0 ≤ e ∧ e ≤ 9 ∧ -1 ≤ k ∧ k < A 4 then (if k = -1 then wbA (ftA A e) (A 4).toNat 0 else lowP (ftA A e) (A 4).toNat k.toNat) else -2
theorem dX11_hung_0 : decode prog_1_method_35_code 0 = .ok (.iload_n 1, 1) := by decide +kernel
theorem dX11_hung_1 : decode prog_1_method_35_code 1 = .ok (.ifCond .lt 28, 3) := by decide +kernel
theorem dX11_hung_4 : decode prog_1_method_35_code 4 = .ok (.iload_n 1, 1) := by decide +kernel
theorem dX11_hung_5 : decode prog_1_method_35_code 5 = .ok (.bipush 9, 2) := by decide +kernel
theorem dX11_hung_7 : decode prog_1_method_35_code 7 = .ok (.if_icmp .gt 22, 3) := by decide +kernel
theorem dX11_hung_10 : decode prog_1_method_35_code 10 = .ok (.iload_n 2, 1) := by decide +kernel
theorem dX11_hung_11 : decode prog_1_method_35_code 11 = .ok (.iconst (-1), 1) := by decide +kernel
theorem dX11_hung_12 : decode prog_1_method_35_code 12 = .ok (.if_icmp .lt 17, 3) := by decide +kernel
theorem dX11_hung_15 : decode prog_1_method_35_code 15 = .ok (.iload_n 2, 1) := by decide +kernel
theorem dX11_hung_16 : decode prog_1_method_35_code 16 = .ok (.aload_n 0, 1) := by decide +kernel
theorem dX11_hung_17 : decode prog_1_method_35_code 17 = .ok (.getfield 10, 3) := by decide +kernel
theorem dX11_hung_20 : decode prog_1_method_35_code 20 = .ok (.getfield 67, 3) := by decide +kernel
theorem dX11_hung_23 : decode prog_1_method_35_code 23 = .ok (.getfield 297, 3) := by decide +kernel
theorem dX11_hung_26 : decode prog_1_method_35_code 26 = .ok (.if_icmp .lt 6, 3) := by decide +kernel
theorem dX11_hung_29 : decode prog_1_method_35_code 29 = .ok (.bipush (-2), 2) := by decide +kernel
theorem dX11_hung_31 : decode prog_1_method_35_code 31 = .ok (.ireturn, 1) := by decide +kernel
theorem dX11_hung_32 : decode prog_1_method_35_code 32 = .ok (.iload_n 2, 1) := by decide +kernel
theorem dX11_hung_33 : decode prog_1_method_35_code 33 = .ok (.iconst (-1), 1) := by decide +kernel
theorem dX11_hung_34 : decode prog_1_method_35_code 34 = .ok (.if_icmp .ne 14, 3) := by decide +kernel
theorem dX11_hung_37 : decode prog_1_method_35_code 37 = .ok (.aload_n 0, 1) := by decide +kernel
theorem dX11_hung_38 : decode prog_1_method_35_code 38 = .ok (.getfield 61, 3) := by decide +kernel
theorem dX11_hung_41 : decode prog_1_method_35_code 41 = .ok (.iload_n 1, 1) := by decide +kernel
theorem dX11_hung_42 : decode prog_1_method_35_code 42 = .ok (.invokevirtual 303, 3) := by decide +kernel
theorem dX11_hung_45 : decode prog_1_method_35_code 45 = .ok (.goto 12, 3) := by decide +kernel
theorem dX11_hung_48 : decode prog_1_method_35_code 48 = .ok (.aload_n 0, 1) := by decide +kernel
theorem dX11_hung_49 : decode prog_1_method_35_code 49 = .ok (.getfield 61, 3) := by decide +kernel
theorem dX11_hung_52 : decode prog_1_method_35_code 52 = .ok (.iload_n 1, 1) := by decide +kernel
theorem dX11_hung_53 : decode prog_1_method_35_code 53 = .ok (.iload_n 2, 1) := by decide +kernel
theorem dX11_hung_54 : decode prog_1_method_35_code 54 = .ok (.invokevirtual 306, 3) := by decide +kernel
theorem dX11_hung_57 : decode prog_1_method_35_code 57 = .ok (.ireturn, 1) := by decide +kernel
theorem sp_X11_hung {e k : Int} (cs : CS S R) (hc : ClW I 1 A) (hb : BA A) (he : Rg e) (hk : Rg k) (hn : 4 ≤ n) (hp : ∀ I', Fh I I' → Post (some (.int (iI (f_hung A e k)))) S I' R) : Call n 0 0 mX11_hung [.ref (S.2.1 0), .int (iI e), .int (iI k)] S I R Post := by
  have b4 := hb.2.1.2.2.2.1
  have t4 := hc.2.1.1.2.2.2.1
  dsimp only [Nat.reduceAdd] at t4
  unfold f_hung at hp
  refine Call.of (by decide +kernel) (Nat.le_of_ble_eq_true rfl) ?_
  show WP _ _ _ _ _ 0 [(0, _), (1, _), (2, _)] [] 0 0 _ _ _
  refine x_iload_n dX11_hung_0 rfl ?_
  refine x_if_lt 29 dX11_hung_1 (by decide) (by omega) (fun w1 => ?_) (fun w1 => ?_)
  · refine x_bipush dX11_hung_29 (by decide) ?_
    exact x_ireturn dX11_hung_31 rfl (by omega) (by omega) (by first | (rw [if_neg (by omega)] at hp; exact hp _ Fh.rf) | (rw [if_pos (by omega), if_pos (by omega)] at hp; exact hp _ hF2) | (rw [if_pos (by omega), if_neg (by omega)] at hp; exact hp _ hF2))
  · refine x_iload_n dX11_hung_4 rfl ?_
    refine x_bipush dX11_hung_5 (by decide) ?_
    refine x_icmp_gt 29 dX11_hung_7 (by decide) ⟨(by omega), (by omega)⟩ (fun w7 => ?_) (fun w7 => ?_)
    · refine x_bipush dX11_hung_29 (by decide) ?_
      exact x_ireturn dX11_hung_31 rfl (by omega) (by omega) (by first | (rw [if_neg (by omega)] at hp; exact hp _ Fh.rf) | (rw [if_pos (by omega), if_pos (by omega)] at hp; exact hp _ hF2) | (rw [if_pos (by omega), if_neg (by omega)] at hp; exact hp _ hF2))
    · refine x_iload_n dX11_hung_10 rfl ?_
      refine x_iconst dX11_hung_11 ?_
      refine x_icmp_lt 29 dX11_hung_12 (by decide) ⟨(by omega), (by omega)⟩ (fun w12 => ?_) (fun w12 => ?_)
      · refine x_bipush dX11_hung_29 (by decide) ?_
        exact x_ireturn dX11_hung_31 rfl (by omega) (by omega) (by first | (rw [if_neg (by omega)] at hp; exact hp _ Fh.rf) | (rw [if_pos (by omega), if_pos (by omega)] at hp; exact hp _ hF2) | (rw [if_pos (by omega), if_neg (by omega)] at hp; exact hp _ hF2))
      · refine x_iload_n dX11_hung_15 rfl ?_
        refine x_aload_n dX11_hung_16 rfl ?_
        refine x_getR (b := 1) dX11_hung_17 gf_RX11_10 (k_ob_0 cs) (fun _ _ => rfl) (k_r_0_0 cs) ?_
        refine x_getR (b := 13) dX11_hung_20 gf_RX11_67 (k_ob_1 cs) (fun _ _ => rfl) (k_r_1_8 cs) ?_
        refine x_getI dX11_hung_23 gf_RX11_297 (k_ob_13 cs) (fun _ _ => rfl) ?_
        refine x_icmp_lt 32 dX11_hung_26 (by decide) ⟨(by omega), (by omega)⟩ (fun w26 => ?_) (fun w26 => ?_)
        · refine x_iload_n dX11_hung_32 rfl ?_
          refine x_iconst dX11_hung_33 ?_
          refine x_icmp_ne 48 dX11_hung_34 (by decide) ⟨(by omega), (by omega)⟩ (fun w34 => ?_) (fun w34 => ?_)
          · refine x_aload_n dX11_hung_48 rfl ?_
            refine x_getR (b := 299) dX11_hung_49 gf_RX11_61 (k_ob_0 cs) (fun _ _ => rfl) (k_r_0_7 cs) ?_
            refine x_iload_n dX11_hung_52 rfl ?_
            refine x_iload_n dX11_hung_53 rfl ?_
            refine x_callV2 (mc1 := 0) (ms1 := 0) dX11_hung_54 cv_RX11_306 (ci := 2) (k_ob_299 cs) rfl (Nat.le_of_ble_eq_true rfl) (n1 := n - 1) (by omega) (by omega) (by omega) ?_
            rw [asN (a := k) (by omega)]
            refine sp_X2_lowestOn cs hc hb (by omega) (by omega) (by omega) (fun I2 hF2 => ?_)
            exact x_ireturn dX11_hung_57 rfl (by omega) (by omega) (by first | (rw [if_neg (by omega)] at hp; exact hp _ Fh.rf) | (rw [if_pos (by omega), if_pos (by omega)] at hp; exact hp _ hF2) | (rw [if_pos (by omega), if_neg (by omega)] at hp; exact hp _ hF2))
          · refine x_aload_n dX11_hung_37 rfl ?_
            refine x_getR (b := 299) dX11_hung_38 gf_RX11_61 (k_ob_0 cs) (fun _ _ => rfl) (k_r_0_7 cs) ?_
            refine x_iload_n dX11_hung_41 rfl ?_
            refine x_callV1 (mc1 := 0) (ms1 := 0) dX11_hung_42 cv_RX11_303 (ci := 2) (k_ob_299 cs) rfl (Nat.le_of_ble_eq_true rfl) (n1 := n - 1) (by omega) (by omega) (by omega) ?_
            refine sp_X2_countWays cs hc hb (by omega) (by omega) (fun I2 hF2 hf2 hw2 => ?_)
            refine x_goto 57 dX11_hung_45 (by decide) ?_
            exact x_ireturn dX11_hung_57 rfl (by omega) (by omega) (by first | (rw [if_neg (by omega)] at hp; exact hp _ Fh.rf) | (rw [if_pos (by omega), if_pos (by omega)] at hp; exact hp _ hF2) | (rw [if_pos (by omega), if_neg (by omega)] at hp; exact hp _ hF2))
        · refine x_bipush dX11_hung_29 (by decide) ?_
          exact x_ireturn dX11_hung_31 rfl (by omega) (by omega) (by first | (rw [if_neg (by omega)] at hp; exact hp _ Fh.rf) | (rw [if_pos (by omega), if_pos (by omega)] at hp; exact hp _ hF2) | (rw [if_pos (by omega), if_neg (by omega)] at hp; exact hp _ hF2))
end Hang
