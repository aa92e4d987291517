section Lw1
variable {n mc ms : Nat} {M : Md} {pc : Nat} {lv : List (Nat × Value)} {st : List Value} {k j : Nat} {Post : PT} {S : Sh} {I : CI} {R : CR} {A : Nat → Int} {tx : Nat → Nat → Int}
theorem ClW_frb {I I' : CI} {b : Nat} {A : Nat → Int} (h : ∀ c, b ≤ c → c < b + 139 → I' c = I c) (hc : ClW I b A) : ClW I' b A := by
  obtain ⟨⟨⟨c0, c7, c8, c9, c10, c11⟩, cq⟩, ⟨⟨t1, t2, t3, t4, t5, t6, t7, t8, t9⟩, tq, th, tb, ts, td⟩, cb, cp⟩ := hc
  have e : ∀ j, stId b I' j = stId b I j := fun j => by unfold stId; rw [h b (by omega) (by omega)]
  unfold ClW ClN ClT ClB ClP
  rw [h (b + 5) (by omega) (by omega), h (b + 6) (by omega) (by omega), h (b + 7) (by omega) (by omega), h (b + 8) (by omega) (by omega), h b (by omega) (by omega), h (b + 12) (by omega) (by omega), h (b + 1) (by omega) (by omega), h (b + 2) (by omega) (by omega), h (b + 3) (by omega) (by omega), h (b + 4) (by omega) (by omega), h (b + 14) (by omega) (by omega), h (b + 15) (by omega) (by omega), h (b + 16) (by omega) (by omega), h (b + 17) (by omega) (by omega), h (b + 18) (by omega) (by omega), h (b + 13) (by omega) (by omega), h (b + 10) (by omega) (by omega)]
  refine ⟨⟨⟨c0, c7, c8, c9, c10, c11⟩, cq⟩, ⟨⟨t1, t2, t3, t4, t5, t6, t7, t8, t9⟩, tq, th, tb, ts, td⟩, cb, fun j hj => ?_⟩
  rw [e]
  have hs := cp j hj
  have hs1 : b + 19 ≤ stId b I j ∧ stId b I j ≤ b + 135 := by unfold stId; omega
  unfold ClS at hs ⊢
  rw [h _ (by omega) (by omega), h (stId b I j + 1) (by omega) (by omega), h (stId b I j + 2) (by omega) (by omega), h (stId b I j + 3) (by omega) (by omega)]
  exact hs
theorem ClW_xt {I : CI} {b : Nat} {A B : Nat → Int} (h : ∀ i, i < 2875 → B i = A i) (h3 : A 3 ≤ 30) (h11 : A 11 ≤ 30) (hc : ClW I b A) : ClW I b B := by
  obtain ⟨⟨c0, cq⟩, ⟨t1, tq, th, tb, ts, td⟩, cb, cp⟩ := hc
  refine ⟨⟨?_, fun q hq => ?_⟩, ⟨?_, fun q hq => ?_, fun q hq => ?_, fun q hq => ?_, fun q hq => ?_, fun q hq => ?_⟩, fun i hi => ?_, fun j hj => ?_⟩
  · rw [h 0 (by omega), h 7 (by omega), h 8 (by omega), h 9 (by omega), h 10 (by omega), h 11 (by omega)]; exact c0
  · rw [h _ (by omega), h (13 + 3 * q) (by omega), h (14 + 3 * q) (by omega)]; exact cq q hq
  · rw [h 1 (by omega), h 2 (by omega), h 3 (by omega), h 4 (by omega), h 5 (by omega), h 6 (by omega), h 114 (by omega)]; exact t1
  · rw [h (36 + 2 * q) (by omega), h (37 + 2 * q) (by omega), h (52 + q) (by omega), h (60 + q) (by omega)]; exact tq q hq
  · rw [h (68 + q) (by omega)]; exact th q hq
  · rw [h (74 + 2 * q) (by omega), h (75 + 2 * q) (by omega)]; exact tb q hq
  · rw [h (94 + 2 * q) (by omega), h (95 + 2 * q) (by omega)]; exact ts q hq
  · rw [h (110 + q) (by omega)]; exact td q hq
  · rw [h 11 (by omega)] at hi
    rw [h (2815 + i) (by omega), h (2845 + i) (by omega)]; exact cb i hi
  · rw [h 3 (by omega)] at hj
    exact ClS_of (cp j hj) (fun d hd => h _ (by omega)) (fun _ => rfl) (fun _ _ _ _ _ => rfl)
theorem BA_xt {A B : Nat → Int} (h : ∀ i, i < 2875 → B i = A i) (hb : BA A) : BA B := by
  have h11 := BA_11 hb
  refine BA_now hb (fun i hi => h i (by omega)) (fun i hi => ⟨h _ (by omega), h _ (by omega)⟩) (BS_same hb.1 (fun i hi => h i (by omega))) (by rw [h 11 (by omega)]; exact Int.le_refl _)
theorem f_by_t {q : Int} : (f_by A q).2 1 = A 1 := by
  unfold f_by; split
  · dsimp only; rw [upA_o (by omega)]
  · rfl
theorem f_earns_t {q : Int} : (f_earns A q).2 1 = A 1 := by
  unfold f_earns; split
  · dsimp only; rw [upA_o (by omega)]
  · rfl
theorem f_digit_t {q d : Int} : (f_digit A q d).2 1 = A 1 := by
  unfold f_digit; split
  · dsimp only; rw [upA_o (by omega)]
  · rfl
theorem f_hook_t {q : Int} : (f_hook A q).2 1 = A 1 := by
  unfold f_hook; (repeat' split) <;> dsimp only
  · rw [upA_o (by omega)]
  · rw [upA_o (by omega), upA_o (by omega)]
theorem f_bid_t {q d : Int} : (f_bid A q d).2 1 = A 1 := by
  unfold f_bid; (repeat' split) <;> dsimp only
  · rw [upA_o (by omega)]
  · rw [upA_o (by omega), upA_o (by omega), upA_o (by omega)]
theorem f_said_t {q d : Int} : (f_said A q d).2 1 = A 1 := by
  unfold f_said; (repeat' split) <;> dsimp only
  · rw [upA_o (by omega)]
  · rw [upA_o (by omega), upA_o (by omega), upA_o (by omega)]
theorem f_undo_k (hb : BA A) : BA (f_undo A).2 ∧ (f_undo A).2 1 = A 1 := by
  have h3 := hb.2.1.2.2.1
  unfold f_undo; split
  · exact ⟨hb, rfl⟩
  · exact ⟨BA_undo hb (by omega), (undo_rows hb (by omega)).2.1 1 (by omega) (by omega) (by omega) (by omega)⟩
theorem dayL_k (hb : BA A) : ∀ k : Nat, A 7 + k ≤ 9999 → BA (dayL A tx k).1 ∧ (dayL A tx k).1 1 = A 1 ∧ (dayL A tx k).1 7 = A 7 + k := by
  intro k
  induction k with
  | zero => intro _; exact ⟨hb, rfl, by show A 7 = A 7 + ((0 : Nat) : Int); omega⟩
  | succ k ih =>
    intro hk
    obtain ⟨i1, i2, i3⟩ := ih (by omega)
    have h7 : (dayL A tx k).1 7 < 9999 := by omega
    refine ⟨BA_dstep i1 h7, ?_, ?_⟩
    · show (dstep (dayL A tx k).1 tx).1 1 = A 1
      rw [dstep_1 i1]; exact i2
    · show (dstep (dayL A tx k).1 tx).1 7 = A 7 + ((k + 1 : Nat) : Int)
      rw [dstep_7 i1]; omega
theorem f_day_t {q : Int} (hb : BA A) : (f_day A tx q).2 1 = A 1 := by
  unfold f_day; split
  · rename_i h
    exact (dayL_k hb q.toNat (by omega)).2.1
  · rfl
theorem lvL_k (hb : BA A) : ∀ k : Nat, BA (lvL A tx k) ∧ lvL A tx k 1 = A 1 := by
  intro k
  induction k with
  | zero => exact ⟨hb, rfl⟩
  | succ k ih =>
    refine ⟨BA_live ih.1, ?_⟩
    show liveA (lvL A tx k) tx 1 = A 1
    rw [live_1 ih.1]; exact ih.2
theorem f_years_t {s q : Int} (hb : BA A) : (f_years A tx s q).2 1 = A 1 := by
  unfold f_years; split
  · rename_i h
    dsimp only
    rw [(lvL_k (BA_x (BA_keep hb) (by omega)) _).2, upA_o (by omega), kp_lo (by omega) (by omega)]
  · rfl
theorem plL_k {x : Nat → Int} : ∀ (f i : Nat) (A : Nat → Int), BA A → (plL tx x f i A).2 1 = A 1 := by
  intro f
  induction f with
  | zero => intro i A _; rfl
  | succ f ih =>
    intro i A hb
    have hc := clause_k (tx := tx) hb x i
    show (if (f_clause A tx x i).1 = 0 then ((i : Int), (f_clause A tx x i).2) else plL tx x f (i + 1) (f_clause A tx x i).2).2 1 = A 1
    split
    · exact hc.2
    · rw [ih _ _ hc.1]; exact hc.2
theorem f_played_t {q : Int} (hb : BA A) : (f_played A tx q).2 1 = A 1 := by
  unfold f_played; split
  · exact plL_k _ _ _ hb
  · rfl
theorem hot_eq (hc : ClW I 1 A) (hb : BA A) : hotL (hwR A) (heR A) (A 0).toNat = hotL (I 7) (I 9) (A 0).toNat := by
  have h0 := hb.1.1
  exact hotL_congr _ (fun i hi => ⟨(hc.1.2 i (by omega)).1, (hc.1.2 i (by omega)).2.2⟩)
/-- the kept texts -/
def WK (S : Sh) (R : CR) (I : CI) (B : Nat → Int) (tx : Nat → Nat → Int) : Prop := ∀ t : Nat, (t : Int) < B 1 → ∃ id, R 151 t = some id ∧ TXr S R I id (tx t) ∧ TV (tx t)
def LI (a1 a2 : Nat) (S : Sh) (I : CI) (R : CR) (A B : Nat → Int) (tx : Nat → Nat → Int) (t : Nat → Int) (l : Nat) : Prop :=
  (S.2.1 0 = a1) ∧ (S.2.1 306 = a2) ∧ (CS S R) ∧ (RB S R) ∧ (CIv S R I A tx) ∧ (I 307 = A) ∧ (ClW I 140 B) ∧ (BA B) ∧ (∀ i, i < 2875 → I 308 i = B i) ∧ (B 1 ≤ A 1) ∧ (WK S R I B tx) ∧ (TO S R 12) ∧ (TO S R 151) ∧ (TpC I t l) ∧ (TpR I t l) ∧ (I 287 4 = I 306 5) ∧ (I 287 5 = I 306 6) ∧ (0 ≤ I 287 12 ∧ I 287 12 ≤ 1) ∧ (CB I) ∧ (I 306 23 = 1) ∧ (DK I) ∧ (DM I) ∧ (RTx (I 309) A tx) ∧ (TB A tx)
theorem LI.ad1 {a1 a2 : Nat} {B : Nat → Int} {t : Nat → Int} {l : Nat} (h : LI a1 a2 S I R A B tx t l) : S.2.1 0 = a1 := h.1
theorem LI.ad2 {a1 a2 : Nat} {B : Nat → Int} {t : Nat → Int} {l : Nat} (h : LI a1 a2 S I R A B tx t l) : S.2.1 306 = a2 := h.2.1
theorem LI.cs {a1 a2 : Nat} {B : Nat → Int} {t : Nat → Int} {l : Nat} (h : LI a1 a2 S I R A B tx t l) : CS S R := h.2.2.1
theorem LI.rb {a1 a2 : Nat} {B : Nat → Int} {t : Nat → Int} {l : Nat} (h : LI a1 a2 S I R A B tx t l) : RB S R := h.2.2.2.1
theorem LI.iv {a1 a2 : Nat} {B : Nat → Int} {t : Nat → Int} {l : Nat} (h : LI a1 a2 S I R A B tx t l) : CIv S R I A tx := h.2.2.2.2.1
theorem LI.rA {a1 a2 : Nat} {B : Nat → Int} {t : Nat → Int} {l : Nat} (h : LI a1 a2 S I R A B tx t l) : I 307 = A := h.2.2.2.2.2.1
theorem LI.cB {a1 a2 : Nat} {B : Nat → Int} {t : Nat → Int} {l : Nat} (h : LI a1 a2 S I R A B tx t l) : ClW I 140 B := h.2.2.2.2.2.2.1
theorem LI.bB {a1 a2 : Nat} {B : Nat → Int} {t : Nat → Int} {l : Nat} (h : LI a1 a2 S I R A B tx t l) : BA B := h.2.2.2.2.2.2.2.1
theorem LI.rB {a1 a2 : Nat} {B : Nat → Int} {t : Nat → Int} {l : Nat} (h : LI a1 a2 S I R A B tx t l) : ∀ i, i < 2875 → I 308 i = B i := h.2.2.2.2.2.2.2.2.1
theorem LI.le {a1 a2 : Nat} {B : Nat → Int} {t : Nat → Int} {l : Nat} (h : LI a1 a2 S I R A B tx t l) : B 1 ≤ A 1 := h.2.2.2.2.2.2.2.2.2.1
theorem LI.kt {a1 a2 : Nat} {B : Nat → Int} {t : Nat → Int} {l : Nat} (h : LI a1 a2 S I R A B tx t l) : WK S R I B tx := h.2.2.2.2.2.2.2.2.2.2.1
theorem LI.to1 {a1 a2 : Nat} {B : Nat → Int} {t : Nat → Int} {l : Nat} (h : LI a1 a2 S I R A B tx t l) : TO S R 12 := h.2.2.2.2.2.2.2.2.2.2.2.1
theorem LI.to2 {a1 a2 : Nat} {B : Nat → Int} {t : Nat → Int} {l : Nat} (h : LI a1 a2 S I R A B tx t l) : TO S R 151 := h.2.2.2.2.2.2.2.2.2.2.2.2.1
theorem LI.tc {a1 a2 : Nat} {B : Nat → Int} {t : Nat → Int} {l : Nat} (h : LI a1 a2 S I R A B tx t l) : TpC I t l := h.2.2.2.2.2.2.2.2.2.2.2.2.2.1
theorem LI.tr {a1 a2 : Nat} {B : Nat → Int} {t : Nat → Int} {l : Nat} (h : LI a1 a2 S I R A B tx t l) : TpR I t l := h.2.2.2.2.2.2.2.2.2.2.2.2.2.2.1
theorem LI.f4 {a1 a2 : Nat} {B : Nat → Int} {t : Nat → Int} {l : Nat} (h : LI a1 a2 S I R A B tx t l) : I 287 4 = I 306 5 := h.2.2.2.2.2.2.2.2.2.2.2.2.2.2.2.1
theorem LI.f5 {a1 a2 : Nat} {B : Nat → Int} {t : Nat → Int} {l : Nat} (h : LI a1 a2 S I R A B tx t l) : I 287 5 = I 306 6 := h.2.2.2.2.2.2.2.2.2.2.2.2.2.2.2.2.1
theorem LI.c12 {a1 a2 : Nat} {B : Nat → Int} {t : Nat → Int} {l : Nat} (h : LI a1 a2 S I R A B tx t l) : 0 ≤ I 287 12 ∧ I 287 12 ≤ 1 := h.2.2.2.2.2.2.2.2.2.2.2.2.2.2.2.2.2.1
theorem LI.cb {a1 a2 : Nat} {B : Nat → Int} {t : Nat → Int} {l : Nat} (h : LI a1 a2 S I R A B tx t l) : CB I := h.2.2.2.2.2.2.2.2.2.2.2.2.2.2.2.2.2.2.1
theorem LI.z23 {a1 a2 : Nat} {B : Nat → Int} {t : Nat → Int} {l : Nat} (h : LI a1 a2 S I R A B tx t l) : I 306 23 = 1 := h.2.2.2.2.2.2.2.2.2.2.2.2.2.2.2.2.2.2.2.1
theorem LI.dk {a1 a2 : Nat} {B : Nat → Int} {t : Nat → Int} {l : Nat} (h : LI a1 a2 S I R A B tx t l) : DK I := h.2.2.2.2.2.2.2.2.2.2.2.2.2.2.2.2.2.2.2.2.1
theorem LI.dm {a1 a2 : Nat} {B : Nat → Int} {t : Nat → Int} {l : Nat} (h : LI a1 a2 S I R A B tx t l) : DM I := h.2.2.2.2.2.2.2.2.2.2.2.2.2.2.2.2.2.2.2.2.2.1
theorem LI.rt {a1 a2 : Nat} {B : Nat → Int} {t : Nat → Int} {l : Nat} (h : LI a1 a2 S I R A B tx t l) : RTx (I 309) A tx := h.2.2.2.2.2.2.2.2.2.2.2.2.2.2.2.2.2.2.2.2.2.2.1
theorem LI.tb {a1 a2 : Nat} {B : Nat → Int} {t : Nat → Int} {l : Nat} (h : LI a1 a2 S I R A B tx t l) : TB A tx := h.2.2.2.2.2.2.2.2.2.2.2.2.2.2.2.2.2.2.2.2.2.2.2
/-- what the class's calls leave -/
def KC (I J : CI) : Prop := ∀ c, ((140 ≤ c ∧ c ≤ 278) ∨ c = 287 ∨ c = 288 ∨ c = 290 ∨ 306 ≤ c) → J c = I c
/-- what the reference's calls leave -/
def KR (I J : CI) : Prop := (∀ c, (c < 306 ∨ c = 308 ∨ c = 309 ∨ c = 310 ∨ 325 ≤ c) → J c = I c) ∧ ∀ q, (q = 4 ∨ q = 5 ∨ q = 6 ∨ q = 23) → J 306 q = I 306 q
theorem KC.rf : KC I I := fun _ _ => rfl
theorem KR.rf : KR I I := ⟨fun _ _ => rfl, fun _ _ => rfl⟩
theorem DK.fr {J : CI} (h : DK I) (h4 : J 304 = I 304) (h5 : J 305 = I 305) : DK J := by unfold DK; rw [h4, h5]; exact h
theorem DM.fr {J : CI} (h : DM I) (h4 : J 323 = I 323) (h5 : J 324 = I 324) : DM J := by unfold DM; rw [h4, h5]; exact h
theorem TXr.fr {J : CI} {id : Nat} {x : Nat → Int} (h : TXr S R I id x) (hk : ∀ a, 325 ≤ a → J a = I a) : TXr S R J id x := by
  have h0 := h.1
  unfold TXr at h ⊢
  rw [hk id h0, hk (id + 1) (by omega), hk (id + 2) (by omega)]
  exact h
theorem CIv.r {J : CI} (h : CIv S R I A tx) (k : KR I J) : CIv S R J A tx :=
  ⟨ClW_fr (fun c h1 h2 => k.1 c (by omega)) h.1, h.2.1, WTx_fr (fun c hc => k.1 c (by omega)) h.2.2.1, by unfold SK; rw [k.1 281 (by omega)]; exact h.2.2.2⟩
theorem LI.step {a1 a2 : Nat} {A' B : Nat → Int} {t : Nat → Int} {l : Nat} {I1 J : CI} (h : LI a1 a2 S I R A B tx t l) (k1 : KC I I1) (hv : CIv S R I1 A' tx) (d1 : DK I1) (k2 : KR I1 J) (d2 : DM J) (h7 : J 307 = A') (h1 : A' 1 = A 1) : LI a1 a2 S J R A' B tx t l := by
  have e : ∀ c, ((140 ≤ c ∧ c ≤ 278) ∨ c = 287 ∨ c = 288 ∨ c = 290 ∨ c = 308 ∨ c = 309 ∨ c = 310 ∨ 325 ≤ c) → J c = I c := fun c hc => (k2.1 c (by omega)).trans (k1 c (by omega))
  have e6 : ∀ q, (q = 4 ∨ q = 5 ∨ q = 6 ∨ q = 23) → J 306 q = I 306 q := fun q hq => by rw [k2.2 q hq, k1 306 (by omega)]
  have e87 := e 287 (by omega)
  have e88 := e 288 (by omega)
  have e90 := e 290 (by omega)
  have e08 := e 308 (by omega)
  have e09 := e 309 (by omega)
  have e10 := e 310 (by omega)
  refine ⟨h.ad1, h.ad2, h.cs, h.rb, hv.r k2, h7, ClW_frb (fun c g1 g2 => e c (by omega)) h.cB, h.bB, by rw [e08]; exact h.rB, by rw [h1]; exact h.le, fun q hq => ?_, h.to1, h.to2, ?_, ?_, ?_, ?_, ?_, ?_, ?_, ?_, d2, ?_, ?_⟩
  · obtain ⟨id, g1, g2, g3⟩ := h.kt q hq
    exact ⟨id, g1, g2.fr (fun a ha => e a (by omega)), g3⟩
  · unfold TpC; rw [e87, e88]; exact h.tc
  · unfold TpR; rw [e10, e6 4 (by omega)]; exact h.tr
  · rw [e87, e6 5 (by omega)]; exact h.f4
  · rw [e87, e6 6 (by omega)]; exact h.f5
  · rw [e87]; exact h.c12
  · unfold CB; rw [e90]; exact h.cb
  · rw [e6 23 (by omega)]; exact h.z23
  · exact d1.fr (k2.1 304 (by omega)) (k2.1 305 (by omega))
  · unfold RTx; rw [e09, h1]; exact h.rt
  · unfold TB; rw [h1]; exact h.tb
theorem Fw.kc {J : CI} (h : Fw I J) : KC I J := fun c hc => h c (by omega)
theorem Fc.kc {J : CI} (h : Fc I J) : KC I J := fun c hc => h c (by omega) (by omega) (by omega)
theorem Fl.kc {J : CI} (h : Fl I J) : KC I J := fun c hc => h c (by omega) (by omega)
theorem Fp.kc {J : CI} (h : Fp I J) : KC I J := fun c hc => h c (by omega) (by omega) (by omega)
theorem Fk.kc {J : CI} (h : Fk I J) : KC I J := fun c hc => h c (by omega) (by omega) (by omega) (by omega) (by omega)
theorem Ff.kc {J : CI} (h : Ff I J) : KC I J := fun c hc => h c (by omega) (by omega) (by omega) (by omega)
theorem Fh.kc {J : CI} (h : Fh I J) : KC I J := fun c hc => h c (by omega) (by omega) (by omega)
theorem Fdl.kc {J : CI} (h : Fdl I J) : KC I J := fun c hc => h c (by omega) (by omega) (by omega)
theorem Fw.kd {J : CI} (h : Fw I J) (d : DK I) : DK J := d.fr (h 304 (by omega)) (h 305 (by omega))
theorem Fc.kd {J : CI} (h : Fc I J) (d : DK I) : DK J := d.fr (h 304 (by omega) (by omega) (by omega)) (h 305 (by omega) (by omega) (by omega))
theorem Fl.kd {J : CI} (h : Fl I J) (d : DK I) : DK J := d.fr (h 304 (by omega) (by omega)) (h 305 (by omega) (by omega))
theorem Fp.kd {J : CI} (h : Fp I J) (d : DK I) : DK J := d.fr (h 304 (by omega) (by omega) (by omega)) (h 305 (by omega) (by omega) (by omega))
theorem Fk.kd {J : CI} (h : Fk I J) (d : DK I) : DK J := d.fr (h 304 (by omega) (by omega) (by omega) (by omega) (by omega)) (h 305 (by omega) (by omega) (by omega) (by omega) (by omega))
theorem Ff.kd {J : CI} (h : Ff I J) (d : DK I) : DK J := d.fr (h 304 (by omega) (by omega) (by omega) (by omega)) (h 305 (by omega) (by omega) (by omega) (by omega))
theorem Fh.kd {J : CI} (h : Fh I J) (d : DK I) : DK J := d.fr (h 304 (by omega) (by omega) (by omega)) (h 305 (by omega) (by omega) (by omega))
theorem F7.kr {J : CI} (h : F7 I J) : KR I J := ⟨fun c hc => h c (by omega), fun q _ => by rw [h 306 (by omega)]⟩
theorem FD.kr {J : CI} (h : FD I J) : KR I J := ⟨fun c hc => h c (by omega) (by omega) (by omega), fun q _ => by rw [h 306 (by omega) (by omega) (by omega)]⟩
theorem FP.kr {J : CI} (h : FP I J) : KR I J := ⟨fun c hc => h.1 c (by omega) (by omega) (by omega) (by omega) (by omega), fun q hq => h.2 q (by omega)⟩
theorem FR.kr {J : CI} (h : FR I J) : KR I J := ⟨fun c hc => h c (by omega) (by omega) (by omega) (by omega), fun q _ => by rw [h 306 (by omega) (by omega) (by omega) (by omega)]⟩
theorem Fo.kr {J : CI} (h : Fo I J) : KR I J := ⟨fun c hc => h.1 c (by omega) (by omega) (by omega) (by omega) (by omega), fun q hq => h.2 q (by omega)⟩
theorem Fy.kr {J : CI} (h : Fy I J) : KR I J := ⟨fun c hc => h c (by omega) (by omega) (by omega) (by omega) (by omega), fun q _ => by rw [h 306 (by omega) (by omega) (by omega) (by omega) (by omega)]⟩
theorem Fmk.kr {J : CI} (h : Fmk I J) : KR I J := ⟨fun c hc => h.1 c (by omega) (by omega) (by omega), fun q hq => h.2 q (by omega) (by omega)⟩
theorem Fpl.kr {J : CI} (h : Fpl I J) : KR I J := ⟨fun c hc => h.1 c (by omega) (by omega) (by omega) (by omega) (by omega) (by omega), fun q hq => h.2 q (by omega)⟩
theorem Fhg.kr {J : CI} (h : Fhg I J) : KR I J := ⟨fun c hc => h.1 c (by omega) (by omega) (by omega) (by omega), fun q hq => h.2 q (by omega)⟩
theorem F7.km {J : CI} (h : F7 I J) (d : DM I) : DM J := d.fr (h 323 (by omega)) (h 324 (by omega))
theorem FD.km {J : CI} (h : FD I J) (d : DM I) : DM J := d.fr (h 323 (by omega) (by omega) (by omega)) (h 324 (by omega) (by omega) (by omega))
theorem FP.km {J : CI} (h : FP I J) (d : DM I) : DM J := d.fr (h.1 323 (by omega) (by omega) (by omega) (by omega) (by omega)) (h.1 324 (by omega) (by omega) (by omega) (by omega) (by omega))
theorem FR.km {J : CI} (h : FR I J) (d : DM I) : DM J := d.fr (h 323 (by omega) (by omega) (by omega) (by omega)) (h 324 (by omega) (by omega) (by omega) (by omega))
theorem Fo.km {J : CI} (h : Fo I J) (d : DM I) : DM J := d.fr (h.1 323 (by omega) (by omega) (by omega) (by omega) (by omega)) (h.1 324 (by omega) (by omega) (by omega) (by omega) (by omega))
theorem Fy.km {J : CI} (h : Fy I J) (d : DM I) : DM J := d.fr (h 323 (by omega) (by omega) (by omega) (by omega) (by omega)) (h 324 (by omega) (by omega) (by omega) (by omega) (by omega))
theorem Fpl.km {J : CI} (h : Fpl I J) (d : DM I) : DM J := d.fr (h.1 323 (by omega) (by omega) (by omega) (by omega) (by omega) (by omega)) (h.1 324 (by omega) (by omega) (by omega) (by omega) (by omega) (by omega))
theorem Fhg.km {J : CI} (h : Fhg I J) (d : DM I) : DM J := d.fr (h.1 323 (by omega) (by omega) (by omega) (by omega)) (h.1 324 (by omega) (by omega) (by omega) (by omega))
theorem FD.k7 {J : CI} (h : FD I J) : J 307 = I 307 := h 307 (by omega) (by omega) (by omega)
theorem Fo.k7 {J : CI} (h : Fo I J) : J 307 = I 307 := h.1 307 (by omega) (by omega) (by omega) (by omega) (by omega)
theorem Fy.k7 {J : CI} (h : Fy I J) : J 307 = I 307 := h 307 (by omega) (by omega) (by omega) (by omega) (by omega)
theorem Fpl.k7 {J : CI} (h : Fpl I J) : J 307 = I 307 := h.1 307 (by omega) (by omega) (by omega) (by omega) (by omega) (by omega)
theorem Fhg.k7 {J : CI} (h : Fhg I J) : J 307 = I 307 := h.1 307 (by omega) (by omega) (by omega) (by omega)
theorem Fmk.k7 {J : CI} (h : Fmk I J) : J 307 = I 307 := h.1 307 (by omega) (by omega) (by omega)
end Lw1
