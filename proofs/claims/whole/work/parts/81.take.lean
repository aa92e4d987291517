section Take
variable {n mc ms : Nat} {M : Md} {pc : Nat} {lv : List (Nat × Value)} {st : List Value} {k j : Nat} {Post : PT} {S : Sh} {I : CI} {R : CR} {A : Nat → Int} {tx : Nat → Nat → Int}
theorem x_aastore_tN {a N : Nat} {z : Int} (d : decode M.2.1 pc = .ok (.aastore, 1)) (hA : AR S a 17 N) (hz : 0 ≤ z ∧ z < N) (hN : N < 2147483648) (h : WP n mc ms M Post (pc + 1) lv st k j S I (uR R a z.toNat none)) : WP n mc ms M Post pc lv (.null :: .int (iI z) :: .ref (S.2.1 a) :: st) k j S I R := by
  intro l p e s m args below meth c D cy A H locs ls C hl hP hD hS
  refine va_astqN C.1 C.2.1 C.2.2.2.2.2.2.2.2.1.1 hP hD hS a 4 (C := RX8) (ha := by rw [pw_get hA.1, pE_t hA]) rfl (iI_in hz.1 hz.2 (by omega)) d (fun H1 locs1 hP hD hS => ?_)
  rw [iI_clamp hz.1 (by omega), pw_set (I' := I) (R' := uR R a z.toNat none) (by rw [pE_t hA]; congr; funext q; by_cases hq : q = z.toNat <;> simp [uR, va_up, hq]) (fun b hb => pE_uR hb)] at hP hD
  exact h l p e s m args below meth c D cy A H1 locs1 ls C hl hP hD hS
theorem CS_R {R' : CR} (h : ∀ c i, c ≠ 12 → c ≠ 151 → R' c i = R c i) (cs : CS S R) : CS S R' := by
  obtain ⟨c1, c2, c3, c4, c5, c6⟩ := cs
  have hne : ∀ e ∈ rfL, e.1 ≠ 12 ∧ e.1 ≠ 151 := by decide
  have hst : ∀ a, (a ≠ 12 ∧ a ≠ 151) → ST S R a → ST S R' a := fun a ha hs => by
    obtain ⟨s1, s2, s3, s4, s5⟩ := hs
    exact ⟨s1, by rw [h a 0 ha.1 ha.2]; exact s2, by rw [h a 1 ha.1 ha.2]; exact s3, by rw [h a 2 ha.1 ha.2]; exact s4, s5⟩
  refine ⟨c1, c2, fun e he => by rw [h _ _ (hne e he).1 (hne e he).2]; exact c3 e he, fun i hi => ⟨by rw [h _ _ (by omega) (by omega)]; exact (c4 i hi).1, hst _ (by omega) (c4 i hi).2⟩, fun i hi => ⟨by rw [h _ _ (by omega) (by omega)]; exact (c5 i hi).1, hst _ (by omega) (c5 i hi).2⟩, c6⟩
/-- a row of texts holds texts or nothing -/
def TO (S : Sh) (R : CR) (c : Nat) : Prop := ∀ i, i < 4 → R c i = none ∨ ∃ id, R c i = some id ∧ OB S id 8
/-- a world's cells from d on are as those from s on were -/
def WCp (I J : CI) (s d : Nat) : Prop := (∀ i, 9 ≤ i → i ≤ 12 → J d i = I s i) ∧ (∀ o i, 1 ≤ o → o ≤ 4 → i < 8 → J (d + o) i = I (s + o) i) ∧ ((∀ i, 3 ≤ i → i ≤ 8 → J (d + 5) i = I (s + 5) i) ∧ ∀ o i, 6 ≤ o → o ≤ 8 → i < 8 → J (d + o) i = I (s + o) i) ∧ (∀ i, i < 120 → J (d + 10) i = I (s + 10) i) ∧ ((∀ i, 6 ≤ i → i ≤ 9 → J (d + 12) i = I (s + 12) i) ∧ (∀ i, i < 4 → J (d + 13) i = I (s + 13) i) ∧ (∀ i, i < 6 → J (d + 14) i = I (s + 14) i) ∧ (∀ i, i < 10 → J (d + 15) i = I (s + 15) i ∧ J (d + 16) i = I (s + 16) i) ∧ (∀ i, i < 8 → J (d + 17) i = I (s + 17) i ∧ J (d + 18) i = I (s + 18) i)) ∧ (∀ t, t < 30 → (∀ i, 3 ≤ i → i ≤ 8 → J (d + 19 + 4 * t) i = I (s + 19 + 4 * t) i) ∧ ∀ o i, 1 ≤ o → o ≤ 3 → i < 8 → J (d + 19 + 4 * t + o) i = I (s + 19 + 4 * t + o) i)
theorem ClW_cp {I J : CI} {s d : Nat} (hc : ClW I s A) (h3 : A 3 ≤ 30) (h11 : A 11 ≤ 30) (h : WCp I J s d) : ClW J d A := by
  obtain ⟨w1, w2, ⟨w3, w4⟩, w5, ⟨w6, w7, w8, w9, w10⟩, w11⟩ := h
  obtain ⟨⟨⟨c0, c7, c8, c9, c10, c11⟩, cq⟩, ⟨⟨t1, t2, t3, t4, t5, t6, t7, t8, t9⟩, tq, th, tb, ts, td⟩, cb, cp⟩ := hc
  have e9 := w1 9 (by omega) (by omega)
  have e10 := w1 10 (by omega) (by omega)
  have hst : ∀ jj, stId d J jj = d + (stId s I jj - s) ∧ ∃ t, t < 30 ∧ stId s I jj = s + 19 + 4 * t := fun jj => by
    unfold stId
    rw [e9, e10]
    exact ⟨by omega, _, Nat.mod_lt _ (by decide), rfl⟩
  refine ⟨⟨⟨?_, ?_, ?_, ?_, ?_, ?_⟩, fun q hq => ?_⟩, ⟨⟨?_, ?_, ?_, ?_, ?_, ?_, ?_, ?_, ?_⟩, fun q hq => ?_, fun i hi => ?_, fun i hi => ?_, fun i hi => ?_, fun i hi => ?_⟩, fun i hi => ?_, fun jj hj => ?_⟩
  · rw [w3 3 (by omega) (by omega)]; exact c0
  · rw [w3 6 (by omega) (by omega)]; exact c7
  · rw [w3 7 (by omega) (by omega)]; exact c8
  · rw [w3 4 (by omega) (by omega)]; exact c9
  · rw [w3 5 (by omega) (by omega)]; exact c10
  · rw [w3 8 (by omega) (by omega)]; exact c11
  · rw [w4 6 q (by omega) (by omega) hq, w4 7 q (by omega) (by omega) hq, w4 8 q (by omega) (by omega) hq]; exact cq q hq
  · rw [w1 11 (by omega) (by omega)]; exact t1
  · rw [w1 12 (by omega) (by omega)]; exact t2
  · rw [e9]; exact t3
  · rw [w6 7 (by omega) (by omega)]; exact t4
  · rw [w6 8 (by omega) (by omega)]; exact t5
  · rw [w6 9 (by omega) (by omega)]; exact t6
  · rw [w6 6 (by omega) (by omega)]; exact t7
  · rw [e10]; exact t8
  · rw [e10]; exact t9
  · rw [w2 1 q (by omega) (by omega) hq, w2 2 q (by omega) (by omega) hq, w2 3 q (by omega) (by omega) hq, w2 4 q (by omega) (by omega) hq]; exact tq q hq
  · rw [w8 i hi]; exact th i hi
  · rw [(w9 i hi).1, (w9 i hi).2]; exact tb i hi
  · rw [(w10 i hi).1, (w10 i hi).2]; exact ts i hi
  · rw [w7 i hi]; exact td i hi
  · rw [w5 (4 * i) (by omega), w5 (4 * i + 1) (by omega), w5 (4 * i + 2) (by omega), w5 (4 * i + 3) (by omega)]; exact cb i hi
  · obtain ⟨h1, t, h2, h4⟩ := hst jj
    have hs := cp jj hj
    rw [h4] at hs
    rw [h1, h4, show d + (s + 19 + 4 * t - s) = d + 19 + 4 * t by omega]
    obtain ⟨v1, v2⟩ := w11 t h2
    obtain ⟨⟨s1, s2, s3, s4, s5, s6⟩, s7⟩ := hs
    refine ⟨⟨?_, ?_, ?_, ?_, ?_, ?_⟩, fun q hq => ?_⟩
    · rw [v1 3 (by omega) (by omega)]; exact s1
    · rw [v1 6 (by omega) (by omega)]; exact s2
    · rw [v1 7 (by omega) (by omega)]; exact s3
    · rw [v1 4 (by omega) (by omega)]; exact s4
    · rw [v1 5 (by omega) (by omega)]; exact s5
    · rw [v1 8 (by omega) (by omega)]; exact s6
    · rw [v2 1 q (by omega) (by omega) hq, v2 2 q (by omega) (by omega) hq, v2 3 q (by omega) (by omega) hq]; exact s7 q hq
theorem dX9_take_0 : decode prog_11_method_2_code 0 = .ok (.aload_n 1, 1) := by decide +kernel
theorem dX9_take_1 : decode prog_11_method_2_code 1 = .ok (.getfield 9, 3) := by decide +kernel
theorem dX9_take_4 : decode prog_11_method_2_code 4 = .ok (.iconst 0, 1) := by decide +kernel
theorem dX9_take_5 : decode prog_11_method_2_code 5 = .ok (.aload_n 0, 1) := by decide +kernel
theorem dX9_take_6 : decode prog_11_method_2_code 6 = .ok (.getfield 9, 3) := by decide +kernel
theorem dX9_take_9 : decode prog_11_method_2_code 9 = .ok (.iconst 0, 1) := by decide +kernel
theorem dX9_take_10 : decode prog_11_method_2_code 10 = .ok (.iconst 4, 1) := by decide +kernel
theorem dX9_take_11 : decode prog_11_method_2_code 11 = .ok (.invokestatic 30, 3) := by decide +kernel
theorem dX9_take_14 : decode prog_11_method_2_code 14 = .ok (.aload_n 1, 1) := by decide +kernel
theorem dX9_take_15 : decode prog_11_method_2_code 15 = .ok (.getfield 15, 3) := by decide +kernel
theorem dX9_take_18 : decode prog_11_method_2_code 18 = .ok (.iconst 0, 1) := by decide +kernel
theorem dX9_take_19 : decode prog_11_method_2_code 19 = .ok (.aload_n 0, 1) := by decide +kernel
theorem dX9_take_20 : decode prog_11_method_2_code 20 = .ok (.getfield 15, 3) := by decide +kernel
theorem dX9_take_23 : decode prog_11_method_2_code 23 = .ok (.iconst 0, 1) := by decide +kernel
theorem dX9_take_24 : decode prog_11_method_2_code 24 = .ok (.bipush 6, 2) := by decide +kernel
theorem dX9_take_26 : decode prog_11_method_2_code 26 = .ok (.invokestatic 30, 3) := by decide +kernel
theorem dX9_take_29 : decode prog_11_method_2_code 29 = .ok (.aload_n 1, 1) := by decide +kernel
theorem dX9_take_30 : decode prog_11_method_2_code 30 = .ok (.getfield 18, 3) := by decide +kernel
theorem dX9_take_33 : decode prog_11_method_2_code 33 = .ok (.iconst 0, 1) := by decide +kernel
theorem dX9_take_34 : decode prog_11_method_2_code 34 = .ok (.aload_n 0, 1) := by decide +kernel
theorem dX9_take_35 : decode prog_11_method_2_code 35 = .ok (.getfield 18, 3) := by decide +kernel
theorem dX9_take_38 : decode prog_11_method_2_code 38 = .ok (.iconst 0, 1) := by decide +kernel
theorem dX9_take_39 : decode prog_11_method_2_code 39 = .ok (.bipush 10, 2) := by decide +kernel
theorem dX9_take_41 : decode prog_11_method_2_code 41 = .ok (.invokestatic 30, 3) := by decide +kernel
theorem dX9_take_44 : decode prog_11_method_2_code 44 = .ok (.aload_n 1, 1) := by decide +kernel
theorem dX9_take_45 : decode prog_11_method_2_code 45 = .ok (.getfield 21, 3) := by decide +kernel
theorem dX9_take_48 : decode prog_11_method_2_code 48 = .ok (.iconst 0, 1) := by decide +kernel
theorem dX9_take_49 : decode prog_11_method_2_code 49 = .ok (.aload_n 0, 1) := by decide +kernel
theorem dX9_take_50 : decode prog_11_method_2_code 50 = .ok (.getfield 21, 3) := by decide +kernel
theorem dX9_take_53 : decode prog_11_method_2_code 53 = .ok (.iconst 0, 1) := by decide +kernel
theorem dX9_take_54 : decode prog_11_method_2_code 54 = .ok (.bipush 10, 2) := by decide +kernel
theorem dX9_take_56 : decode prog_11_method_2_code 56 = .ok (.invokestatic 30, 3) := by decide +kernel
theorem dX9_take_59 : decode prog_11_method_2_code 59 = .ok (.aload_n 1, 1) := by decide +kernel
theorem dX9_take_60 : decode prog_11_method_2_code 60 = .ok (.getfield 24, 3) := by decide +kernel
theorem dX9_take_63 : decode prog_11_method_2_code 63 = .ok (.iconst 0, 1) := by decide +kernel
theorem dX9_take_64 : decode prog_11_method_2_code 64 = .ok (.aload_n 0, 1) := by decide +kernel
theorem dX9_take_65 : decode prog_11_method_2_code 65 = .ok (.getfield 24, 3) := by decide +kernel
theorem dX9_take_68 : decode prog_11_method_2_code 68 = .ok (.iconst 0, 1) := by decide +kernel
theorem dX9_take_69 : decode prog_11_method_2_code 69 = .ok (.bipush 8, 2) := by decide +kernel
theorem dX9_take_71 : decode prog_11_method_2_code 71 = .ok (.invokestatic 30, 3) := by decide +kernel
theorem dX9_take_74 : decode prog_11_method_2_code 74 = .ok (.aload_n 1, 1) := by decide +kernel
theorem dX9_take_75 : decode prog_11_method_2_code 75 = .ok (.getfield 27, 3) := by decide +kernel
theorem dX9_take_78 : decode prog_11_method_2_code 78 = .ok (.iconst 0, 1) := by decide +kernel
theorem dX9_take_79 : decode prog_11_method_2_code 79 = .ok (.aload_n 0, 1) := by decide +kernel
theorem dX9_take_80 : decode prog_11_method_2_code 80 = .ok (.getfield 27, 3) := by decide +kernel
theorem dX9_take_83 : decode prog_11_method_2_code 83 = .ok (.iconst 0, 1) := by decide +kernel
theorem dX9_take_84 : decode prog_11_method_2_code 84 = .ok (.bipush 8, 2) := by decide +kernel
theorem dX9_take_86 : decode prog_11_method_2_code 86 = .ok (.invokestatic 30, 3) := by decide +kernel
theorem dX9_take_89 : decode prog_11_method_2_code 89 = .ok (.aload_n 0, 1) := by decide +kernel
theorem dX9_take_90 : decode prog_11_method_2_code 90 = .ok (.aload_n 1, 1) := by decide +kernel
theorem dX9_take_91 : decode prog_11_method_2_code 91 = .ok (.getfield 36, 3) := by decide +kernel
theorem dX9_take_94 : decode prog_11_method_2_code 94 = .ok (.putfield 36, 3) := by decide +kernel
theorem dX9_take_97 : decode prog_11_method_2_code 97 = .ok (.aload_n 0, 1) := by decide +kernel
theorem dX9_take_98 : decode prog_11_method_2_code 98 = .ok (.aload_n 1, 1) := by decide +kernel
theorem dX9_take_99 : decode prog_11_method_2_code 99 = .ok (.getfield 40, 3) := by decide +kernel
theorem dX9_take_102 : decode prog_11_method_2_code 102 = .ok (.putfield 40, 3) := by decide +kernel
theorem dX9_take_105 : decode prog_11_method_2_code 105 = .ok (.aload_n 0, 1) := by decide +kernel
theorem dX9_take_106 : decode prog_11_method_2_code 106 = .ok (.aload_n 1, 1) := by decide +kernel
theorem dX9_take_107 : decode prog_11_method_2_code 107 = .ok (.getfield 43, 3) := by decide +kernel
theorem dX9_take_110 : decode prog_11_method_2_code 110 = .ok (.putfield 43, 3) := by decide +kernel
theorem dX9_take_113 : decode prog_11_method_2_code 113 = .ok (.aload_n 0, 1) := by decide +kernel
theorem dX9_take_114 : decode prog_11_method_2_code 114 = .ok (.aload_n 1, 1) := by decide +kernel
theorem dX9_take_115 : decode prog_11_method_2_code 115 = .ok (.getfield 46, 3) := by decide +kernel
theorem dX9_take_118 : decode prog_11_method_2_code 118 = .ok (.putfield 46, 3) := by decide +kernel
theorem dX9_take_121 : decode prog_11_method_2_code 121 = .ok (.return_, 1) := by decide +kernel
theorem dX10_take_0 : decode prog_12_method_2_code 0 = .ok (.aload_n 1, 1) := by decide +kernel
theorem dX10_take_1 : decode prog_12_method_2_code 1 = .ok (.getfield 9, 3) := by decide +kernel
theorem dX10_take_4 : decode prog_12_method_2_code 4 = .ok (.iconst 0, 1) := by decide +kernel
theorem dX10_take_5 : decode prog_12_method_2_code 5 = .ok (.aload_n 0, 1) := by decide +kernel
theorem dX10_take_6 : decode prog_12_method_2_code 6 = .ok (.getfield 9, 3) := by decide +kernel
theorem dX10_take_9 : decode prog_12_method_2_code 9 = .ok (.iconst 0, 1) := by decide +kernel
theorem dX10_take_10 : decode prog_12_method_2_code 10 = .ok (.bipush 8, 2) := by decide +kernel
theorem dX10_take_12 : decode prog_12_method_2_code 12 = .ok (.invokestatic 55, 3) := by decide +kernel
theorem dX10_take_15 : decode prog_12_method_2_code 15 = .ok (.aload_n 1, 1) := by decide +kernel
theorem dX10_take_16 : decode prog_12_method_2_code 16 = .ok (.getfield 15, 3) := by decide +kernel
theorem dX10_take_19 : decode prog_12_method_2_code 19 = .ok (.iconst 0, 1) := by decide +kernel
theorem dX10_take_20 : decode prog_12_method_2_code 20 = .ok (.aload_n 0, 1) := by decide +kernel
theorem dX10_take_21 : decode prog_12_method_2_code 21 = .ok (.getfield 15, 3) := by decide +kernel
theorem dX10_take_24 : decode prog_12_method_2_code 24 = .ok (.iconst 0, 1) := by decide +kernel
theorem dX10_take_25 : decode prog_12_method_2_code 25 = .ok (.bipush 8, 2) := by decide +kernel
theorem dX10_take_27 : decode prog_12_method_2_code 27 = .ok (.invokestatic 55, 3) := by decide +kernel
theorem dX10_take_30 : decode prog_12_method_2_code 30 = .ok (.aload_n 1, 1) := by decide +kernel
theorem dX10_take_31 : decode prog_12_method_2_code 31 = .ok (.getfield 18, 3) := by decide +kernel
theorem dX10_take_34 : decode prog_12_method_2_code 34 = .ok (.iconst 0, 1) := by decide +kernel
theorem dX10_take_35 : decode prog_12_method_2_code 35 = .ok (.aload_n 0, 1) := by decide +kernel
theorem dX10_take_36 : decode prog_12_method_2_code 36 = .ok (.getfield 18, 3) := by decide +kernel
theorem dX10_take_39 : decode prog_12_method_2_code 39 = .ok (.iconst 0, 1) := by decide +kernel
theorem dX10_take_40 : decode prog_12_method_2_code 40 = .ok (.bipush 8, 2) := by decide +kernel
theorem dX10_take_42 : decode prog_12_method_2_code 42 = .ok (.invokestatic 55, 3) := by decide +kernel
theorem dX10_take_45 : decode prog_12_method_2_code 45 = .ok (.aload_n 1, 1) := by decide +kernel
theorem dX10_take_46 : decode prog_12_method_2_code 46 = .ok (.getfield 21, 3) := by decide +kernel
theorem dX10_take_49 : decode prog_12_method_2_code 49 = .ok (.iconst 0, 1) := by decide +kernel
theorem dX10_take_50 : decode prog_12_method_2_code 50 = .ok (.aload_n 0, 1) := by decide +kernel
theorem dX10_take_51 : decode prog_12_method_2_code 51 = .ok (.getfield 21, 3) := by decide +kernel
theorem dX10_take_54 : decode prog_12_method_2_code 54 = .ok (.iconst 0, 1) := by decide +kernel
theorem dX10_take_55 : decode prog_12_method_2_code 55 = .ok (.bipush 8, 2) := by decide +kernel
theorem dX10_take_57 : decode prog_12_method_2_code 57 = .ok (.invokestatic 55, 3) := by decide +kernel
theorem dX10_take_60 : decode prog_12_method_2_code 60 = .ok (.aload_n 1, 1) := by decide +kernel
theorem dX10_take_61 : decode prog_12_method_2_code 61 = .ok (.getfield 35, 3) := by decide +kernel
theorem dX10_take_64 : decode prog_12_method_2_code 64 = .ok (.iconst 0, 1) := by decide +kernel
theorem dX10_take_65 : decode prog_12_method_2_code 65 = .ok (.aload_n 0, 1) := by decide +kernel
theorem dX10_take_66 : decode prog_12_method_2_code 66 = .ok (.getfield 35, 3) := by decide +kernel
theorem dX10_take_69 : decode prog_12_method_2_code 69 = .ok (.iconst 0, 1) := by decide +kernel
theorem dX10_take_70 : decode prog_12_method_2_code 70 = .ok (.bipush 120, 2) := by decide +kernel
theorem dX10_take_72 : decode prog_12_method_2_code 72 = .ok (.invokestatic 55, 3) := by decide +kernel
theorem dX10_take_75 : decode prog_12_method_2_code 75 = .ok (.iconst 0, 1) := by decide +kernel
theorem dX10_take_76 : decode prog_12_method_2_code 76 = .ok (.istore_n 2, 1) := by decide +kernel
theorem dX10_take_77 : decode prog_12_method_2_code 77 = .ok (.iload_n 2, 1) := by decide +kernel
theorem dX10_take_78 : decode prog_12_method_2_code 78 = .ok (.iconst 4, 1) := by decide +kernel
theorem dX10_take_79 : decode prog_12_method_2_code 79 = .ok (.if_icmp .ge 21, 3) := by decide +kernel
theorem dX10_take_82 : decode prog_12_method_2_code 82 = .ok (.aload_n 0, 1) := by decide +kernel
theorem dX10_take_83 : decode prog_12_method_2_code 83 = .ok (.getfield 40, 3) := by decide +kernel
theorem dX10_take_86 : decode prog_12_method_2_code 86 = .ok (.iload_n 2, 1) := by decide +kernel
theorem dX10_take_87 : decode prog_12_method_2_code 87 = .ok (.aload_n 1, 1) := by decide +kernel
theorem dX10_take_88 : decode prog_12_method_2_code 88 = .ok (.getfield 40, 3) := by decide +kernel
theorem dX10_take_91 : decode prog_12_method_2_code 91 = .ok (.iload_n 2, 1) := by decide +kernel
theorem dX10_take_92 : decode prog_12_method_2_code 92 = .ok (.aaload, 1) := by decide +kernel
theorem dX10_take_93 : decode prog_12_method_2_code 93 = .ok (.aastore, 1) := by decide +kernel
theorem dX10_take_94 : decode prog_12_method_2_code 94 = .ok (.iinc 2 1, 3) := by decide +kernel
theorem dX10_take_97 : decode prog_12_method_2_code 97 = .ok (.goto (-20), 3) := by decide +kernel
theorem dX10_take_100 : decode prog_12_method_2_code 100 = .ok (.iconst 0, 1) := by decide +kernel
theorem dX10_take_101 : decode prog_12_method_2_code 101 = .ok (.istore_n 2, 1) := by decide +kernel
theorem dX10_take_102 : decode prog_12_method_2_code 102 = .ok (.iload_n 2, 1) := by decide +kernel
theorem dX10_take_103 : decode prog_12_method_2_code 103 = .ok (.bipush 30, 2) := by decide +kernel
theorem dX10_take_105 : decode prog_12_method_2_code 105 = .ok (.if_icmp .ge 24, 3) := by decide +kernel
theorem dX10_take_108 : decode prog_12_method_2_code 108 = .ok (.aload_n 0, 1) := by decide +kernel
theorem dX10_take_109 : decode prog_12_method_2_code 109 = .ok (.getfield 31, 3) := by decide +kernel
theorem dX10_take_112 : decode prog_12_method_2_code 112 = .ok (.iload_n 2, 1) := by decide +kernel
theorem dX10_take_113 : decode prog_12_method_2_code 113 = .ok (.aaload, 1) := by decide +kernel
theorem dX10_take_114 : decode prog_12_method_2_code 114 = .ok (.aload_n 1, 1) := by decide +kernel
theorem dX10_take_115 : decode prog_12_method_2_code 115 = .ok (.getfield 31, 3) := by decide +kernel
theorem dX10_take_118 : decode prog_12_method_2_code 118 = .ok (.iload_n 2, 1) := by decide +kernel
theorem dX10_take_119 : decode prog_12_method_2_code 119 = .ok (.aaload, 1) := by decide +kernel
theorem dX10_take_120 : decode prog_12_method_2_code 120 = .ok (.invokevirtual 61, 3) := by decide +kernel
theorem dX10_take_123 : decode prog_12_method_2_code 123 = .ok (.iinc 2 1, 3) := by decide +kernel
theorem dX10_take_126 : decode prog_12_method_2_code 126 = .ok (.goto (-24), 3) := by decide +kernel
theorem dX10_take_129 : decode prog_12_method_2_code 129 = .ok (.aload_n 0, 1) := by decide +kernel
theorem dX10_take_130 : decode prog_12_method_2_code 130 = .ok (.getfield 27, 3) := by decide +kernel
theorem dX10_take_133 : decode prog_12_method_2_code 133 = .ok (.aload_n 1, 1) := by decide +kernel
theorem dX10_take_134 : decode prog_12_method_2_code 134 = .ok (.getfield 27, 3) := by decide +kernel
theorem dX10_take_137 : decode prog_12_method_2_code 137 = .ok (.invokevirtual 61, 3) := by decide +kernel
theorem dX10_take_140 : decode prog_12_method_2_code 140 = .ok (.aload_n 0, 1) := by decide +kernel
theorem dX10_take_141 : decode prog_12_method_2_code 141 = .ok (.getfield 47, 3) := by decide +kernel
theorem dX10_take_144 : decode prog_12_method_2_code 144 = .ok (.aload_n 1, 1) := by decide +kernel
theorem dX10_take_145 : decode prog_12_method_2_code 145 = .ok (.getfield 47, 3) := by decide +kernel
theorem dX10_take_148 : decode prog_12_method_2_code 148 = .ok (.invokevirtual 65, 3) := by decide +kernel
theorem dX10_take_151 : decode prog_12_method_2_code 151 = .ok (.aload_n 0, 1) := by decide +kernel
theorem dX10_take_152 : decode prog_12_method_2_code 152 = .ok (.aload_n 1, 1) := by decide +kernel
theorem dX10_take_153 : decode prog_12_method_2_code 153 = .ok (.getfield 68, 3) := by decide +kernel
theorem dX10_take_156 : decode prog_12_method_2_code 156 = .ok (.putfield 68, 3) := by decide +kernel
theorem dX10_take_159 : decode prog_12_method_2_code 159 = .ok (.aload_n 0, 1) := by decide +kernel
theorem dX10_take_160 : decode prog_12_method_2_code 160 = .ok (.aload_n 1, 1) := by decide +kernel
theorem dX10_take_161 : decode prog_12_method_2_code 161 = .ok (.getfield 71, 3) := by decide +kernel
theorem dX10_take_164 : decode prog_12_method_2_code 164 = .ok (.putfield 71, 3) := by decide +kernel
theorem dX10_take_167 : decode prog_12_method_2_code 167 = .ok (.aload_n 0, 1) := by decide +kernel
theorem dX10_take_168 : decode prog_12_method_2_code 168 = .ok (.aload_n 1, 1) := by decide +kernel
theorem dX10_take_169 : decode prog_12_method_2_code 169 = .ok (.getfield 74, 3) := by decide +kernel
theorem dX10_take_172 : decode prog_12_method_2_code 172 = .ok (.putfield 74, 3) := by decide +kernel
theorem dX10_take_175 : decode prog_12_method_2_code 175 = .ok (.aload_n 0, 1) := by decide +kernel
theorem dX10_take_176 : decode prog_12_method_2_code 176 = .ok (.aload_n 1, 1) := by decide +kernel
theorem dX10_take_177 : decode prog_12_method_2_code 177 = .ok (.getfield 51, 3) := by decide +kernel
theorem dX10_take_180 : decode prog_12_method_2_code 180 = .ok (.putfield 51, 3) := by decide +kernel
theorem dX10_take_183 : decode prog_12_method_2_code 183 = .ok (.return_, 1) := by decide +kernel
theorem cw_X9_30 : Cond.methodLink RX9 30 arraycopyName ∈ bigW ∧ Cond.native arraycopyName ∈ bigW ∧ Cond.static arraycopyName ∈ bigW ∧ Cond.initialized "java/lang/System" ∈ bigW := ⟨bw_in (lwt_2 (List.mem_of_getElem? (i := 206) rfl)) rfl, bw_in (lwt_2 (List.mem_of_getElem? (i := 196) rfl)) rfl, bw_in (lwt_2 (List.mem_of_getElem? (i := 195) rfl)) rfl, bw_in (lwt_1 (List.mem_of_getElem? (i := 12) rfl)) rfl⟩
theorem cw_X10_55 : Cond.methodLink RX10 55 arraycopyName ∈ bigW ∧ Cond.native arraycopyName ∈ bigW ∧ Cond.static arraycopyName ∈ bigW ∧ Cond.initialized "java/lang/System" ∈ bigW := ⟨bw_in (lwt_2 (List.mem_of_getElem? (i := 194) rfl)) rfl, bw_in (lwt_2 (List.mem_of_getElem? (i := 196) rfl)) rfl, bw_in (lwt_2 (List.mem_of_getElem? (i := 195) rfl)) rfl, bw_in (lwt_1 (List.mem_of_getElem? (i := 12) rfl)) rfl⟩
theorem sp_X9_take_k (cs : CS S R) (hn : 1 ≤ n) (hp : ∀ J, ((∀ i, 6 ≤ i → i ≤ 9 → J 152 i = I 13 i) ∧ (∀ i, i < 4 → J 153 i = I 14 i) ∧ (∀ i, i < 6 → J 154 i = I 15 i) ∧ (∀ i, i < 10 → J 155 i = I 16 i ∧ J 156 i = I 17 i) ∧ (∀ i, i < 8 → J 157 i = I 18 i ∧ J 158 i = I 19 i)) → (∀ c, (c < 152 ∨ 158 < c) → J c = I c) → Post none S J R) : Call n 0 0 mX9_take [.ref (S.2.1 152), .ref (S.2.1 13)] S I R Post := by
  refine Call.of (by decide +kernel) (Nat.le_of_ble_eq_true rfl) ?_
  show WP _ _ _ _ _ 0 [(0, _), (1, _)] [] 0 0 _ _ _
  refine x_aload_n dX9_take_0 rfl ?_
  refine x_getR (b := 14) dX9_take_1 gf_RX9_9 (k_ob_13 cs) (fun _ _ => rfl) (k_r_13_0 cs) ?_
  refine x_iconst dX9_take_4 ?_
  refine x_aload_n dX9_take_5 rfl ?_
  refine x_getR (b := 153) dX9_take_6 gf_RX9_9 (k_ob_152 cs) (fun _ _ => rfl) (k_r_152_0 cs) ?_
  refine x_iconst dX9_take_9 ?_
  refine x_iconst dX9_take_10 ?_
  refine x_copyi (a := 14) (b := 153) dX9_take_11 cw_X9_30 (by omega) (Nat.le_of_ble_eq_true rfl) (N0 := 4) (N1 := 4) (k_ar_14 cs) (k_ar_153 cs) (by omega) (by omega) (by omega) ?_
  refine x_aload_n dX9_take_14 rfl ?_
  refine x_getR (b := 15) dX9_take_15 gf_RX9_15 (k_ob_13 cs) (fun _ _ => rfl) (k_r_13_1 cs) ?_
  refine x_iconst dX9_take_18 ?_
  refine x_aload_n dX9_take_19 rfl ?_
  refine x_getR (b := 154) dX9_take_20 gf_RX9_15 (k_ob_152 cs) (fun _ _ => rfl) (k_r_152_1 cs) ?_
  refine x_iconst dX9_take_23 ?_
  refine x_bipush dX9_take_24 (by decide) ?_
  refine x_copyi (a := 15) (b := 154) dX9_take_26 cw_X9_30 (by omega) (Nat.le_of_ble_eq_true rfl) (N0 := 6) (N1 := 6) (k_ar_15 cs) (k_ar_154 cs) (by omega) (by omega) (by omega) ?_
  refine x_aload_n dX9_take_29 rfl ?_
  refine x_getR (b := 16) dX9_take_30 gf_RX9_18 (k_ob_13 cs) (fun _ _ => rfl) (k_r_13_2 cs) ?_
  refine x_iconst dX9_take_33 ?_
  refine x_aload_n dX9_take_34 rfl ?_
  refine x_getR (b := 155) dX9_take_35 gf_RX9_18 (k_ob_152 cs) (fun _ _ => rfl) (k_r_152_2 cs) ?_
  refine x_iconst dX9_take_38 ?_
  refine x_bipush dX9_take_39 (by decide) ?_
  refine x_copyi (a := 16) (b := 155) dX9_take_41 cw_X9_30 (by omega) (Nat.le_of_ble_eq_true rfl) (N0 := 10) (N1 := 10) (k_ar_16 cs) (k_ar_155 cs) (by omega) (by omega) (by omega) ?_
  refine x_aload_n dX9_take_44 rfl ?_
  refine x_getR (b := 17) dX9_take_45 gf_RX9_21 (k_ob_13 cs) (fun _ _ => rfl) (k_r_13_3 cs) ?_
  refine x_iconst dX9_take_48 ?_
  refine x_aload_n dX9_take_49 rfl ?_
  refine x_getR (b := 156) dX9_take_50 gf_RX9_21 (k_ob_152 cs) (fun _ _ => rfl) (k_r_152_3 cs) ?_
  refine x_iconst dX9_take_53 ?_
  refine x_bipush dX9_take_54 (by decide) ?_
  refine x_copyi (a := 17) (b := 156) dX9_take_56 cw_X9_30 (by omega) (Nat.le_of_ble_eq_true rfl) (N0 := 10) (N1 := 10) (k_ar_17 cs) (k_ar_156 cs) (by omega) (by omega) (by omega) ?_
  refine x_aload_n dX9_take_59 rfl ?_
  refine x_getR (b := 18) dX9_take_60 gf_RX9_24 (k_ob_13 cs) (fun _ _ => rfl) (k_r_13_4 cs) ?_
  refine x_iconst dX9_take_63 ?_
  refine x_aload_n dX9_take_64 rfl ?_
  refine x_getR (b := 157) dX9_take_65 gf_RX9_24 (k_ob_152 cs) (fun _ _ => rfl) (k_r_152_4 cs) ?_
  refine x_iconst dX9_take_68 ?_
  refine x_bipush dX9_take_69 (by decide) ?_
  refine x_copyi (a := 18) (b := 157) dX9_take_71 cw_X9_30 (by omega) (Nat.le_of_ble_eq_true rfl) (N0 := 8) (N1 := 8) (k_ar_18 cs) (k_ar_157 cs) (by omega) (by omega) (by omega) ?_
  refine x_aload_n dX9_take_74 rfl ?_
  refine x_getR (b := 19) dX9_take_75 gf_RX9_27 (k_ob_13 cs) (fun _ _ => rfl) (k_r_13_5 cs) ?_
  refine x_iconst dX9_take_78 ?_
  refine x_aload_n dX9_take_79 rfl ?_
  refine x_getR (b := 158) dX9_take_80 gf_RX9_27 (k_ob_152 cs) (fun _ _ => rfl) (k_r_152_5 cs) ?_
  refine x_iconst dX9_take_83 ?_
  refine x_bipush dX9_take_84 (by decide) ?_
  refine x_copyi (a := 19) (b := 158) dX9_take_86 cw_X9_30 (by omega) (Nat.le_of_ble_eq_true rfl) (N0 := 8) (N1 := 8) (k_ar_19 cs) (k_ar_158 cs) (by omega) (by omega) (by omega) ?_
  refine x_aload_n dX9_take_89 rfl ?_
  refine x_aload_n dX9_take_90 rfl ?_
  refine x_getIv (z := I 13 6) dX9_take_91 gf_RX9_36 (k_ob_13 cs) (fun _ _ => rfl) (by (repeat first | rw [uI_o (by omega)] | rw [cpI_o (by omega)])) ?_
  refine x_putI dX9_take_94 gf_RX9_36 (k_ob_152 cs) rfl ?_
  refine x_aload_n dX9_take_97 rfl ?_
  refine x_aload_n dX9_take_98 rfl ?_
  refine x_getIv (z := I 13 7) dX9_take_99 gf_RX9_40 (k_ob_13 cs) (fun _ _ => rfl) (by (repeat first | rw [uI_o (by omega)] | rw [cpI_o (by omega)])) ?_
  refine x_putI dX9_take_102 gf_RX9_40 (k_ob_152 cs) rfl ?_
  refine x_aload_n dX9_take_105 rfl ?_
  refine x_aload_n dX9_take_106 rfl ?_
  refine x_getIv (z := I 13 8) dX9_take_107 gf_RX9_43 (k_ob_13 cs) (fun _ _ => rfl) (by (repeat first | rw [uI_o (by omega)] | rw [cpI_o (by omega)])) ?_
  refine x_putI dX9_take_110 gf_RX9_43 (k_ob_152 cs) rfl ?_
  refine x_aload_n dX9_take_113 rfl ?_
  refine x_aload_n dX9_take_114 rfl ?_
  refine x_getIv (z := I 13 9) dX9_take_115 gf_RX9_46 (k_ob_13 cs) (fun _ _ => rfl) (by (repeat first | rw [uI_o (by omega)] | rw [cpI_o (by omega)])) ?_
  refine x_putI dX9_take_118 gf_RX9_46 (k_ob_152 cs) rfl ?_
  exact x_return dX9_take_121 rfl (by omega) (by omega) (hp _ ⟨fun i h1 h2 => by
    rcases (show i = 6 ∨ i = 7 ∨ i = 8 ∨ i = 9 by omega) with rfl | rfl | rfl | rfl <;> (repeat first | rw [uI_s] | rw [uI_o (by omega)]), fun i hi => (by (repeat rw [uI_o (by omega)]); (repeat rw [cpI_o (by omega)]); rw [cpI_s (by omega)]; (repeat rw [cpI_o (by omega)]); rw [show Int.toNat 0 + (i - Int.toNat 0) = i by show 0 + (i - 0) = i; omega]), fun i hi => (by (repeat rw [uI_o (by omega)]); (repeat rw [cpI_o (by omega)]); rw [cpI_s (by omega)]; (repeat rw [cpI_o (by omega)]); rw [show Int.toNat 0 + (i - Int.toNat 0) = i by show 0 + (i - 0) = i; omega]), fun i hi => ⟨(by (repeat rw [uI_o (by omega)]); (repeat rw [cpI_o (by omega)]); rw [cpI_s (by omega)]; (repeat rw [cpI_o (by omega)]); rw [show Int.toNat 0 + (i - Int.toNat 0) = i by show 0 + (i - 0) = i; omega]), (by (repeat rw [uI_o (by omega)]); (repeat rw [cpI_o (by omega)]); rw [cpI_s (by omega)]; (repeat rw [cpI_o (by omega)]); rw [show Int.toNat 0 + (i - Int.toNat 0) = i by show 0 + (i - 0) = i; omega])⟩, fun i hi => ⟨(by (repeat rw [uI_o (by omega)]); (repeat rw [cpI_o (by omega)]); rw [cpI_s (by omega)]; (repeat rw [cpI_o (by omega)]); rw [show Int.toNat 0 + (i - Int.toNat 0) = i by show 0 + (i - 0) = i; omega]), (by (repeat rw [uI_o (by omega)]); (repeat rw [cpI_o (by omega)]); rw [cpI_s (by omega)]; (repeat rw [cpI_o (by omega)]); rw [show Int.toNat 0 + (i - Int.toNat 0) = i by show 0 + (i - 0) = i; omega])⟩⟩ (fun c hc => by
    funext q
    (repeat rw [uI_o (by omega)]); (repeat rw [cpI_o (by omega)])))
theorem sp_X9_take_b (cs : CS S R) (hn : 1 ≤ n) (hp : ∀ J, ((∀ i, 6 ≤ i → i ≤ 9 → J 13 i = I 152 i) ∧ (∀ i, i < 4 → J 14 i = I 153 i) ∧ (∀ i, i < 6 → J 15 i = I 154 i) ∧ (∀ i, i < 10 → J 16 i = I 155 i ∧ J 17 i = I 156 i) ∧ (∀ i, i < 8 → J 18 i = I 157 i ∧ J 19 i = I 158 i)) → (∀ c, (c < 13 ∨ 19 < c) → J c = I c) → Post none S J R) : Call n 0 0 mX9_take [.ref (S.2.1 13), .ref (S.2.1 152)] S I R Post := by
  refine Call.of (by decide +kernel) (Nat.le_of_ble_eq_true rfl) ?_
  show WP _ _ _ _ _ 0 [(0, _), (1, _)] [] 0 0 _ _ _
  refine x_aload_n dX9_take_0 rfl ?_
  refine x_getR (b := 153) dX9_take_1 gf_RX9_9 (k_ob_152 cs) (fun _ _ => rfl) (k_r_152_0 cs) ?_
  refine x_iconst dX9_take_4 ?_
  refine x_aload_n dX9_take_5 rfl ?_
  refine x_getR (b := 14) dX9_take_6 gf_RX9_9 (k_ob_13 cs) (fun _ _ => rfl) (k_r_13_0 cs) ?_
  refine x_iconst dX9_take_9 ?_
  refine x_iconst dX9_take_10 ?_
  refine x_copyi (a := 153) (b := 14) dX9_take_11 cw_X9_30 (by omega) (Nat.le_of_ble_eq_true rfl) (N0 := 4) (N1 := 4) (k_ar_153 cs) (k_ar_14 cs) (by omega) (by omega) (by omega) ?_
  refine x_aload_n dX9_take_14 rfl ?_
  refine x_getR (b := 154) dX9_take_15 gf_RX9_15 (k_ob_152 cs) (fun _ _ => rfl) (k_r_152_1 cs) ?_
  refine x_iconst dX9_take_18 ?_
  refine x_aload_n dX9_take_19 rfl ?_
  refine x_getR (b := 15) dX9_take_20 gf_RX9_15 (k_ob_13 cs) (fun _ _ => rfl) (k_r_13_1 cs) ?_
  refine x_iconst dX9_take_23 ?_
  refine x_bipush dX9_take_24 (by decide) ?_
  refine x_copyi (a := 154) (b := 15) dX9_take_26 cw_X9_30 (by omega) (Nat.le_of_ble_eq_true rfl) (N0 := 6) (N1 := 6) (k_ar_154 cs) (k_ar_15 cs) (by omega) (by omega) (by omega) ?_
  refine x_aload_n dX9_take_29 rfl ?_
  refine x_getR (b := 155) dX9_take_30 gf_RX9_18 (k_ob_152 cs) (fun _ _ => rfl) (k_r_152_2 cs) ?_
  refine x_iconst dX9_take_33 ?_
  refine x_aload_n dX9_take_34 rfl ?_
  refine x_getR (b := 16) dX9_take_35 gf_RX9_18 (k_ob_13 cs) (fun _ _ => rfl) (k_r_13_2 cs) ?_
  refine x_iconst dX9_take_38 ?_
  refine x_bipush dX9_take_39 (by decide) ?_
  refine x_copyi (a := 155) (b := 16) dX9_take_41 cw_X9_30 (by omega) (Nat.le_of_ble_eq_true rfl) (N0 := 10) (N1 := 10) (k_ar_155 cs) (k_ar_16 cs) (by omega) (by omega) (by omega) ?_
  refine x_aload_n dX9_take_44 rfl ?_
  refine x_getR (b := 156) dX9_take_45 gf_RX9_21 (k_ob_152 cs) (fun _ _ => rfl) (k_r_152_3 cs) ?_
  refine x_iconst dX9_take_48 ?_
  refine x_aload_n dX9_take_49 rfl ?_
  refine x_getR (b := 17) dX9_take_50 gf_RX9_21 (k_ob_13 cs) (fun _ _ => rfl) (k_r_13_3 cs) ?_
  refine x_iconst dX9_take_53 ?_
  refine x_bipush dX9_take_54 (by decide) ?_
  refine x_copyi (a := 156) (b := 17) dX9_take_56 cw_X9_30 (by omega) (Nat.le_of_ble_eq_true rfl) (N0 := 10) (N1 := 10) (k_ar_156 cs) (k_ar_17 cs) (by omega) (by omega) (by omega) ?_
  refine x_aload_n dX9_take_59 rfl ?_
  refine x_getR (b := 157) dX9_take_60 gf_RX9_24 (k_ob_152 cs) (fun _ _ => rfl) (k_r_152_4 cs) ?_
  refine x_iconst dX9_take_63 ?_
  refine x_aload_n dX9_take_64 rfl ?_
  refine x_getR (b := 18) dX9_take_65 gf_RX9_24 (k_ob_13 cs) (fun _ _ => rfl) (k_r_13_4 cs) ?_
  refine x_iconst dX9_take_68 ?_
  refine x_bipush dX9_take_69 (by decide) ?_
  refine x_copyi (a := 157) (b := 18) dX9_take_71 cw_X9_30 (by omega) (Nat.le_of_ble_eq_true rfl) (N0 := 8) (N1 := 8) (k_ar_157 cs) (k_ar_18 cs) (by omega) (by omega) (by omega) ?_
  refine x_aload_n dX9_take_74 rfl ?_
  refine x_getR (b := 158) dX9_take_75 gf_RX9_27 (k_ob_152 cs) (fun _ _ => rfl) (k_r_152_5 cs) ?_
  refine x_iconst dX9_take_78 ?_
  refine x_aload_n dX9_take_79 rfl ?_
  refine x_getR (b := 19) dX9_take_80 gf_RX9_27 (k_ob_13 cs) (fun _ _ => rfl) (k_r_13_5 cs) ?_
  refine x_iconst dX9_take_83 ?_
  refine x_bipush dX9_take_84 (by decide) ?_
  refine x_copyi (a := 158) (b := 19) dX9_take_86 cw_X9_30 (by omega) (Nat.le_of_ble_eq_true rfl) (N0 := 8) (N1 := 8) (k_ar_158 cs) (k_ar_19 cs) (by omega) (by omega) (by omega) ?_
  refine x_aload_n dX9_take_89 rfl ?_
  refine x_aload_n dX9_take_90 rfl ?_
  refine x_getIv (z := I 152 6) dX9_take_91 gf_RX9_36 (k_ob_152 cs) (fun _ _ => rfl) (by (repeat first | rw [uI_o (by omega)] | rw [cpI_o (by omega)])) ?_
  refine x_putI dX9_take_94 gf_RX9_36 (k_ob_13 cs) rfl ?_
  refine x_aload_n dX9_take_97 rfl ?_
  refine x_aload_n dX9_take_98 rfl ?_
  refine x_getIv (z := I 152 7) dX9_take_99 gf_RX9_40 (k_ob_152 cs) (fun _ _ => rfl) (by (repeat first | rw [uI_o (by omega)] | rw [cpI_o (by omega)])) ?_
  refine x_putI dX9_take_102 gf_RX9_40 (k_ob_13 cs) rfl ?_
  refine x_aload_n dX9_take_105 rfl ?_
  refine x_aload_n dX9_take_106 rfl ?_
  refine x_getIv (z := I 152 8) dX9_take_107 gf_RX9_43 (k_ob_152 cs) (fun _ _ => rfl) (by (repeat first | rw [uI_o (by omega)] | rw [cpI_o (by omega)])) ?_
  refine x_putI dX9_take_110 gf_RX9_43 (k_ob_13 cs) rfl ?_
  refine x_aload_n dX9_take_113 rfl ?_
  refine x_aload_n dX9_take_114 rfl ?_
  refine x_getIv (z := I 152 9) dX9_take_115 gf_RX9_46 (k_ob_152 cs) (fun _ _ => rfl) (by (repeat first | rw [uI_o (by omega)] | rw [cpI_o (by omega)])) ?_
  refine x_putI dX9_take_118 gf_RX9_46 (k_ob_13 cs) rfl ?_
  exact x_return dX9_take_121 rfl (by omega) (by omega) (hp _ ⟨fun i h1 h2 => by
    rcases (show i = 6 ∨ i = 7 ∨ i = 8 ∨ i = 9 by omega) with rfl | rfl | rfl | rfl <;> (repeat first | rw [uI_s] | rw [uI_o (by omega)]), fun i hi => (by (repeat rw [uI_o (by omega)]); (repeat rw [cpI_o (by omega)]); rw [cpI_s (by omega)]; (repeat rw [cpI_o (by omega)]); rw [show Int.toNat 0 + (i - Int.toNat 0) = i by show 0 + (i - 0) = i; omega]), fun i hi => (by (repeat rw [uI_o (by omega)]); (repeat rw [cpI_o (by omega)]); rw [cpI_s (by omega)]; (repeat rw [cpI_o (by omega)]); rw [show Int.toNat 0 + (i - Int.toNat 0) = i by show 0 + (i - 0) = i; omega]), fun i hi => ⟨(by (repeat rw [uI_o (by omega)]); (repeat rw [cpI_o (by omega)]); rw [cpI_s (by omega)]; (repeat rw [cpI_o (by omega)]); rw [show Int.toNat 0 + (i - Int.toNat 0) = i by show 0 + (i - 0) = i; omega]), (by (repeat rw [uI_o (by omega)]); (repeat rw [cpI_o (by omega)]); rw [cpI_s (by omega)]; (repeat rw [cpI_o (by omega)]); rw [show Int.toNat 0 + (i - Int.toNat 0) = i by show 0 + (i - 0) = i; omega])⟩, fun i hi => ⟨(by (repeat rw [uI_o (by omega)]); (repeat rw [cpI_o (by omega)]); rw [cpI_s (by omega)]; (repeat rw [cpI_o (by omega)]); rw [show Int.toNat 0 + (i - Int.toNat 0) = i by show 0 + (i - 0) = i; omega]), (by (repeat rw [uI_o (by omega)]); (repeat rw [cpI_o (by omega)]); rw [cpI_s (by omega)]; (repeat rw [cpI_o (by omega)]); rw [show Int.toNat 0 + (i - Int.toNat 0) = i by show 0 + (i - 0) = i; omega])⟩⟩ (fun c hc => by
    funext q
    (repeat rw [uI_o (by omega)]); (repeat rw [cpI_o (by omega)])))
end Take
