/-! part 99g: one condition, turned or not, in brackets or not -/
def PX (o k : Nat) (f g : Hp → Option (Int32 × Hp)) : Prop := ∀ N T t R La Ma Hc Hm, St N T o t R La Ma Hc Hm → ∃ b Hc' Hm', f Hc = some (bI b, Hc') ∧ g Hm = some (nI 0, Hm') ∧ Rs N T o R La Ma k Hc Hm b Hc' Hm'
/-- where all is wrong, nothing goes on -/
def PWr (g : Hp → Option (Int32 × Hp)) : Prop := ∀ h, h 84 12 = nI 1 → g h = some (nI 0, h)
theorem Psh.le {k k' : Nat} {L M : List Nat} {c : (Nat → Nat) → Bool} (q : Psh k' L M c) (h : k ≤ k') : Psh k L M c := ⟨fun f P r hP => q.1 f P r (Nat.lt_of_lt_of_le hP (Nat.pow_le_pow_right (by decide) h)), q.2⟩
theorem Rs.le {N : Nat} {T : Nat → Nat} {o : Nat} {R : List Tok} {La Ma : List Nat} {k k' : Nat} {Hc Hm Hc' Hm' : Hp} {b : Bool} (q : Rs N T o R La Ma k' Hc Hm b Hc' Hm') (h : k ≤ k') : Rs N T o R La Ma k Hc Hm b Hc' Hm' := by
  obtain ⟨q1, q2, q3, q4⟩ := q
  refine ⟨q1, q2, q3, fun e => ?_⟩
  obtain ⟨t', R', L, M, c, x1, x0, x2, x3⟩ := q4 e
  exact ⟨t', R', L, M, c, x1, x0, x2, x3.le h⟩
theorem wr13 {h : Hp} {x : Int32} : FrM h (wr h 84 13 x) := ⟨fun c e _ => by rw [wr_c e], fun j e => by rw [wr_k (by omega)]⟩
theorem St.o13 {N : Nat} {T : Nat → Nat} {o o' : Nat} {t : Tok} {R : List Tok} {La Ma : List Nat} {Hc Hm : Hp} (S : St N T o t R La Ma Hc Hm) : St N T o' t R La Ma Hc (wr Hm 84 13 (nI o')) := by
  obtain ⟨cs, ms, s13, cc, cm, bc, bm⟩ := S
  refine ⟨cs, ms.c (by rw [wr_c (by decide)]) (fun j e _ => by rw [wr_k e]), wr_self, cc, ?_, bc, bm⟩
  unfold CoM
  rw [wr_k (by decide), wr_c (by decide)]
  exact cm
theorem body_ok {N : Nat} {T : Nat → Nat} {o : Nat} {t : Tok} {R : List Tok} {La Ma : List Nat} {Hc Hm : Hp} {a69 a70 a71 a72 c69 c70 c71 c72 : Int32 → Hp → Option (Int32 × Hp)} {b216 b217 b218 : Hp → Option (Int32 × Hp)} (hb : o < 3 → PX (o + 1) (2 * o + 2) (fun h => c69 (nI (o + 1)) h) b216) (hw : PWr b216) (ha : ∀ h, a72 (nI o) h = R_72_0 c69 c70 c71 c72 (nI o) h) (ho : o ≤ 3) (S : St N T o t R La Ma Hc Hm) : ∃ b Hc' Hm', (∀ v2, R_71_40 a69 a70 a71 a72 (nI o) v2 Hc = R_71_54 a69 a70 a71 a72 v2 (bI b) Hc') ∧ (∀ v1, R_218_22 b216 b217 b218 v1 Hm = R_218_144 b216 b217 b218 v1 Hm') ∧ Rs N T o R La Ma (2 * o + 2) Hc Hm b Hc' Hm' := by
  obtain ⟨cs, ms, s13, cc, cm, bc, bm⟩ := id S
  have q8 := cs.tok
  have lt := cs.lt
  by_cases c23 : t.1 = 23
  · have h27 : t.1 ≠ 27 := by omega
    have m40 := m_219t ms (x := 40) (c := 23) (by decide) (by decide) c23
    obtain ⟨t1, R1, rfl⟩ := ms.ne h27
    simp only [List.length_cons] at bc bm
    have eC : ∀ v2, R_71_40 a69 a70 a71 a72 (nI o) v2 Hc = bndI (R_72_0 c69 c70 c71 c72 (nI o) Hc) (R_71_54 a69 a70 a71 a72 v2) := fun v2 => by
      simp (disch := omega) only [R_71_40, R_71_49, L23, gd_t, bI_, bV_, bR_, and_self, and_true, true_and, ↓reduceIte, eq_self, oj_84, bI_1, bI_0, L0, L1, le_t, le_f, lt_t, lt_f, eq_t, eq_f, ncl, nI_add, nmul, nsub, ndiv, nrem, nrem', nrN, q8, ha]
    by_cases o3 : o < 3
    · obtain ⟨C1, gc1, cs1, fc1⟩ := c_adv cs h27
      obtain ⟨M1, gm1, ms1, fm1⟩ := m_go1 ms h27
      have s13' : M1 84 13 = nI o := by rw [fm1.2 13 (by decide) (by decide) (by decide) (by decide)]; exact s13
      have S1 : St N T (o + 1) t1 R1 La Ma C1 (wr M1 84 13 (nI (o + 1))) := St.o13 (o := o) ⟨cs1, ms1, s13', cc.a fc1, cm.a fm1, by omega, by omega⟩
      obtain ⟨b, C2, M2, g1, g2, r1, r2, r3, r4⟩ := hb o3 N T t1 R1 La Ma C1 (wr M1 84 13 (nI (o + 1))) S1
      have g1 : c69 (nI (o + 1)) C1 = some (bI b, C2) := g1
      have eM : ∀ v1, R_218_22 b216 b217 b218 v1 Hm = R_218_62 b216 b217 b218 v1 M2 := fun v1 => by
        simp (disch := omega) only [R_218_22, R_218_28, R_218_31, R_218_40, R_218_48, L40, L3, gd_t, bI_, bV_, bR_, and_self, and_true, true_and, ↓reduceIte, eq_self, oj_84, bI_1, bI_0, L0, L1, le_t, le_f, lt_t, lt_f, eq_t, eq_f, ncl, nI_add, nmul, nsub, ndiv, nrem, nrem', nrN, m40, s13, gm1, s13', g2]
      cases b with
      | false =>
        obtain ⟨x1, x2⟩ := r3 rfl
        have w41 := m_219w (v := nI 41) x2
        have w0 := m_gow (x := nI 0) x2
        refine ⟨false, C2, wr M2 84 13 (M2 84 13 - nI 1), fun v2 => ?_, fun v1 => ?_, fc1.c.tr r1, (fm1.m.tr wr13).tr (r2.tr wr13), fun _ => ⟨by rw [wr_k (by decide)]; exact x1, by rw [wr_k (by decide)]; exact x2⟩, (fun e => by cases e)⟩
        · rw [eC]
          simp (disch := omega) only [R_72_0, R_72_10, R_72_14, R_72_21, R_72_24, L3, gd_t, bI_, bV_, bR_, and_self, and_true, true_and, ↓reduceIte, eq_self, oj_84, bI_1, bI_0, L0, L1, le_t, le_f, lt_t, lt_f, eq_t, eq_f, ncl, nI_add, nmul, nsub, ndiv, nrem, nrem', nrN, gc1, g1]
        · rw [eM]
          simp (disch := omega) only [R_218_62, R_218_69, R_218_72, L41, R_218_144, gd_t, bI_, bV_, bR_, and_self, and_true, true_and, ↓reduceIte, eq_self, oj_84, bI_1, bI_0, L0, L1, le_t, le_f, lt_t, lt_f, eq_t, eq_f, ncl, nI_add, nmul, nsub, ndiv, nrem, nrem', nrN, w41, w0]
      | true =>
        obtain ⟨t2, R2, L, M, c, y1, y0, ⟨cs2, ms2, z13, cc2, cm2, bc2, bm2⟩, y3⟩ := r4 rfl
        have q82 := cs2.tok
        have lt2 := cs2.lt
        by_cases c24 : t2.1 = 24
        · have h272 : t2.1 ≠ 27 := by omega
          obtain ⟨t3, R3, rfl⟩ := ms2.ne h272
          simp only [List.length_cons] at bc2 bm2 y1 y0
          have m41 := m_219t ms2 (x := 41) (c := 24) (by decide) (by decide) c24
          obtain ⟨C3, gc3, cs3, fc3⟩ := c_adv cs2 h272
          obtain ⟨M3, gm3, ms3, fm3⟩ := m_go1 ms2 h272
          have z13' : M3 84 13 = nI (o + 1) := by rw [fm3.2 13 (by decide) (by decide) (by decide) (by decide)]; exact z13
          have S3 : St N T (o + 1) t3 R3 (La ++ L) (Ma ++ M) C3 M3 := ⟨cs3, ms3, z13', cc2.a fc3, cm2.a fm3, by omega, by omega⟩
          refine ⟨true, C3, wr M3 84 13 (nI o), fun v2 => ?_, fun v1 => ?_, (fc1.c.tr r1).tr fc3.c, ((fm1.m.tr wr13).tr r2).tr (fm3.m.tr wr13), (fun e => by cases e), fun _ => ⟨t3, R3, L, M, c, by simp only [List.length_cons]; omega, by simp only [List.length_cons]; omega, S3.o13, y3⟩⟩
          · rw [eC]
            simp (disch := omega) only [R_72_0, R_72_10, R_72_14, R_72_21, R_72_26, R_72_40, R_72_44, L3, L24, gd_t, bI_, bV_, bR_, and_self, and_true, true_and, ↓reduceIte, eq_self, oj_84, bI_1, bI_0, L0, L1, le_t, le_f, lt_t, lt_f, eq_t, eq_f, ncl, nI_add, nmul, nsub, ndiv, nrem, nrem', nrN, gc1, g1, q82, gc3]
          · rw [eM]
            have eo : nI (o + 1) - nI 1 = nI o := by rw [nsub (by omega)]; rfl
            simp (disch := omega) only [R_218_62, R_218_69, R_218_72, R_218_144, L41, gd_t, bI_, bV_, bR_, and_self, and_true, true_and, ↓reduceIte, eq_self, oj_84, bI_1, bI_0, L0, L1, m41, gm3, z13', eo]
        · have m41 := m_219f ms2 (x := 41) (c := 24) (by decide) (by decide) c24
          have gr := c_ref cs2
          have g0 := m_go0 ms2.2.1
          obtain ⟨-, -, -, -, -, -, e9, -⟩ := id ms2
          refine ⟨false, wr C2 21 3 (nI t2.2.1), wr (wr M2 84 12 (nI 1)) 84 13 (nI o), fun v2 => ?_, fun v1 => ?_, (fc1.c.tr r1).tr FrC.ref, ((fm1.m.tr wr13).tr r2).tr (FrM.w.tr wr13), fun _ => ⟨by rw [wr_self, wr_k (by decide), wr_k (by decide), e9], by rw [wr_k (by decide), wr_self]⟩, (fun e => by cases e)⟩
          · rw [eC]
            simp (disch := omega) only [R_72_0, R_72_10, R_72_14, R_72_21, R_72_26, R_72_35, R_72_39, L3, L24, gd_t, bI_, bV_, bR_, and_self, and_true, true_and, ↓reduceIte, eq_self, oj_84, bI_1, bI_0, L0, L1, le_t, le_f, lt_t, lt_f, eq_t, eq_f, ncl, nI_add, nmul, nsub, ndiv, nrem, nrem', nrN, gc1, g1, q82, gr, tor]
          · rw [eM]
            have eo : nI (o + 1) - nI 1 = nI o := by rw [nsub (by omega)]; rfl
            have ew : wr M2 84 12 (nI 1) 84 13 = nI (o + 1) := by rw [wr_k (by decide)]; exact z13
            simp (disch := omega) only [R_218_62, R_218_69, R_218_72, R_218_144, L41, gd_t, bI_, bV_, bR_, and_self, and_true, true_and, ↓reduceIte, eq_self, oj_84, bI_1, bI_0, L0, L1, m41, g0, ew, eo]
    · have gr := c_ref cs
      have g0 := m_go0 ms.2.1
      obtain ⟨-, -, -, -, -, -, e9, -⟩ := id ms
      have w1 := hw (wr (wr Hm 84 12 (nI 1)) 84 13 (nI (o + 1))) (by rw [wr_k (by decide), wr_self])
      have w41 := m_219w (v := nI 41) (h := wr (wr Hm 84 12 (nI 1)) 84 13 (nI (o + 1))) (by rw [wr_k (by decide), wr_self])
      have w0 := m_gow (x := nI 0) (h := wr (wr Hm 84 12 (nI 1)) 84 13 (nI (o + 1))) (by rw [wr_k (by decide), wr_self])
      have ew : wr Hm 84 12 (nI 1) 84 13 = nI o := by rw [wr_k (by decide)]; exact s13
      refine ⟨false, wr Hc 21 3 (nI t.2.1), wr (wr (wr Hm 84 12 (nI 1)) 84 13 (nI (o + 1))) 84 13 (nI o), fun v2 => ?_, fun v1 => ?_, FrC.ref, (FrM.w.tr wr13).tr wr13, fun _ => ⟨by rw [wr_self, wr_k (by decide), wr_k (by decide), wr_k (by decide), e9], by rw [wr_k (by decide), wr_k (by decide), wr_self]⟩, (fun e => by cases e)⟩
      · rw [eC]
        simp (disch := omega) only [R_72_0, R_72_5, R_72_9, L3, gd_t, bI_, bV_, bR_, and_self, and_true, true_and, ↓reduceIte, eq_self, oj_84, bI_1, bI_0, L0, L1, le_t, le_f, lt_t, lt_f, eq_t, eq_f, ncl, nI_add, nmul, nsub, ndiv, nrem, nrem', nrN, gr, tor]
      · have eo : nI (o + 1) - nI 1 = nI o := by rw [nsub (by omega)]; rfl
        have o3' : (nI 3 ≤ nI o) = True := le_t (by omega) (by omega)
        simp (disch := omega) only [R_218_22, R_218_28, R_218_31, R_218_44, R_218_48, R_218_62, R_218_69, R_218_72, R_218_144, L40, L41, L3, gd_t, bI_, bV_, bR_, and_self, and_true, true_and, ↓reduceIte, eq_self, oj_84, bI_1, bI_0, L0, L1, eq_f, nI_add, m40, s13, o3', g0, ew, w1, w41, w0, wr_self, eo]
  · have m40 := m_219f ms (x := 40) (c := 23) (by decide) (by decide) c23
    obtain ⟨b, Hc', Hm', g1, g2, r⟩ := cmp_ok S b216 b217 b218
    have e61 : R_71_61 a69 a70 a71 a72 = R_71_54 a69 a70 a71 a72 := rfl
    refine ⟨b, Hc', Hm', fun v2 => ?_, fun v1 => ?_, r.le (by omega)⟩
    · simp (disch := omega) only [R_71_40, R_71_57, L23, gd_t, bI_, bV_, bR_, and_self, and_true, true_and, ↓reduceIte, eq_self, oj_84, bI_1, bI_0, L0, L1, le_t, le_f, lt_t, lt_f, eq_t, eq_f, ncl, nI_add, nmul, nsub, ndiv, nrem, nrem', nrN, q8, g1, e61]
    · rw [← g2]
      simp (disch := omega) only [R_218_22, R_218_28, L40, gd_t, bI_, bV_, bR_, and_self, and_true, true_and, ↓reduceIte, eq_self, oj_84, bI_1, bI_0, L0, L1, le_t, le_f, lt_t, lt_f, eq_t, eq_f, ncl, nI_add, nmul, nsub, ndiv, nrem, nrem', nrN, m40]
