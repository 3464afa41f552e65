/-! part 80: bill, bars -/
theorem p_bill {v u : Int32} : Pub (S_115 v u) (S_254 v u) := by
  intro h I
  obtain ⟨⟨s, m, C⟩, D⟩ := id I
  obtain ⟨so, mo, hs, hm, q, h4⟩ := id C
  have hN := so.1
  cases hr : rng 0 4 v with
  | false => exact ⟨-nI 1, h, h, by simp (disch := omega) only [R_115_15, R_115_26, R_115_17, R_115_12, R_115_7, R_115_4, R_115_0, S_115, gd_t, bI_, bV_, bR_, and_self, and_true, true_and, ↓reduceIte, eq_self, oj_84, bI_1, bI_0, L0, L1, L9, L22, L31, L84, s_108, hr], by simp (disch := omega) only [R_254_15, R_254_23, R_254_17, R_254_12, R_254_7, R_254_4, R_254_0, S_254, gd_t, bI_, bV_, bR_, and_self, and_true, true_and, ↓reduceIte, eq_self, oj_84, bI_1, bI_0, L0, L1, L9, L22, L31, L84, s_247, hr], I⟩
  | true =>
    cases hr2 : rng 0 (2 ^ sN s - 1) u with
    | false => exact ⟨-nI 1, h, h, by simp (disch := omega) only [R_115_15, R_115_26, R_115_17, R_115_12, R_115_7, R_115_4, R_115_0, S_115, gd_t, bI_, bV_, bR_, and_self, and_true, true_and, ↓reduceIte, eq_self, oj_84, bI_1, bI_0, L0, L1, L9, L22, L31, L84, s_108, hr, s_116 hN hs.1.n, hr2, eq_f], by simp (disch := omega) only [R_254_15, R_254_23, R_254_17, R_254_12, R_254_7, R_254_4, R_254_0, S_254, gd_t, bI_, bV_, bR_, and_self, and_true, true_and, ↓reduceIte, eq_self, oj_84, bI_1, bI_0, L0, L1, L9, L22, L31, L84, s_247, hr, s_255 hN q.1.n, hr2, eq_f], I⟩
    | true =>
      obtain ⟨n, -, hn, rfl⟩ := rng_t hr
      obtain ⟨w, -, hw, rfl⟩ := rng_t hr2
      have hp := p2_64' hN
      have hp0 : 1 ≤ 2 ^ sN s := Nat.two_pow_pos _
      obtain ⟨h1, g1, s1, A⟩ := s_109 (w := w) so mo hs hm hn (by omega)
      have a1 : Agr h h1 := Agr.ofC s1
      obtain ⟨-, -, -, -, q1, h41⟩ := C.agr a1
      obtain ⟨h2, g2, a2, e22, e23⟩ := s_256 (w := w) so mo q1 h41 hn (by omega)
      have e255 := s_255 (v := nI w) (h := h1) hN q1.1.n
      refine ⟨h1 31 9, h1, h2, ?_, ?_, (I.agr a1).agr a2⟩
      · simp (disch := omega) only [R_115_15, R_115_26, R_115_17, R_115_12, R_115_7, R_115_4, R_115_0, S_115, gd_t, bI_, bV_, bR_, and_self, and_true, true_and, ↓reduceIte, eq_self, oj_84, bI_1, bI_0, L0, L1, L9, L31, s_108, hr, s_116 hN hs.1.n, hr2, g1, eq_f]
      · simp (disch := omega) only [R_254_15, R_254_23, R_254_17, R_254_12, R_254_7, R_254_4, R_254_0, S_254, gd_t, bI_, bV_, bR_, and_self, and_true, true_and, ↓reduceIte, eq_self, oj_84, bI_1, bI_0, L0, L1, L22, L84, s_247, hr, e255, hr2, g2, eq_f, e22, A.2.2.2.1]
def barF (w S : Nat) : Nat → Nat → Option Nat
  | 0, _ => none
  | j + 1, i => if w.testBit i && !S.testBit i then some i else barF w S j (i + 1)
theorem barF_s (w S j i : Nat) : barF w S (j + 1) i = if w.testBit i && !S.testBit i then some i else barF w S j (i + 1) := rfl
theorem barF_none {w S n : Nat} (hw : w < 2 ^ n) : ∀ j i, n ≤ i → barF w S j i = none
  | 0, _, _ => rfl
  | j + 1, i, h => by
    have : w.testBit i = false := Nat.testBit_lt_two_pow (Nat.lt_of_lt_of_le hw (Nat.pow_le_pow_right (by decide) h))
    rw [barF_s, this, Bool.false_and, if_neg (by decide)]
    exact barF_none hw j (i + 1) (by omega)
theorem barF_ext {w S n : Nat} (hw : w < 2 ^ n) : ∀ j k i, i + j = n → barF w S (j + k) i = barF w S j i
  | 0, k, i, h => by
    rw [Nat.zero_add]
    exact barF_none hw k i (by omega)
  | j + 1, k, i, h => by
    rw [show j + 1 + k = j + k + 1 by omega, barF_s, barF_s, barF_ext hw j k (i + 1) (by omega)]
theorem s_118 {h : Hp} {w S : Nat} (hw : w < 64) (hS : S < 64) : S_118 (nI (w &&& (S ^^^ 63))) h = some (onI (barF w S 6 0), h) := by
  have hT := (andn0 w hw S hS).2
  have loop : ∀ (j i fu : Nat), i + j = 6 → j < fu → H_118_2 fu (nI (w &&& (S ^^^ 63))) (nI i) h = some (onI (barF w S j i), h) := by
    intro j
    induction j with
    | zero =>
      intro i fu e hf
      obtain ⟨fu, rfl⟩ : ∃ p, fu = p + 1 := ⟨fu - 1, by omega⟩
      have ei : i = 6 := by omega
      subst ei
      simp (disch := omega) only [H_118_2, R_118_25, R_118_19, R_118_17, R_118_8, R_118_2, R_118_0, S_118, gd_t, bI_, bV_, bR_, and_self, and_true, true_and, ↓reduceIte, eq_self, oj_84, bI_1, bI_0, L0, L1, L3, L6, L31, le_t, le_f, lt_t, lt_f, eq_t, eq_f, ncl, nI_add, nmul, nsub, ndiv, nrem, nrem', nrN]
      rfl
    | succ j ih =>
      intro i fu e hf
      obtain ⟨fu, rfl⟩ : ∃ p, fu = p + 1 := ⟨fu - 1, by omega⟩
      have nx := ih (i + 1) fu (by omega) (by omega)
      have eb := andnb w hw S hS i (by omega)
      rw [barF_s, ← eb]
      cases c : (w &&& (S ^^^ 63)).testBit i with
      | true =>
        simp (disch := omega) only [H_118_2, R_118_25, R_118_19, R_118_17, R_118_8, R_118_2, R_118_0, S_118, gd_t, bI_, bV_, bR_, and_self, and_true, true_and, ↓reduceIte, eq_self, oj_84, bI_1, bI_0, L0, L1, L3, L6, L31, le_t, le_f, lt_t, lt_f, eq_t, eq_f, ncl, nI_add, nmul, nsub, ndiv, nrem, nrem', nrN, nset', c, Bool.toNat_true]
        rfl
      | false =>
        rw [if_neg (by decide)]
        simp (disch := omega) only [H_118_2, R_118_25, R_118_19, R_118_17, R_118_8, R_118_2, R_118_0, S_118, gd_t, bI_, bV_, bR_, and_self, and_true, true_and, ↓reduceIte, eq_self, oj_84, bI_1, bI_0, L0, L1, L3, L6, L31, le_t, le_f, lt_t, lt_f, eq_t, eq_f, ncl, nI_add, nmul, nsub, ndiv, nrem, nrem', nrN, nset', c, Bool.toNat_false]
        exact nx
  have g := loop 6 0 fuL (by omega) (fuL_gt (by omega))
  simp (disch := omega) only [S_118, R_118_0, gd_t, bI_, bV_, bR_, and_self, and_true, true_and, ↓reduceIte, eq_self, oj_84, bI_1, bI_0, L0, L1, L3, L6, L31]
  exact g
theorem p_bars {v u : Int32} : Pub (S_117 v u) (S_257 v u) := by
  intro h I
  obtain ⟨⟨s, m, C⟩, D⟩ := id I
  obtain ⟨so, mo, hs, hm, q, h4⟩ := id C
  have hN := so.1
  cases hr : rng 0 4 v with
  | false => exact ⟨-nI 1, h, h, by simp (disch := omega) only [R_117_15, R_117_40, R_117_26, R_117_17, R_117_12, R_117_7, R_117_4, R_117_0, S_117, gd_t, bI_, bV_, bR_, and_self, and_true, true_and, ↓reduceIte, eq_self, oj_84, bI_1, bI_0, L0, L1, L3, L10, L23, L31, L84, L85, s_108, hr], by simp (disch := omega) only [R_257_15, R_257_63, R_257_57, R_257_55, R_257_44, R_257_35, R_257_25, R_257_23, R_257_17, R_257_12, R_257_7, R_257_4, R_257_0, S_257, gd_t, bI_, bV_, bR_, and_self, and_true, true_and, ↓reduceIte, eq_self, oj_84, bI_1, bI_0, L0, L1, L3, L10, L23, L31, L84, L85, s_247, hr], I⟩
  | true =>
    cases hr2 : rng 0 (2 ^ sN s - 1) u with
    | false => exact ⟨-nI 1, h, h, by simp (disch := omega) only [R_117_15, R_117_40, R_117_26, R_117_17, R_117_12, R_117_7, R_117_4, R_117_0, S_117, gd_t, bI_, bV_, bR_, and_self, and_true, true_and, ↓reduceIte, eq_self, oj_84, bI_1, bI_0, L0, L1, L3, L10, L23, L31, L84, L85, s_108, hr, s_116 hN hs.1.n, hr2, eq_f], by simp (disch := omega) only [R_257_15, R_257_63, R_257_57, R_257_55, R_257_44, R_257_35, R_257_25, R_257_23, R_257_17, R_257_12, R_257_7, R_257_4, R_257_0, S_257, gd_t, bI_, bV_, bR_, and_self, and_true, true_and, ↓reduceIte, eq_self, oj_84, bI_1, bI_0, L0, L1, L3, L10, L23, L31, L84, L85, s_247, hr, s_255 hN q.1.n, hr2, eq_f], I⟩
    | true =>
      obtain ⟨n, -, hn, rfl⟩ := rng_t hr
      obtain ⟨w, -, hw, rfl⟩ := rng_t hr2
      have hp := p2_64' hN
      have hp0 : 1 ≤ 2 ^ sN s := Nat.two_pow_pos _
      have hw6 : w < 64 := by omega
      obtain ⟨h1, g1, s1, A⟩ := s_109 (w := w) so mo hs hm hn hw6
      have a1 : Agr h h1 := Agr.ofC s1
      obtain ⟨-, -, -, -, q1, h41⟩ := C.agr a1
      obtain ⟨h2, g2, a2, e22, e23⟩ := s_256 (w := w) so mo q1 h41 hn hw6
      obtain ⟨-, -, -, -, q2, -⟩ := (C.agr a1).agr a2
      have e255 := s_255 (v := nI w) (h := h1) hN q1.1.n
      have hS := p64 (accS_lt mo (L := lenN s m n) (by have := so.2.2.2.2.2; have := mo.2.2; unfold lenN; omega) ((sN s + 1) ^ lenN s m n)) hN
      have e10 := A.2.2.2.2.1
      generalize accS s m (lenN s m n) ((sN s + 1) ^ lenN s m n) = S at hS e10 e23
      have loop : ∀ (j i fu : Nat), i + j = sN s → j < fu → H_257_25 fu (nI w) (nI i) h2 = some (onI (barF w S j i), h2) := by
        intro j
        induction j with
        | zero =>
          intro i fu e hf
          obtain ⟨fu, rfl⟩ : ∃ p, fu = p + 1 := ⟨fu - 1, by omega⟩
          have ei : i = sN s := by omega
          subst ei
          simp (disch := omega) only [H_257_25, R_257_15, R_257_63, R_257_57, R_257_55, R_257_44, R_257_35, R_257_25, R_257_23, R_257_17, R_257_12, R_257_7, R_257_4, R_257_0, S_257, gd_t, bI_, bV_, bR_, and_self, and_true, true_and, ↓reduceIte, eq_self, oj_84, bI_1, bI_0, L0, L1, L3, L23, L31, L84, L85, le_t, le_f, lt_t, lt_f, eq_t, eq_f, ncl, nI_add, nmul, nsub, ndiv, nrem, nrem', nrN, ia_85, q2.1.n]
          rfl
        | succ j ih =>
          intro i fu e hf
          obtain ⟨fu, rfl⟩ : ∃ p, fu = p + 1 := ⟨fu - 1, by omega⟩
          have nx := ih (i + 1) fu (by omega) (by omega)
          rw [barF_s]
          cases c : w.testBit i with
          | true =>
            cases c2 : S.testBit i with
            | true =>
              rw [if_neg (by decide)]
              simp (disch := omega) only [H_257_25, R_257_15, R_257_63, R_257_57, R_257_55, R_257_44, R_257_35, R_257_25, R_257_23, R_257_17, R_257_12, R_257_7, R_257_4, R_257_0, S_257, gd_t, bI_, bV_, bR_, and_self, and_true, true_and, ↓reduceIte, eq_self, oj_84, bI_1, bI_0, L0, L1, L3, L23, L31, L84, L85, le_t, le_f, lt_t, lt_f, eq_t, eq_f, ncl, nI_add, nmul, nsub, ndiv, nrem, nrem', nrN, ia_85, q2.1.n, nset', c, c2, e23, Bool.toNat_true]
              exact nx
            | false =>
              rw [if_pos (by decide)]
              simp (disch := omega) only [H_257_25, R_257_15, R_257_63, R_257_57, R_257_55, R_257_44, R_257_35, R_257_25, R_257_23, R_257_17, R_257_12, R_257_7, R_257_4, R_257_0, S_257, gd_t, bI_, bV_, bR_, and_self, and_true, true_and, ↓reduceIte, eq_self, oj_84, bI_1, bI_0, L0, L1, L3, L23, L31, L84, L85, le_t, le_f, lt_t, lt_f, eq_t, eq_f, ncl, nI_add, nmul, nsub, ndiv, nrem, nrem', nrN, ia_85, q2.1.n, nset', c, c2, e23, Bool.toNat_true, Bool.toNat_false]
              rfl
          | false =>
            rw [Bool.false_and, if_neg (by decide)]
            simp (disch := omega) only [H_257_25, R_257_15, R_257_63, R_257_57, R_257_55, R_257_44, R_257_35, R_257_25, R_257_23, R_257_17, R_257_12, R_257_7, R_257_4, R_257_0, S_257, gd_t, bI_, bV_, bR_, and_self, and_true, true_and, ↓reduceIte, eq_self, oj_84, bI_1, bI_0, L0, L1, L3, L23, L31, L84, L85, le_t, le_f, lt_t, lt_f, eq_t, eq_f, ncl, nI_add, nmul, nsub, ndiv, nrem, nrem', nrN, ia_85, q2.1.n, nset', c, Bool.toNat_false]
            exact nx
      have g := loop (sN s) 0 fuL (by omega) (fuL_gt (by omega))
      have ex := barF_ext (w := w) (S := S) (n := sN s) (by omega) (sN s) (6 - sN s) 0 (by omega)
      rw [show sN s + (6 - sN s) = 6 by omega] at ex
      rw [← ex] at g
      refine ⟨onI (barF w S 6 0), h1, h2, ?_, ?_, (I.agr a1).agr a2⟩
      · simp (disch := omega) only [S_117, R_117_0, R_117_4, R_117_7, R_117_12, R_117_17, R_117_26, R_117_40, gd_t, bI_, bV_, bR_, and_self, and_true, true_and, ↓reduceIte, eq_self, oj_84, bI_1, bI_0, L0, L1, L10, L31, s_108, hr, s_116 hN hs.1.n, hr2, g1, eq_f, e10, nandn', s_118]
      · simp (disch := omega) only [S_257, R_257_0, R_257_4, R_257_7, R_257_12, R_257_17, R_257_23, gd_t, bI_, bV_, bR_, and_self, and_true, true_and, ↓reduceIte, eq_self, oj_84, bI_1, bI_0, L0, L1, L3, L23, L31, L84, L85, s_247, hr, e255, hr2, g2, eq_f]
        exact g
