/-! part 90: lone and liar, class and model -/
theorem Agr.of16 {h h' : Hp} (a : ∀ c, c ≠ 16 → h' c = h c) (b : h' 16 4 = h 16 4) : Agr h h' := ⟨fun c e => a c (by unfold KeepC at e; omega), b, by rw [a 21 (by decide)], by rw [a 61 (by decide)], fun j _ => by rw [a 84 (by decide)]⟩
theorem Agr.of84 {h h' : Hp} (a : ∀ c, c ≠ 84 → h' c = h c) (b : ∀ j, j ≠ 24 → j ≠ 25 → h' 84 j = h 84 j) : Agr h h' := ⟨fun c e => a c (by unfold KeepC at e; omega), by rw [a 16 (by decide)], by rw [a 21 (by decide)], by rw [a 61 (by decide)], fun j hj => b j (by omega) (by omega)⟩
theorem fit0 {g : Nat → Nat} (hg : ∀ q, g q < 64) : fitV g 0 = fun x => decide (g x = 0) := funext (fun x => by
  unfold fitV
  have : g x &&& (0 ^^^ 63) = g x := by
    have h63 : ∀ y, y < 64 → y &&& (0 ^^^ 63) = y := by decide +kernel
    exact h63 _ (hg x)
  rw [this])
theorem p_lone {v : Int32} : Pub (S_126 v) (S_263 v) := by
  intro h I
  obtain ⟨⟨s, m, C⟩, d1, d2, d3, d4, d5, d6, d7⟩ := id I
  obtain ⟨so, mo, hs, hm, q, h4⟩ := id C
  cases hr : rng 0 3 v with
  | false => exact ⟨-nI 1, h, h, by simp (disch := omega) only [R_126_75, R_126_65, R_126_60, R_126_52, R_126_47, R_126_44, R_126_34, R_126_26, R_126_22, R_126_11, R_126_9, R_126_6, R_126_0, S_126, gd_t, bI_, bV_, bR_, and_self, and_true, true_and, ↓reduceIte, eq_self, oj_84, bI_1, bI_0, L0, L1, L2, L3, L5, L6, L7, L8, L10, L16, L24, L25, L84, L100, s_11r, hr], by simp (disch := omega) only [R_263_75, R_263_62, R_263_57, R_263_45, R_263_40, R_263_35, R_263_28, R_263_23, R_263_19, R_263_14, R_263_12, R_263_9, R_263_0, S_263, gd_t, bI_, bV_, bR_, and_self, and_true, true_and, ↓reduceIte, eq_self, oj_84, bI_1, bI_0, L0, L1, L2, L3, L5, L6, L7, L8, L10, L16, L24, L25, L84, L100, J0, J3, s_177r, hr], I⟩
  | true =>
    obtain ⟨w, -, hw, rfl⟩ := rng_t hr
    obtain ⟨n, K, A, L, M, n6, r2, r3, r4⟩ := d1
    have RC : RepC h n K A L M := ⟨n6, r2, fun r hr => by
      obtain ⟨u1, u2, u3, u4, v1, v2, v3, v4, -⟩ := r4 r hr
      exact ⟨u1, u2, u3, u4, v1, v2, v3, v4⟩⟩
    have RD : RepD (h 85) n K A L M := ⟨n6, r3, fun r hr => by
      obtain ⟨u1, u2, u3, u4, -, -, -, -, v1, v2, v3, v4⟩ := r4 r hr
      exact ⟨u1, u2, u3, u4, v1, v2, v3, v4⟩⟩
    obtain ⟨lst, h1, hl, hk, g1, i1, i2, i3, i4, i5⟩ := s_127 so hs.1 RC
    have a1 : Agr h h1 := Agr.of16 i1 i2
    have hg : ∀ q, misQ s n lst K A L M q < 64 := fun q => p64 (accN_lt _ n lst) n6
    have e85 : h1 85 = h 85 := i1 85 (by decide)
    obtain ⟨h2, g2, f1, f2, f3, f4⟩ := s_264 (h := h1) (lst := lst) (v := 0) so (by rw [e85]; exact q.1) (by rw [e85]; exact RD) hk (by decide)
    have a2 : Agr h1 h2 := Agr.of84 f1 f2
    rw [fit0 hg] at f3 f4
    rw [lsQ_N _ 500 0 rfl, Nat.zero_add] at f4
    have hc := cntN_le (fun x => decide (misQ s n lst K A L M x = 0)) 500
    have hf := fstN_le (fun x => decide (misQ s n lst K A L M x = 0)) 500
    generalize cntN (fun x => decide (misQ s n lst K A L M x = 0)) 500 = cc at i3 i4 f3 f4 hc
    generalize fstN (fun x => decide (misQ s n lst K A L M x = 0)) 500 = ff at i4 f4 hf
    by_cases w0 : w = 0
    · subst w0
      exact ⟨nI cc, h1, h2, by simp (disch := omega) only [R_126_75, R_126_65, R_126_60, R_126_52, R_126_47, R_126_44, R_126_34, R_126_26, R_126_22, R_126_11, R_126_9, R_126_6, R_126_0, S_126, gd_t, bI_, bV_, bR_, and_self, and_true, true_and, ↓reduceIte, eq_self, oj_84, bI_1, bI_0, L0, L1, L2, L3, L5, L6, L7, L8, L10, L16, L24, L25, L84, L100, le_t, le_f, lt_t, lt_f, eq_t, eq_f, ncl, nI_add, nmul, nsub, ndiv, nrem, nrem', nrN, s_11r, hr, g1, i3], by simp (disch := omega) only [R_263_75, R_263_62, R_263_57, R_263_45, R_263_40, R_263_35, R_263_28, R_263_23, R_263_19, R_263_14, R_263_12, R_263_9, R_263_0, S_263, gd_t, bI_, bV_, bR_, and_self, and_true, true_and, ↓reduceIte, eq_self, oj_84, bI_1, bI_0, L0, L1, L2, L3, L5, L6, L7, L8, L10, L16, L24, L25, L84, L100, le_t, le_f, lt_t, lt_f, eq_t, eq_f, ncl, nI_add, nmul, nsub, ndiv, nrem, nrem', nrN, J0, J3, s_177r, hr, g2, f3], (I.agr a1).agr a2⟩
    · by_cases c0 : cc = 0
      · rw [if_pos c0] at f4
        have en : (nI 0 ≤ onI none) = False := eq_false (by decide)
        rw [c0] at i3
        exact ⟨-nI 3, h1, h2, by simp (disch := omega) only [S_126, R_126_0, R_126_6, R_126_11, R_126_22, R_126_34, R_126_44, gd_t, bI_, bV_, bR_, and_self, and_true, true_and, ↓reduceIte, eq_self, oj_84, bI_1, bI_0, L0, L1, L2, L3, L5, L6, L7, L8, L10, L16, L24, L25, L84, L100, le_t, le_f, lt_t, lt_f, eq_t, eq_f, ncl, nI_add, nmul, nsub, ndiv, nrem, nrem', nrN, s_11r, hr, g1, i3], by simp (disch := omega) only [S_263, R_263_0, R_263_9, R_263_14, R_263_19, R_263_28, R_263_35, gd_t, bI_, bV_, bR_, and_self, and_true, true_and, ↓reduceIte, eq_self, oj_84, bI_1, bI_0, L0, L1, L2, L3, L5, L6, L7, L8, L10, L16, L24, L25, L84, L100, le_t, le_f, lt_t, lt_f, eq_t, eq_f, ncl, nI_add, nmul, nsub, ndiv, nrem, nrem', nrN, J0, J3, s_177r, hr, g2, f4, en], (I.agr a1).agr a2⟩
      · rw [if_neg c0] at f4
        have f4' : h2 84 25 = nI ff := f4
        obtain ⟨j1, j2, j3⟩ := i4 (by omega)
        have ed1 : nI ff / nI 100 = nI (ff / 100) := ndiv (by omega) (by decide) (by decide)
        have ed2 : nI ff / nI 10 = nI (ff / 10) := ndiv (by omega) (by decide) (by decide)
        have er3 : nI ff - nI (ff / 10 * 10) = nI (ff % 10) := nrem' (by omega) (by decide) (by decide)
        have er4 : nI (ff / 10) - nI (ff / 10 / 10 * 10) = nI (ff / 10 % 10) := nrem' (by omega) (by decide) (by decide)
        have ed5 : nI (ff / 10) / nI 10 = nI (ff / 10 / 10) := ndiv (by omega) (by decide) (by decide)
        have le0 : (nI 0 ≤ nI ff) = True := le_t (by omega) (by omega)
        have w3 : w = 1 ∨ w = 2 ∨ w = 3 := by omega
        rcases w3 with rfl | rfl | rfl
        · exact ⟨nI (1 + ff / 100), h1, h2, by simp (disch := omega) only [R_126_75, R_126_65, R_126_60, R_126_52, R_126_47, R_126_44, R_126_34, R_126_26, R_126_22, R_126_11, R_126_9, R_126_6, R_126_0, S_126, gd_t, bI_, bV_, bR_, and_self, and_true, true_and, ↓reduceIte, eq_self, oj_84, bI_1, bI_0, L0, L1, L2, L3, L5, L6, L7, L8, L10, L16, L24, L25, L84, L100, le_t, le_f, lt_t, lt_f, eq_t, eq_f, ncl, nI_add, nmul, nsub, ndiv, nrem, nrem', nrN, s_11r, hr, g1, i3, j1], by simp (disch := omega) only [R_263_75, R_263_62, R_263_57, R_263_45, R_263_40, R_263_35, R_263_28, R_263_23, R_263_19, R_263_14, R_263_12, R_263_9, R_263_0, S_263, gd_t, bI_, bV_, bR_, and_self, and_true, true_and, ↓reduceIte, eq_self, oj_84, bI_1, bI_0, L0, L1, L2, L3, L5, L6, L7, L8, L10, L16, L24, L25, L84, L100, J0, J3, s_177r, hr, g2, eq_f, f4', le0, ed1, nI_add], (I.agr a1).agr a2⟩
        · exact ⟨nI (ff / 10 % 10), h1, h2, by simp (disch := omega) only [R_126_75, R_126_65, R_126_60, R_126_52, R_126_47, R_126_44, R_126_34, R_126_26, R_126_22, R_126_11, R_126_9, R_126_6, R_126_0, S_126, gd_t, bI_, bV_, bR_, and_self, and_true, true_and, ↓reduceIte, eq_self, oj_84, bI_1, bI_0, L0, L1, L2, L3, L5, L6, L7, L8, L10, L16, L24, L25, L84, L100, le_t, le_f, lt_t, lt_f, eq_t, eq_f, ncl, nI_add, nmul, nsub, ndiv, nrem, nrem', nrN, s_11r, hr, g1, i3, j2], by simp (disch := omega) only [R_263_75, R_263_62, R_263_57, R_263_45, R_263_40, R_263_35, R_263_28, R_263_23, R_263_19, R_263_14, R_263_12, R_263_9, R_263_0, S_263, gd_t, bI_, bV_, bR_, and_self, and_true, true_and, ↓reduceIte, eq_self, oj_84, bI_1, bI_0, L0, L1, L2, L3, L5, L6, L7, L8, L10, L16, L24, L25, L84, L100, J0, J3, s_177r, hr, g2, eq_f, f4', le0, ed2, ed5, nmul, er4], (I.agr a1).agr a2⟩
        · exact ⟨nI (6 * (ff % 10)), h1, h2, by simp (disch := omega) only [R_126_75, R_126_65, R_126_60, R_126_52, R_126_47, R_126_44, R_126_34, R_126_26, R_126_22, R_126_11, R_126_9, R_126_6, R_126_0, S_126, gd_t, bI_, bV_, bR_, and_self, and_true, true_and, ↓reduceIte, eq_self, oj_84, bI_1, bI_0, L0, L1, L2, L3, L5, L6, L7, L8, L10, L16, L24, L25, L84, L100, le_t, le_f, lt_t, lt_f, eq_t, eq_f, ncl, nI_add, nmul, nsub, ndiv, nrem, nrem', nrN, s_11r, hr, g1, i3, j3], by simp (disch := omega) only [R_263_75, R_263_62, R_263_57, R_263_45, R_263_40, R_263_35, R_263_28, R_263_23, R_263_19, R_263_14, R_263_12, R_263_9, R_263_0, S_263, gd_t, bI_, bV_, bR_, and_self, and_true, true_and, ↓reduceIte, eq_self, oj_84, bI_1, bI_0, L0, L1, L2, L3, L5, L6, L7, L8, L10, L16, L24, L25, L84, L100, J0, J3, s_177r, hr, g2, eq_f, f4', le0, ed2, nmul, er3], (I.agr a1).agr a2⟩
set_option maxRecDepth 100000 in
theorem p_liar : Pub S_132 S_266 := by
  intro h I
  obtain ⟨⟨s, m, C⟩, d1, d2, d3, d4, d5, d6, d7⟩ := id I
  obtain ⟨so, mo, hs, hm, q, h4⟩ := id C
  obtain ⟨n, K, A, L, M, n6, r2, r3, r4⟩ := d1
  have RC : RepC h n K A L M := ⟨n6, r2, fun r hr => by
    obtain ⟨u1, u2, u3, u4, v1, v2, v3, v4, -⟩ := r4 r hr
    exact ⟨u1, u2, u3, u4, v1, v2, v3, v4⟩⟩
  have RD : RepD (h 85) n K A L M := ⟨n6, r3, fun r hr => by
    obtain ⟨u1, u2, u3, u4, -, -, -, -, v1, v2, v3, v4⟩ := r4 r hr
    exact ⟨u1, u2, u3, u4, v1, v2, v3, v4⟩⟩
  obtain ⟨lst, h1, hl, hk, g1, i1, i2, i3, i4, i5⟩ := s_127 so hs.1 RC
  have a1 : Agr h h1 := Agr.of16 i1 i2
  have hgn : ∀ q, misQ s n lst K A L M q < 2 ^ n := fun q => accN_lt _ n lst
  have hg : ∀ q, misQ s n lst K A L M q < 64 := fun q => p64 (hgn q) n6
  have e85 : h1 85 = h 85 := i1 85 (by decide)
  obtain ⟨h2, g2, f1, f2, f3, f4⟩ := s_264 (h := h1) (lst := lst) (v := 0) so (by rw [e85]; exact q.1) (by rw [e85]; exact RD) hk (by decide)
  have a2 : Agr h1 h2 := Agr.of84 f1 f2
  rw [fit0 hg] at f3
  have hc := cntN_le (fun x => decide (misQ s n lst K A L M x = 0)) 500
  by_cases c0 : cntN (fun x => decide (misQ s n lst K A L M x = 0)) 500 = 0
  · have none0 : ∀ x, x < 500 → misQ s n lst K A L M x ≠ 0 := fun x hx e => by
      have := (cntN_ex (fun x => decide (misQ s n lst K A L M x = 0)) 500).mpr ⟨x, hx, decide_eq_true e⟩
      omega
    have hb := blmN_lt hgn 500
    have hb6 := p64 hb n6
    -- one report settled alone
    have bit : ∀ r, r < 6 → (0 < cntN (fitV (misQ s n lst K A L M) (2 ^ r)) 500 ↔ (blmN (misQ s n lst K A L M) 500).testBit r = true) := fun r hr => by
      rw [cntN_ex, blmN_ex]
      constructor
      · intro ⟨x, hx, e⟩
        obtain ⟨o1, o2⟩ := ones1 _ (hg x) r hr
        have e' := (o2.mp (of_decide_eq_true e)).resolve_left (none0 x hx)
        exact ⟨x, hx, o1.mpr e'⟩
      · intro ⟨x, hx, e⟩
        obtain ⟨o1, o2⟩ := ones1 _ (hg x) r hr
        exact ⟨x, hx, decide_eq_true (o2.mpr (Or.inr (o1.mp e)))⟩
    have loop : ∀ (j r fu : Nat) (H : Hp), r + j = n → j < fu → (∀ c, c ≠ 84 → H c = h1 c) → (∀ j, j ≠ 24 → j ≠ 25 → H 84 j = h1 84 j) → ∃ h', H_266_17 fu (nI r) H = some (onI (barF (blmN (misQ s n lst K A L M) 500) 0 j r), h') ∧ Agr h1 h' := by
      intro j
      induction j with
      | zero =>
        intro r fu H er hf b1 b2
        obtain ⟨fu, rfl⟩ : ∃ p, fu = p + 1 := ⟨fu - 1, by omega⟩
        have er' : r = n := by omega
        have e6 : H 85 6 = nI n := by rw [b1 85 (by decide), e85]; exact r3
        refine ⟨H, ?_, Agr.of84 b1 b2⟩
        simp (disch := omega) only [H_266_17, R_266_17, R_266_50, gd_t, bI_, bV_, bR_, and_self, and_true, true_and, ↓reduceIte, eq_self, oj_84, bI_1, bI_0, L0, L1, L3, L6, L24, L31, L84, L85, le_t, le_f, lt_t, lt_f, eq_t, eq_f, ncl, nI_add, nmul, nsub, ndiv, nrem, nrem', nrN, ia_85, e6, er']
        rfl
      | succ j ih =>
        intro r fu H er hf b1 b2
        obtain ⟨fu, rfl⟩ : ∃ p, fu = p + 1 := ⟨fu - 1, by omega⟩
        have e85' : H 85 = h 85 := by rw [b1 85 (by decide), e85]
        have e6 : H 85 6 = nI n := by rw [e85']; exact r3
        obtain ⟨H2, g3, k1, k2, k3, k4⟩ := s_264 (h := H) (lst := lst) (v := 2 ^ r) so (by rw [e85']; exact q.1) (by rw [e85']; exact RD) hk (p2_64 (by omega))
        have b1' : ∀ c, c ≠ 84 → H2 c = h1 c := fun c hc => by rw [k1 c hc, b1 c hc]
        have b2' : ∀ j, j ≠ 24 → j ≠ 25 → H2 84 j = h1 84 j := fun j j1 j2 => by rw [k2 j j1 j2, b2 j j1 j2]
        have hc2 := cntN_le (fitV (misQ s n lst K A L M) (2 ^ r)) 500
        have c1 : (nI n ≤ nI r) = False := le_f (by omega) (by omega)
        have hbit := bit r (by omega)
        rw [barF_s, Nat.zero_testBit, Bool.not_false, Bool.and_true]
        by_cases cb : (blmN (misQ s n lst K A L M) 500).testBit r = true
        · have lt : (nI (cntN (fitV (misQ s n lst K A L M) (2 ^ r)) 500) ≤ nI 0) = False := le_f (by have := hbit.mpr cb; omega) (by omega)
          rw [if_pos cb]
          refine ⟨H2, ?_, Agr.of84 b1' b2'⟩
          simp (disch := omega) only [H_266_17, R_266_17, R_266_28, R_266_35, R_266_42, gd_t, bI_, bV_, bR_, and_self, and_true, true_and, ↓reduceIte, eq_self, oj_84, bI_1, bI_0, L0, L1, L3, L6, L24, L31, L84, L85, ia_85, ncl, e6, c1, nbit', g3, k3, lt]
          rfl
        · have lt : (nI (cntN (fitV (misQ s n lst K A L M) (2 ^ r)) 500) ≤ nI 0) = True := le_t (Nat.not_lt.mp (fun w => cb (hbit.mp w))) (by omega)
          rw [if_neg cb]
          obtain ⟨h', g, a⟩ := ih (r + 1) fu H2 (by omega) (by omega) b1' b2'
          refine ⟨h', ?_, a⟩
          simp (disch := omega) only [H_266_17, R_266_17, R_266_28, R_266_35, R_266_44, gd_t, bI_, bV_, bR_, and_self, and_true, true_and, ↓reduceIte, eq_self, oj_84, bI_1, bI_0, L0, L1, L3, L6, L24, L31, L84, L85, ia_85, ncl, e6, c1, nbit', g3, k3, lt, nI_add]
          exact g
    obtain ⟨h', g, a⟩ := loop n 0 fuL h2 (by omega) (fuL_gt (by omega)) f1 f2
    have ex := barF_ext (w := blmN (misQ s n lst K A L M) 500) (S := 0) (n := n) hb n (6 - n) 0 (by omega)
    rw [show n + (6 - n) = 6 by omega] at ex
    rw [← ex] at g
    have e63 : ∀ y, y < 64 → y &&& (0 ^^^ 63) = y := by decide +kernel
    have g118 := s_118 (h := h1) (w := blmN (misQ s n lst K A L M) 500) (S := 0) hb6 (by decide)
    rw [e63 _ hb6] at g118
    rw [c0] at i3 f3
    refine ⟨onI (barF (blmN (misQ s n lst K A L M) 500) 0 6 0), h1, h', ?_, ?_, (I.agr a1).agr a⟩
    · simp (disch := omega) only [R_132_36, R_132_26, R_132_21, R_132_11, R_132_0, S_132, gd_t, bI_, bV_, bR_, and_self, and_true, true_and, ↓reduceIte, eq_self, oj_84, bI_1, bI_0, L0, L1, L3, L5, L9, L16, le_t, le_f, lt_t, lt_f, eq_t, eq_f, ncl, nI_add, nmul, nsub, ndiv, nrem, nrem', nrN, g1, i3, i5, g118]
    · simp (disch := omega) only [S_266, R_266_0, R_266_5, R_266_15, gd_t, bI_, bV_, bR_, and_self, and_true, true_and, ↓reduceIte, eq_self, oj_84, bI_1, bI_0, L0, L1, L3, L6, L24, L31, L84, L85, le_t, le_f, lt_t, lt_f, eq_t, eq_f, ncl, nI_add, nmul, nsub, ndiv, nrem, nrem', nrN, g2, f3]
      exact g
  · have lt : (nI (cntN (fun x => decide (misQ s n lst K A L M x = 0)) 500) ≤ nI 0) = False := le_f (by omega) (by omega)
    refine ⟨-nI 3, h1, h2, ?_, ?_, (I.agr a1).agr a2⟩
    · simp (disch := omega) only [R_132_36, R_132_26, R_132_21, R_132_11, R_132_0, S_132, gd_t, bI_, bV_, bR_, and_self, and_true, true_and, ↓reduceIte, eq_self, oj_84, bI_1, bI_0, L0, L1, L3, L5, L9, L16, g1, i3, lt]
    · simp (disch := omega) only [S_266, R_266_0, R_266_5, R_266_12, gd_t, bI_, bV_, bR_, and_self, and_true, true_and, ↓reduceIte, eq_self, oj_84, bI_1, bI_0, L0, L1, L3, L6, L24, L31, L84, L85, g2, f3, lt]
