/-! part 99k: rules -/
theorem rl_loop {N : Nat} {T : Nat → Nat} : ∀ (n fu fv : Nat) (t : Tok) (R : List Tok) (La Ma : List Nat) (rl : List Ru) (Hc Hm : Hp), R.length ≤ n → n + 1 < fu → n + 1 < fv → St N T 0 t R La Ma Hc Hm → RuC Hc rl La → RuM Hm rl Ma → ∃ b Hc' Hm', H_45_30 fu (nI 1) (nI rl.length) Hc = some (bI b, wr Hc' 21 1 (nI 0)) ∧ H_209_29 fv Hm = R_209_50 Hm' ∧ FrC2 Hc Hc' ∧ FrM2 Hm Hm' ∧ (b = false → Hc' 21 3 = Hm' 84 9 ∧ Hm' 84 12 = nI 1) ∧ (b = true → Hm' 84 12 = nI 0 ∧ ∃ rl' La' Ma', RuC Hc' rl' La' ∧ RuM Hm' rl' Ma' ∧ CoC Hc' La' ∧ CoM Hm' Ma' ∧ La'.length ≤ 200 ∧ Ma'.length ≤ 200) := by
  intro n
  induction n with
  | zero =>
    intro fu fv t R La Ma rl Hc Hm hn hf hv S rc rm
    obtain ⟨fu, rfl⟩ : ∃ p, fu = p + 1 := ⟨fu - 1, by omega⟩
    obtain ⟨fv, rfl⟩ : ∃ p, fv = p + 1 := ⟨fv - 1, by omega⟩
    obtain ⟨cs, ms, s13, cc, cm, bc, bm⟩ := id S
    have q8 := cs.tok
    have h8 := rc.2.1
    have c27 : t.1 = 27 := by
      rcases Nat.decEq t.1 27 with c | c
      · obtain ⟨t1, R1, rfl⟩ := ms.ne c
        simp only [List.length_cons] at hn
        omega
      · exact c
    obtain ⟨-, q12, e, tok, -, -, -, e10, mt, -⟩ := id ms
    have tk : tok = 0 := mt.2.2.2.2.2.2.mpr c27
    subst tk
    refine ⟨true, Hc, Hm, ?_, ?_, FrC.rf.x, FrM.rf.x, (fun e => by cases e), fun _ => ⟨q12, rl, La, Ma, rc, rm, cc, cm, by omega, by omega⟩⟩
    · simp (disch := omega) only [H_45_30, R_45_30, R_45_36, R_45_40, R_45_60, gd_t, bI_, bV_, bR_, and_self, and_true, true_and, ↓reduceIte, eq_self, oj_84, bI_1, bI_0, L0, L1, L7, L8, L21, L27, L28, le_t, le_f, lt_t, lt_f, eq_t, eq_f, ncl, nI_add, nmul, nsub, ndiv, nrem, nrem', nrN, q8, c27, or_true]
    · simp (disch := omega) only [H_209_29, R_209_29, gd_t, bI_, bV_, bR_, and_self, and_true, true_and, ↓reduceIte, eq_self, oj_84, bI_1, bI_0, L0, L1, le_t, le_f, lt_t, lt_f, eq_t, eq_f, ncl, nI_add, nmul, nsub, ndiv, nrem, nrem', nrN, e10]
  | succ n ih =>
    intro fu fv t R La Ma rl Hc Hm hn hf hv S rc rm
    obtain ⟨fu, rfl⟩ : ∃ p, fu = p + 1 := ⟨fu - 1, by omega⟩
    obtain ⟨fv, rfl⟩ : ∃ p, fv = p + 1 := ⟨fv - 1, by omega⟩
    obtain ⟨cs, ms, s13, cc, cm, bc, bm⟩ := id S
    have q8 := cs.tok
    have lt := cs.lt
    have h8 := rc.2.1
    obtain ⟨-, q12, e, tok, -, -, -, e10, mt, -⟩ := id ms
    by_cases c27 : t.1 = 27
    · have tk : tok = 0 := mt.2.2.2.2.2.2.mpr c27
      subst tk
      refine ⟨true, Hc, Hm, ?_, ?_, FrC.rf.x, FrM.rf.x, (fun e => by cases e), fun _ => ⟨q12, rl, La, Ma, rc, rm, cc, cm, by omega, by omega⟩⟩
      · simp (disch := omega) only [H_45_30, R_45_30, R_45_36, R_45_40, R_45_60, gd_t, bI_, bV_, bR_, and_self, and_true, true_and, ↓reduceIte, eq_self, oj_84, bI_1, bI_0, L0, L1, L7, L8, L21, L27, L28, le_t, le_f, lt_t, lt_f, eq_t, eq_f, ncl, nI_add, nmul, nsub, ndiv, nrem, nrem', nrN, q8, c27, or_true]
      · simp (disch := omega) only [H_209_29, R_209_29, gd_t, bI_, bV_, bR_, and_self, and_true, true_and, ↓reduceIte, eq_self, oj_84, bI_1, bI_0, L0, L1, le_t, le_f, lt_t, lt_f, eq_t, eq_f, ncl, nI_add, nmul, nsub, ndiv, nrem, nrem', nrN, e10]
    · have tk : tok ≠ 0 := fun w => c27 (mt.2.2.2.2.2.2.mp w)
      have t3 := mt.1
      obtain ⟨b, C1, M1, g1, g2, r1, r2, r3, r4⟩ := rule_ok S rc rm
      cases b with
      | false =>
        obtain ⟨y1, y2⟩ := r3 rfl
        obtain ⟨fu2, rfl⟩ : ∃ p, fu = p + 1 := ⟨fu - 1, by omega⟩
        obtain ⟨fv2, rfl⟩ : ∃ p, fv = p + 1 := ⟨fv - 1, by omega⟩
        refine ⟨false, C1, M1, ?_, ?_, r1, r2, r3, (fun e => by cases e)⟩
        · have e60 : H_45_30 (fu2 + 1) (nI 0) (nI (rl.length + 1)) C1 = some (nI 0, wr C1 21 1 (nI 0)) := by
            by_cases z : 8 < rl.length + 1
            · simp (disch := omega) only [H_45_30, R_45_30, R_45_60, gd_t, bI_, bV_, bR_, and_self, and_true, true_and, ↓reduceIte, eq_self, oj_84, bI_1, bI_0, L0, L1, L7, L8, L21, L27, L28, le_t, le_f, lt_t, lt_f, eq_t, eq_f, ncl, nI_add, nmul, nsub, ndiv, nrem, nrem', nrN, tor]
            · simp (disch := omega) only [H_45_30, R_45_30, R_45_36, R_45_60, gd_t, bI_, bV_, bR_, and_self, and_true, true_and, ↓reduceIte, eq_self, oj_84, bI_1, bI_0, L0, L1, L7, L8, L21, L27, L28, le_t, le_f, lt_t, lt_f, eq_t, eq_f, ncl, nI_add, nmul, nsub, ndiv, nrem, nrem', nrN, tor]
          rw [H_45_30]
          simp (disch := omega) only [R_45_30, R_45_36, R_45_40, R_45_49, R_45_53, gd_t, bI_, bV_, bR_, and_self, and_true, true_and, ↓reduceIte, eq_self, oj_84, bI_1, bI_0, L0, L1, L7, L8, L21, L27, L28, le_t, le_f, lt_t, lt_f, eq_t, eq_f, ncl, nI_add, nmul, nsub, ndiv, nrem, nrem', nrN, q8, g1, e60]
        · have e50 : H_209_29 (fv2 + 1) M1 = R_209_50 M1 := by
            by_cases z : M1 84 10 = nI 0
            · have z' : (M1 84 10 = nI 0) = True := eq_true z
              simp (disch := omega) only [H_209_29, R_209_29, gd_t, bI_, bV_, bR_, and_self, and_true, true_and, ↓reduceIte, eq_self, oj_84, bI_1, bI_0, L0, L1, le_t, le_f, lt_t, lt_f, eq_t, eq_f, ncl, nI_add, nmul, nsub, ndiv, nrem, nrem', nrN, z']
            · have z' : (M1 84 10 = nI 0) = False := eq_false z
              simp (disch := omega) only [H_209_29, R_209_29, R_209_36, gd_t, bI_, bV_, bR_, and_self, and_true, true_and, ↓reduceIte, eq_self, oj_84, bI_1, bI_0, L0, L1, le_t, le_f, lt_t, lt_f, eq_t, eq_f, ncl, nI_add, nmul, nsub, ndiv, nrem, nrem', nrN, z', y2]
          rw [H_209_29]
          simp (disch := omega) only [R_209_29, R_209_36, R_209_43, R_209_47, gd_t, bI_, bV_, bR_, and_self, and_true, true_and, ↓reduceIte, eq_self, oj_84, bI_1, bI_0, L0, L1, le_t, le_f, lt_t, lt_f, eq_t, eq_f, ncl, nI_add, nmul, nsub, ndiv, nrem, nrem', nrN, e10, q12, g2, e50]
      | true =>
        obtain ⟨l8, t', R', La', Ma', q, z1, z2, z3, z4⟩ := r4 rfl
        obtain ⟨b, C2, M2, x1, x2, x3, x4, x5, x6⟩ := ih fu fv t' R' La' Ma' (rl ++ [q]) C1 M1 (by omega) (by omega) (by omega) z2 z3 z4
        have el : (rl ++ [q]).length = rl.length + 1 := by rw [List.length_append]; rfl
        rw [el] at x1
        refine ⟨b, C2, M2, ?_, ?_, r1.tr x3, r2.tr x4, x5, x6⟩
        · rw [H_45_30]
          simp (disch := omega) only [R_45_30, R_45_36, R_45_40, R_45_49, R_45_53, gd_t, bI_, bV_, bR_, and_self, and_true, true_and, ↓reduceIte, eq_self, oj_84, bI_1, bI_0, L0, L1, L7, L8, L21, L27, L28, le_t, le_f, lt_t, lt_f, eq_t, eq_f, ncl, nI_add, nmul, nsub, ndiv, nrem, nrem', nrN, q8, g1]
          exact x1
        · rw [H_209_29]
          simp (disch := omega) only [R_209_29, R_209_36, R_209_43, R_209_47, gd_t, bI_, bV_, bR_, and_self, and_true, true_and, ↓reduceIte, eq_self, oj_84, bI_1, bI_0, L0, L1, le_t, le_f, lt_t, lt_f, eq_t, eq_f, ncl, nI_add, nmul, nsub, ndiv, nrem, nrem', nrN, e10, q12, g2]
          exact x2
def FrC3 (h h' : Hp) : Prop := ∀ c, c ≠ 21 → ¬ (23 ≤ c ∧ c ≤ 30) → h' c = h c
/-- reading, class and model, from any heap of the model with the same tape -/
theorem rules_run {h : Hp} {N : Nat} {T : Nat → Nat} (q : TpC h N T) (G : Hp) (qG : TpM G N T) : ∃ b Hc' Hm', S_45 h = some (bI b, Hc') ∧ S_209 G = R_209_50 Hm' ∧ FrC3 h Hc' ∧ FrM2 G Hm' ∧ Hc' 21 1 = nI 0 ∧ (b = false → Hc' 21 3 = Hm' 84 9 ∧ Hm' 84 12 = nI 1) ∧ (b = true → Hm' 84 12 = nI 0 ∧ ∃ rl La Ma, RuC Hc' rl La ∧ RuM Hm' rl Ma ∧ CoC Hc' La ∧ CoM Hm' Ma ∧ La.length ≤ 200 ∧ Ma.length ≤ 200) := by
  have n200 := q.1
  obtain ⟨h1, R, g46, s1, lx, rl, ar, -⟩ := l_46 N 0 0 fuL h (by omega) (by omega) (fuL_gt (by omega)) (by omega) q
  cases R with
  | nil => exact absurd lx (fun w => w)
  | cons t R =>
    simp only [List.length_cons] at rl
    obtain ⟨h2, e2⟩ : ∃ h2, h2 = wr (wr (wr (wr h1 23 4 (nI 0)) 23 5 (nI 0)) 21 7 (nI 0)) 21 8 (nI t.1) := ⟨_, rfl⟩
    have f2 : ∀ x, x ≠ 21 → x ≠ 23 → h2 x = h1 x := fun x a b => by rw [e2, wr_c a, wr_c a, wr_c b, wr_c b]
    obtain ⟨u1, u2, u3, u4⟩ := ar 0 t rfl
    have cs : CS h2 t R := ⟨0, by omega, by rw [e2, wr_k (by decide), wr_self], by rw [e2, wr_self], ar.c (f2 28 (by decide) (by decide)) (f2 29 (by decide) (by decide)) (f2 30 (by decide) (by decide))⟩
    have cc : CoC h2 [] := ⟨by rw [e2, wr_c (by decide), wr_c (by decide), wr_k (by decide), wr_self]; rfl, fun j v w => by cases w⟩
    have rc : RuC h2 [] [] := ⟨by rw [e2, wr_c (by decide), wr_c (by decide), wr_self]; rfl, by decide, fun _ => 0, fun _ => [], rfl, rfl, fun i v w => by cases w⟩
    obtain ⟨G1, e1⟩ : ∃ G1, G1 = wr (wr (wr (wr (wr G 84 8 (nI 0)) 84 12 (nI 0)) 84 13 (nI 0)) 84 15 (nI 0)) 84 17 (nI 0) := ⟨_, rfl⟩
    have k1 : ∀ x, x ≠ 84 → G1 x = G x := fun x a => by rw [e1, wr_c a, wr_c a, wr_c a, wr_c a, wr_c a]
    have k2 : ∀ j, j ≠ 8 → j ≠ 12 → j ≠ 13 → j ≠ 15 → j ≠ 17 → G1 84 j = G 84 j := fun j a b c d e => by rw [e1, wr_k e, wr_k d, wr_k c, wr_k b, wr_k a]
    obtain ⟨G2, e', tok, gG, fG, z1, z2, z3, z4, z5, z6⟩ := s_210 (t := t) (R := R) N 0 fuL G1 (by omega) (fuL_gt (by omega)) (qG.c (k2 7 (by decide) (by decide) (by decide) (by decide) (by decide)) (k1 89 (by decide))) (by rw [e1, wr_k (by decide), wr_k (by decide), wr_k (by decide), wr_k (by decide), wr_self]) lx
    have qG1 : TpM G1 N T := qG.c (k2 7 (by decide) (by decide) (by decide) (by decide) (by decide)) (k1 89 (by decide))
    have ms : MS N T G2 t R := ⟨qG1.c (fG.2 7 (by decide) (by decide) (by decide) (by decide)) (fG.1 89 (by decide)), by rw [fG.2 12 (by decide) (by decide) (by decide) (by decide), e1, wr_k (by decide), wr_k (by decide), wr_k (by decide), wr_self], e', tok, z1, z2, z3, z4, z5, z6⟩
    have cm : CoM G2 [] := ⟨by rw [fG.2 15 (by decide) (by decide) (by decide) (by decide), e1, wr_k (by decide), wr_self]; rfl, fun j v w => by cases w⟩
    have rm : RuM G2 [] [] := ⟨by rw [fG.2 17 (by decide) (by decide) (by decide) (by decide), e1, wr_self]; rfl, fun _ => 0, fun _ => [], fun i v w => by cases w⟩
    obtain ⟨b, C3, M3, x1, x2, x3, x4, x5, x6⟩ := rl_loop (N := N) (T := T) R.length fuL fuL t R [] [] [] h2 G2 (by omega) (fuL_gt (by omega)) (fuL_gt (by omega)) ⟨cs, ms, by rw [fG.2 13 (by decide) (by decide) (by decide) (by decide), e1, wr_k (by decide), wr_k (by decide), wr_self], cc, cm, by simp; omega, by simp; omega⟩ rc rm
    refine ⟨b, wr C3 21 1 (nI 0), M3, ?_, ?_, fun c a1 a2 => ?_, ?_, wr_self, fun eb => ?_, fun eb => ?_⟩
    · have u2' : h1 28 0 = nI t.1 := u2
      have w28 : wr (wr (wr h1 23 4 (nI 0)) 23 5 (nI 0)) 21 7 (nI 0) 28 0 = nI t.1 := by rw [wr_c (by decide), wr_c (by decide), wr_c (by decide)]; exact u2'
      have x1' : H_45_30 fuL (nI 1) (nI 0) h2 = some (bI b, wr C3 21 1 (nI 0)) := x1
      rw [e2] at x1'
      have g46' : S_46 h = some (nI 0, h1) := g46
      have z0 : (nI 0).toNatClampNeg = 0 := rfl
      have i28 : IA 28 (nI 0) = True := ia_28 (by decide)
      simp (disch := omega) only [S_45, R_45_0, R_45_4, R_45_11, S_65, R_65_0, gd_t, bI_, bV_, bR_, and_self, and_true, true_and, ↓reduceIte, eq_self, oj_84, bI_1, bI_0, L0, L1, g46', z0, i28, w28]
      exact x1'
    · have gG' : S_210 G1 = some (nI 0, G2) := gG
      rw [e1] at gG'
      simp (disch := omega) only [S_209, R_209_0, gd_t, bI_, bV_, bR_, and_self, and_true, true_and, ↓reduceIte, eq_self, oj_84, bI_1, bI_0, L0, L1, gG']
      exact x2
    · rw [wr_c a1, x3.1 c a1 (by omega), f2 c a1 (by omega), s1 c (by simp only [List.mem_cons, List.not_mem_nil, or_false]; omega)]
    · exact ⟨fun c a b d => by rw [x4.1 c a b d, fG.1 c a, k1 c a], fun j hj => by rw [x4.2 j hj, fG.2 j (by omega) (by omega) (by omega) (by omega), k2 j (by omega) (by omega) (by omega) (by omega) (by omega)]⟩
    · rw [wr_k (by decide)]
      exact x5 eb
    · obtain ⟨y0, rl', La', Ma', y1, y2, y3, y4, y5⟩ := x6 eb
      refine ⟨y0, rl', La', Ma', ?_, y2, ?_, y4, y5⟩
      · unfold RuC
        rw [wr_c (by decide), wr_c (by decide), wr_c (by decide), wr_c (by decide)]
        exact y1
      · unfold CoC
        rw [wr_c (by decide), wr_c (by decide)]
        exact y3
theorem l_209b {K : Nat} (hK : K ≤ 200) : ∀ (r j fu : Nat) (H : Hp), j + r = K → r < fu → H 84 15 = nI K → ∃ H', H_209_111 fu (nI j) H = some (H' 84 17, H') ∧ (∀ c, c ≠ 85 → H' c = H c) ∧ ∀ i, H' 85 i = if 121 + j ≤ i ∧ i < 121 + K then H 90 (i - 121) else H 85 i := by
  intro r
  induction r with
  | zero =>
    intro j fu H hj hf h15
    obtain ⟨fu, rfl⟩ : ∃ p, fu = p + 1 := ⟨fu - 1, by omega⟩
    refine ⟨H, by simp (disch := omega) only [H_209_111, R_209_111, R_209_140, gd_t, bI_, bV_, bR_, and_self, and_true, true_and, ↓reduceIte, eq_self, oj_84, bI_1, bI_0, L0, L1, le_t, le_f, lt_t, lt_f, eq_t, eq_f, ncl, nI_add, nmul, nsub, ndiv, nrem, nrem', nrN, h15], fun _ _ => rfl, fun i => ?_⟩
    rw [if_neg (by omega)]
  | succ r ih =>
    intro j fu H hj hf h15
    obtain ⟨fu, rfl⟩ : ∃ p, fu = p + 1 := ⟨fu - 1, by omega⟩
    have i90 : IA 90 (nI j) = True := ia_90 (by omega)
    have i85 : IA 85 (nI (121 + j)) = True := ia_85 (by omega)
    obtain ⟨H', g, a1, a2⟩ := ih (j + 1) fu (wr H 85 (121 + j) (H 90 j)) (by omega) (by omega) (by rw [wr_c (by decide)]; exact h15)
    refine ⟨H', ?_, fun c e => by rw [a1 c e, wr_c e], fun i => ?_⟩
    · simp (disch := omega) only [H_209_111, R_209_111, R_209_119, L121, gd_t, bI_, bV_, bR_, and_self, and_true, true_and, ↓reduceIte, eq_self, oj_84, bI_1, bI_0, L0, L1, le_t, le_f, lt_t, lt_f, eq_t, eq_f, ncl, nI_add, nmul, nsub, ndiv, nrem, nrem', nrN, h15, i90, i85]
      exact g
    · rw [a2 i, wr_c (show (90 : Nat) ≠ 85 by decide)]
      by_cases c1 : 121 + (j + 1) ≤ i ∧ i < 121 + K
      · rw [if_pos c1, if_pos (by omega)]
      · rw [if_neg c1]
        by_cases c2 : i = 121 + j
        · rw [c2, wr_self, if_pos (by omega), show 121 + j - 121 = j by omega]
        · rw [wr_k c2, if_neg (by omega)]
theorem l_209a : ∀ (r j fu : Nat) (H : Hp), j + r = 32 → r < fu → ∃ H', H_209_82 fu (nI j) H = R_209_109 H' ∧ (∀ c, c ≠ 85 → H' c = H c) ∧ ∀ i, H' 85 i = if 89 + j ≤ i ∧ i < 121 then H 91 (i - 89) else H 85 i := by
  intro r
  induction r with
  | zero =>
    intro j fu H hj hf
    obtain ⟨fu, rfl⟩ : ∃ p, fu = p + 1 := ⟨fu - 1, by omega⟩
    refine ⟨H, by simp (disch := omega) only [H_209_82, R_209_82, L32, gd_t, bI_, bV_, bR_, and_self, and_true, true_and, ↓reduceIte, eq_self, oj_84, bI_1, bI_0, L0, L1, le_t, le_f, lt_t, lt_f, eq_t, eq_f, ncl, nI_add, nmul, nsub, ndiv, nrem, nrem', nrN], fun _ _ => rfl, fun i => ?_⟩
    rw [if_neg (by omega)]
  | succ r ih =>
    intro j fu H hj hf
    obtain ⟨fu, rfl⟩ : ∃ p, fu = p + 1 := ⟨fu - 1, by omega⟩
    have i91 : IA 91 (nI j) = True := ia_91 (by omega)
    have i85 : IA 85 (nI (89 + j)) = True := ia_85 (by omega)
    obtain ⟨H', g, a1, a2⟩ := ih (j + 1) fu (wr H 85 (89 + j) (H 91 j)) (by omega) (by omega)
    refine ⟨H', ?_, fun c e => by rw [a1 c e, wr_c e], fun i => ?_⟩
    · simp (disch := omega) only [H_209_82, R_209_82, R_209_88, L32, L89, gd_t, bI_, bV_, bR_, and_self, and_true, true_and, ↓reduceIte, eq_self, oj_84, bI_1, bI_0, L0, L1, le_t, le_f, lt_t, lt_f, eq_t, eq_f, ncl, nI_add, nmul, nsub, ndiv, nrem, nrem', nrN, i91, i85]
      exact g
    · rw [a2 i, wr_c (show (91 : Nat) ≠ 85 by decide)]
      by_cases c1 : 89 + (j + 1) ≤ i ∧ i < 121
      · rw [if_pos c1, if_pos (by omega)]
      · rw [if_neg c1]
        by_cases c2 : i = 89 + j
        · rw [c2, wr_self, if_pos (by omega), show 89 + j - 89 = j by omega]
        · rw [wr_k c2, if_neg (by omega)]
