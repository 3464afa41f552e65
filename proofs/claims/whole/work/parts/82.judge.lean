/-! part 82: judge -/
def judF (s : Sg) (f : Nat → Int32) : Nat → Nat → Mo → Nat
  | 0, _, _ => 0
  | j + 1, k, m => if rng 0 (sN s) (f (3 * k)) = true ∧ ¬ sEnd s ≤ mNight m ∧ f (3 * k + 1) = nI (goW s m (f (3 * k)).toNatClampNeg) ∧ f (3 * k + 2) = nI (mSet (goM s m (f (3 * k)).toNatClampNeg)) then judF s f j (k + 1) (goM s m (f (3 * k)).toNatClampNeg) else k + 1
theorem judF_s (s : Sg) (f : Nat → Int32) (j k : Nat) (m : Mo) : judF s f (j + 1) k m = if rng 0 (sN s) (f (3 * k)) = true ∧ ¬ sEnd s ≤ mNight m ∧ f (3 * k + 1) = nI (goW s m (f (3 * k)).toNatClampNeg) ∧ f (3 * k + 2) = nI (mSet (goM s m (f (3 * k)).toNatClampNeg)) then judF s f j (k + 1) (goM s m (f (3 * k)).toNatClampNeg) else k + 1 := rfl
theorem judF_e {s : Sg} {f g : Nat → Int32} {n : Nat} (e : ∀ i, i < 3 * n → f i = g i) : ∀ j k m, k + j = n → judF s f j k m = judF s g j k m
  | 0, _, _, _ => rfl
  | j + 1, k, m, h => by
    rw [judF_s, judF_s, e _ (by omega), e _ (by omega), e _ (by omega), judF_e e j (k + 1) _ (by omega)]
theorem p_judge : Pub S_143 S_274 := by
  intro h I
  obtain ⟨⟨s, m, C⟩, d1, d2, d3, ⟨n, n1, n2, n3, n4⟩, d5, d6, d7⟩ := id I
  obtain ⟨so, mo, hs, hm, q, h4⟩ := id C
  have hN := so.1
  have he := so.2.2.2.2.2
  have loopC : ∀ (i k fu : Nat) (m1 : Mo) (H : Hp), k + i = n → i < fu → Same [12, 35, 36, 37] h H → MoOk s m1 → MoAt H 35 s m1 → ∃ h', H_144_8 fu 63 (nI n) 35 (nI k) H = some (nI (judF s (h 63) i k m1), h') ∧ Same [12, 35, 36, 37] h h' := by
    intro i
    induction i with
    | zero =>
      intro k fu m1 H ek hf sm o hmH
      obtain ⟨fu, rfl⟩ : ∃ p, fu = p + 1 := ⟨fu - 1, by omega⟩
      have ek' : k = n := by omega
      exact ⟨H, by simp (disch := omega) only [H_144_8, R_144_8, R_144_101, gd_t, bI_, bV_, bR_, and_self, and_true, true_and, ↓reduceIte, eq_self, oj_84, bI_1, bI_0, L0, L1, L2, L3, le_t, le_f, lt_t, lt_f, eq_t, eq_f, ncl, nI_add, nmul, nsub, ndiv, nrem, nrem', nrN, ek']; rfl, sm⟩
    | succ i ih =>
      intro k fu m1 H ek hf sm o hmH
      obtain ⟨fu, rfl⟩ : ∃ p, fu = p + 1 := ⟨fu - 1, by omega⟩
      have hsH : SF H s := hs.congr (fun c _ _ => sm c (by simp only [List.mem_cons, List.not_mem_nil, or_false]; omega))
      have e63 : H 63 = h 63 := sm 63 (by decide)
      have ek3 : k * 3 = 3 * k := Nat.mul_comm _ _
      have g145 := s_145 (h := H) (v := h 63 (3 * k)) hN hsH.1.n
      have g38 := s_38 mo35 so o hsH.1 hmH
      rw [judF_s]
      cases cr : rng 0 (sN s) (h 63 (3 * k)) with
      | false =>
        rw [if_neg (by simp)]
        exact ⟨H, by simp (disch := omega) only [H_144_8, R_144_8, R_144_14, R_144_31, R_144_45, gd_t, bI_, bV_, bR_, and_self, and_true, true_and, ↓reduceIte, eq_self, oj_84, bI_1, bI_0, L0, L1, L2, L3, le_t, le_f, lt_t, lt_f, eq_t, eq_f, ncl, nI_add, nmul, nsub, ndiv, nrem, nrem', nrN, ek3, ia_63, e63, g145, cr], sm⟩
      | true =>
        by_cases ce : sEnd s ≤ mNight m1
        · rw [if_neg (fun w => w.2.1 ce)]
          rw [decide_eq_true ce] at g38
          exact ⟨H, by simp (disch := omega) only [H_144_8, R_144_8, R_144_14, R_144_31, R_144_34, R_144_42, R_144_45, gd_t, bI_, bV_, bR_, and_self, and_true, true_and, ↓reduceIte, eq_self, oj_84, bI_1, bI_0, L0, L1, L2, L3, le_t, le_f, lt_t, lt_f, eq_t, eq_f, ncl, nI_add, nmul, nsub, ndiv, nrem, nrem', nrN, ek3, ia_63, e63, g145, cr, g38], sm⟩
        · rw [decide_eq_false ce] at g38
          obtain ⟨a, -, ha, ea⟩ := rng_t cr
          obtain ⟨H2, g2, s2, m2⟩ := s_81 mo35 so o hsH hmH (show a ≤ 6 by omega)
          have sm2 : Same [12, 35, 36, 37] h H2 := sm.tr s2
          have e632 : H2 63 = h 63 := sm2 63 (by decide)
          have o2 : MoOk s (goM s m1 a) := goOk o (by omega)
          have eset : H2 35 2 = nI (mSet (goM s m1 a)) := m2.set
          rw [ea, ncl (by omega)]
          rw [ea] at g145 cr
          by_cases c1 : h 63 (3 * k + 1) = nI (goW s m1 a)
          · by_cases c2 : h 63 (3 * k + 2) = nI (mSet (goM s m1 a))
            · rw [if_pos ⟨rfl, ce, c1, c2⟩]
              obtain ⟨h', g, r⟩ := ih (k + 1) fu _ H2 (by omega) (by omega) sm2 o2 m2
              refine ⟨h', ?_, r⟩
              simp (disch := omega) only [H_144_8, R_144_8, R_144_14, R_144_31, R_144_34, R_144_42, R_144_50, R_144_60, R_144_75, R_144_95, gd_t, bI_, bV_, bR_, and_self, and_true, true_and, ↓reduceIte, eq_self, oj_84, bI_1, bI_0, L0, L1, L2, L3, le_t, le_f, lt_t, lt_f, eq_t, eq_f, ncl, nI_add, nmul, nsub, ndiv, nrem, nrem', nrN, ek3, ia_63, e63, ea, g145, cr, g38, g2, e632, c1, c2, oj_35, eset]
              exact g
            · rw [if_neg (fun w => c2 w.2.2.2)]
              have c2' := eq_false c2
              exact ⟨H2, by simp (disch := omega) only [H_144_8, R_144_8, R_144_14, R_144_31, R_144_34, R_144_42, R_144_50, R_144_60, R_144_75, R_144_90, gd_t, bI_, bV_, bR_, and_self, and_true, true_and, ↓reduceIte, eq_self, oj_84, bI_1, bI_0, L0, L1, L2, L3, le_t, le_f, lt_t, lt_f, eq_t, eq_f, ncl, nI_add, nmul, nsub, ndiv, nrem, nrem', nrN, ek3, ia_63, e63, ea, g145, cr, g38, g2, e632, c1, c2', oj_35, eset], sm2⟩
          · rw [if_neg (fun w => c1 w.2.2.1)]
            have c1' := eq_false c1
            exact ⟨H2, by simp (disch := omega) only [H_144_8, R_144_8, R_144_14, R_144_31, R_144_34, R_144_42, R_144_50, R_144_60, R_144_90, gd_t, bI_, bV_, bR_, and_self, and_true, true_and, ↓reduceIte, eq_self, oj_84, bI_1, bI_0, L0, L1, L2, L3, le_t, le_f, lt_t, lt_f, eq_t, eq_f, ncl, nI_add, nmul, nsub, ndiv, nrem, nrem', nrN, ek3, ia_63, e63, ea, g145, cr, g38, g2, e632, c1'], sm2⟩
  obtain ⟨h0, g0, s0, m0⟩ := s_87 so hm
  obtain ⟨h1, g1, s1⟩ := loopC n 0 fuL m h0 (by omega) (fuL_gt (by omega)) (s0.le (by decide)) mo m0
  have a1 : Agr h h1 := Agr.ofC (s1.le (by decide))
  obtain ⟨-, -, -, -, q1, h41⟩ := C.agr a1
  have e93 : h1 93 = h 93 := a1.cell 93 (by decide)
  have e27 : h1 84 27 = nI n := by rw [s1 84 (by decide)]; exact n3
  obtain ⟨h2, g2, b2, e2, x2⟩ := s_229 (by decide) h41
  have fin : ∀ (v : Nat) (H : Hp), Brk 0 h1 H → (∀ j, j ≠ 4 → H 84 j = h1 84 j) → ∃ h', R_274_116 (nI v) H = some (nI v, h') ∧ Agr h1 h' := by
    intro v H b x
    obtain ⟨h', g, f, x'⟩ := s_231 (by decide) h41 b
    exact ⟨h', by simp (disch := omega) only [R_274_116, R_274_120, gd_t, bI_, bV_, bR_, and_self, and_true, true_and, ↓reduceIte, eq_self, oj_84, bI_1, bI_0, L0, L1, g], Agr.ofM (l := []) f (fun j _ hj => by rw [x' j hj, x j hj]) (fun j hj => by simp at hj)⟩
  -- a wrong row ends it
  have wrong : ∀ (k fu : Nat) (H : Hp), k < 5 → 0 < fu → Brk 0 h1 H → (∀ j, j ≠ 4 → H 84 j = h1 84 j) → ∃ h', H_274_8 fu (nI (k + 1)) (nI (k + 1)) H = some (nI (k + 1), h') ∧ Agr h1 h' := by
    intro k fu H hk hf b x
    obtain ⟨fu, rfl⟩ : ∃ p, fu = p + 1 := ⟨fu - 1, by omega⟩
    obtain ⟨h', g, a⟩ := fin (k + 1) H b x
    have e27' : H 84 27 = nI n := by rw [x 27 (by decide)]; exact e27
    refine ⟨h', ?_, a⟩
    by_cases c : n ≤ k + 1
    · simp (disch := omega) only [H_274_8, R_274_8, gd_t, bI_, bV_, bR_, and_self, and_true, true_and, ↓reduceIte, eq_self, oj_84, bI_1, bI_0, L0, L1, L2, L3, L27, L84, L85, L93, le_t, le_f, lt_t, lt_f, eq_t, eq_f, ncl, nI_add, nmul, nsub, ndiv, nrem, nrem', nrN, e27', le_t]
      exact g
    · simp (disch := omega) only [H_274_8, R_274_8, R_274_16, gd_t, bI_, bV_, bR_, and_self, and_true, true_and, ↓reduceIte, eq_self, oj_84, bI_1, bI_0, L0, L1, L2, L3, L27, L84, L85, L93, le_t, le_f, lt_t, lt_f, eq_t, eq_f, ncl, nI_add, nmul, nsub, ndiv, nrem, nrem', nrN, e27', le_f]
      exact g
  have loopM : ∀ (i k fu : Nat) (m1 : Mo) (H : Hp), k + i = n → i + 1 < fu → Brk 0 h1 H → (∀ j, j ≠ 4 → H 84 j = h1 84 j) → MoOk s m1 → SMd H s m1 → ∃ h', H_274_8 fu (nI 0) (nI k) H = some (nI (judF s (h 93) i k m1), h') ∧ Agr h1 h' := by
    intro i
    induction i with
    | zero =>
      intro k fu m1 H ek hf b x o qH
      obtain ⟨fu, rfl⟩ : ∃ p, fu = p + 1 := ⟨fu - 1, by omega⟩
      have ek' : k = n := by omega
      have e27' : H 84 27 = nI n := by rw [x 27 (by decide)]; exact e27
      obtain ⟨h', g, a⟩ := fin 0 H b x
      refine ⟨h', ?_, a⟩
      simp (disch := omega) only [H_274_8, R_274_8, gd_t, bI_, bV_, bR_, and_self, and_true, true_and, ↓reduceIte, eq_self, oj_84, bI_1, bI_0, L0, L1, L2, L3, L27, L84, L85, L93, le_t, le_f, lt_t, lt_f, eq_t, eq_f, ncl, nI_add, nmul, nsub, ndiv, nrem, nrem', nrN, e27', ek']
      exact g
    | succ i ih =>
      intro k fu m1 H ek hf b x o qH
      obtain ⟨fu, rfl⟩ : ∃ p, fu = p + 1 := ⟨fu - 1, by omega⟩
      have e27' : H 84 27 = nI n := by rw [x 27 (by decide)]; exact e27
      have e93' : H 93 = h 93 := by rw [b.1 93 (by decide) (by decide) (by decide) (by decide)]; exact e93
      have g177 := s_177r (h := H) (v := h 93 (3 * k)) (a := 0) (b := sN s) (by decide) (by omega)
      have g205 := s_205 so o qH.1
      have wr96 : ∀ H', Brk 0 h1 H' → (∀ j, j ≠ 4 → H' 84 j = h1 84 j) → ∃ h', R_274_96 (H_274_8 fu) (nI k) H' = some (nI (k + 1), h') ∧ Agr h1 h' := by
        intro H' b' x'
        obtain ⟨h', g, a⟩ := wrong k fu H' (by omega) (by omega) b' x'
        refine ⟨h', ?_, a⟩
        simp (disch := omega) only [R_274_96, gd_t, bI_, bV_, bR_, and_self, and_true, true_and, ↓reduceIte, eq_self, oj_84, bI_1, bI_0, L0, L1, L2, L3, L27, L84, L85, L93, le_t, le_f, lt_t, lt_f, eq_t, eq_f, ncl, nI_add, nmul, nsub, ndiv, nrem, nrem', nrN]
        exact g
      rw [judF_s]
      cases cr : rng 0 (sN s) (h 93 (3 * k)) with
      | false =>
        rw [if_neg (by simp)]
        obtain ⟨h', g, a⟩ := wr96 H b x
        refine ⟨h', ?_, a⟩
        simp (disch := omega) only [H_274_8, R_274_8, R_274_16, R_274_20, R_274_40, gd_t, bI_, bV_, bR_, and_self, and_true, true_and, ↓reduceIte, eq_self, oj_84, bI_1, bI_0, L0, L1, L2, L3, L27, L84, L85, L93, le_t, le_f, lt_t, lt_f, eq_t, eq_f, ncl, nI_add, nmul, nsub, ndiv, nrem, nrem', nrN, e27', ia_93, e93', ia_85, qH.1.n, J0, g177, cr]
        exact g
      | true =>
        by_cases ce : sEnd s ≤ mNight m1
        · rw [if_neg (fun w => w.2.1 ce)]
          rw [decide_eq_true ce] at g205
          obtain ⟨h', g, a⟩ := wr96 H b x
          refine ⟨h', ?_, a⟩
          simp (disch := omega) only [H_274_8, R_274_8, R_274_16, R_274_20, R_274_40, R_274_43, R_274_47, gd_t, bI_, bV_, bR_, and_self, and_true, true_and, ↓reduceIte, eq_self, oj_84, bI_1, bI_0, L0, L1, L2, L3, L27, L84, L85, L93, le_t, le_f, lt_t, lt_f, eq_t, eq_f, ncl, nI_add, nmul, nsub, ndiv, nrem, nrem', nrN, e27', ia_93, e93', ia_85, qH.1.n, J0, g177, cr, g205]
          exact g
        · rw [decide_eq_false ce] at g205
          obtain ⟨a, -, ha, ea⟩ := rng_t cr
          obtain ⟨H2, g2, q2, f2⟩ := s_226 so o qH ha
          have o2 : MoOk s (goM s m1 a) := goOk o (by omega)
          have b2' := b.mfr f2
          have x2' : ∀ j, j ≠ 4 → H2 84 j = h1 84 j := fun j hj => by rw [f2.1 84 (by decide) (by decide)]; exact x j hj
          have e932 : H2 93 = h 93 := by rw [f2.1 93 (by decide) (by decide)]; exact e93'
          have g206 := s_206 so o2 q2.1
          rw [ea, ncl (by omega)]
          rw [ea] at g177 cr
          by_cases c1 : h 93 (3 * k + 1) = nI (goW s m1 a)
          · by_cases c2 : h 93 (3 * k + 2) = nI (mSet (goM s m1 a))
            · rw [if_pos ⟨rfl, ce, c1, c2⟩]
              obtain ⟨h', g, r⟩ := ih (k + 1) fu _ H2 (by omega) (by omega) b2' x2' o2 q2
              refine ⟨h', ?_, r⟩
              simp (disch := omega) only [H_274_8, R_274_8, R_274_16, R_274_20, R_274_40, R_274_43, R_274_47, R_274_50, R_274_62, R_274_75, R_274_79, R_274_92, gd_t, bI_, bV_, bR_, and_self, and_true, true_and, ↓reduceIte, eq_self, oj_84, bI_1, bI_0, L0, L1, L2, L3, L27, L84, L85, L93, le_t, le_f, lt_t, lt_f, eq_t, eq_f, ncl, nI_add, nmul, nsub, ndiv, nrem, nrem', nrN, e27', ia_93, e93', ia_85, qH.1.n, J0, ea, g177, cr, g205, g2, e932, c1, g206, c2]
              exact g
            · rw [if_neg (fun w => c2 w.2.2.2)]
              have c2' := eq_false (fun w => c2 (Eq.symm w))
              obtain ⟨h', g, r⟩ := wr96 H2 b2' x2'
              refine ⟨h', ?_, r⟩
              simp (disch := omega) only [H_274_8, R_274_8, R_274_16, R_274_20, R_274_40, R_274_43, R_274_47, R_274_50, R_274_62, R_274_75, R_274_79, gd_t, bI_, bV_, bR_, and_self, and_true, true_and, ↓reduceIte, eq_self, oj_84, bI_1, bI_0, L0, L1, L2, L3, L27, L84, L85, L93, le_t, le_f, lt_t, lt_f, eq_t, eq_f, ncl, nI_add, nmul, nsub, ndiv, nrem, nrem', nrN, e27', ia_93, e93', ia_85, qH.1.n, J0, ea, g177, cr, g205, g2, e932, c1, g206, c2']
              exact g
          · rw [if_neg (fun w => c1 w.2.2.1)]
            have c1' := eq_false (fun w => c1 (Eq.symm w))
            obtain ⟨h', g, r⟩ := wr96 H2 b2' x2'
            refine ⟨h', ?_, r⟩
            simp (disch := omega) only [H_274_8, R_274_8, R_274_16, R_274_20, R_274_40, R_274_43, R_274_47, R_274_50, R_274_62, gd_t, bI_, bV_, bR_, and_self, and_true, true_and, ↓reduceIte, eq_self, oj_84, bI_1, bI_0, L0, L1, L2, L3, L27, L84, L85, L93, le_t, le_f, lt_t, lt_f, eq_t, eq_f, ncl, nI_add, nmul, nsub, ndiv, nrem, nrem', nrN, e27', ia_93, e93', ia_85, qH.1.n, J0, ea, g177, cr, g205, g2, e932, c1']
            exact g
  have q2 : SMd h2 s m := by unfold SMd; rw [e2]; exact q1
  obtain ⟨h', g, a⟩ := loopM n 0 fuL m h2 (by omega) (fuL_gt (by omega)) b2 x2 mo q2
  rw [← judF_e (g := h 93) n4 n 0 m (by omega)] at g
  refine ⟨nI (judF s (h 63) n 0 m), h1, h', ?_, ?_, (I.agr a1).agr a⟩
  · simp (disch := omega) only [R_143_15, R_143_0, S_143, S_144, R_144_0, R_144_4, gd_t, bI_, bV_, bR_, and_self, and_true, true_and, ↓reduceIte, eq_self, oj_84, bI_1, bI_0, L0, L1, L2, L3, L8, L63, n2, g0, g1]
  · simp (disch := omega) only [S_274, R_274_0, R_274_6, gd_t, bI_, bV_, bR_, and_self, and_true, true_and, ↓reduceIte, eq_self, oj_84, bI_1, bI_0, L0, L1, L2, L3, L27, L84, L85, L93, g2]
    exact g
