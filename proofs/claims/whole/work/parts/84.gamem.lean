/-! part 84: the game of two (model) -/
set_option maxRecDepth 100000 in
theorem s_259g {s : Sg} (so : SgOk s) : ∀ (k n' n a : Nat) (b : Bool) (m1 : Mo) (h : Hp), lenN s m1 n' = k → k < n → n' + a ≤ 5 → MoOk s m1 → SMd h s m1 → h 84 4 = nI a → ∃ h', SG_259 n (nI n') (bI b) h = some (nI (gV s k b m1), h') ∧ BFr a h h' ∧ ∀ j, j ≠ 4 → h' 84 j = h 84 j := by
  have hN := so.1
  have he := so.2.2.2.2.2
  intro k
  induction k with
  | zero =>
    intro n' n a b m1 h e hk hn o q h4
    obtain ⟨n, rfl⟩ : ∃ p, n = p + 1 := ⟨n - 1, by omega⟩
    refine ⟨h, ?_, BFr.rf, fun _ _ => rfl⟩
    show R_259_0 (SG_259 n) _ _ h = some (nI 0, h)
    by_cases c : n' = 0
    · subst c
      simp (disch := omega) only [R_259_0, R_259_11, gd_t, bI_, bV_, bR_, and_self, and_true, true_and, ↓reduceIte, eq_self, oj_84, bI_1, bI_0, L0, L1, le_t, le_f, lt_t, lt_f, eq_t, eq_f, ncl, nI_add, nmul, nsub, ndiv, nrem, nrem', nrN]
    · have ce : sEnd s ≤ mNight m1 := by unfold lenN at e; omega
      have c' : (nI n' = nI 0) = False := eq_f c (by omega) (by decide)
      simp (disch := omega) only [R_259_0, R_259_4, R_259_8, R_259_11, gd_t, bI_, bV_, bR_, and_self, and_true, true_and, ↓reduceIte, eq_self, oj_84, bI_1, bI_0, L0, L1, c', s_205 so o q.1, decide_eq_true ce, eq_f]
  | succ k ih =>
    intro n' n a b m1 h e hk hn o q h4
    obtain ⟨n, rfl⟩ : ∃ p, n = p + 1 := ⟨n - 1, by omega⟩
    have hn0 : 0 < n' := by unfold lenN at e; omega
    have ce : ¬ sEnd s ≤ mNight m1 := by unfold lenN at e; omega
    have wl : ∀ x, goW s m1 x + gV s k (!b) (goM s m1 x) ≤ 453 * (k + 1) := fun x => by
      have h1 := goW_le (act := x) so o
      have h2 := gV_le so k (!b) (goM s m1 x) (goOk o (by omega)) (by rw [goM_night o]; unfold lenN at e; omega)
      omega
    have hk5 : k + 1 ≤ 5 := by unfold lenN at e; omega
    obtain ⟨h1, g1, b1, e1, x1⟩ := s_229 (a := a) (by omega) h4
    generalize eW : (fun x => goW s m1 x + gV s k (!b) (goM s m1 x)) = W
    have Wa : ∀ x, goW s m1 x + gV s k (!b) (goM s m1 x) = W x := fun x => by rw [← eW]
    have Wl : ∀ x, W x ≤ 10000 := fun x => by have := wl x; rw [← Wa]; omega
    have body : ∀ (rec : Int32 → Int32 → Int32 → Int32 → Hp → Option (Int32 × Hp)) (v3 : Int32) (x : Nat) (H : Hp), x ≤ sN s → Brk a h H → H 85 = h 85 → (∀ j, j ≠ 4 → H 84 j = h 84 j) → ∃ H4, R_259_32 (SG_259 n) rec (nI n') (bI b) v3 (nI x) H = R_259_72 (SG_259 n) rec (nI n') (bI b) v3 (nI x) (nI (W x)) H4 ∧ Brk a h H4 ∧ H4 85 = h 85 ∧ ∀ j, j ≠ 4 → H4 84 j = h 84 j := by
      intro rec v3 x H hx bH e85 xH
      have qH : SMd H s m1 := by unfold SMd; rw [e85]; exact q
      obtain ⟨H2, g2, q2, f2⟩ := s_226 so o qH hx
      have b2 := bH.mfr f2
      obtain ⟨H3, g3, f3, x3⟩ := ih (n' - 1) n (a + 1) (!b) (goM s m1 x) H2 (by unfold lenN at e ⊢; rw [goM_night o]; omega) (by omega) (by omega) (goOk o (by omega)) q2 b2.2.1
      obtain ⟨H4, g4, b4, e4, s4⟩ := s_232 (by omega) (b2.bfr f3)
      refine ⟨H4, ?_, b4, e4, fun j hj => by rw [s4 84 (by decide), x3 j hj, f2.1 84 (by decide) (by decide)]; exact xH j hj⟩
      have en : nI n' - nI 1 = nI (n' - 1) := nsub hn0
      have nl : (nI (sN s) < nI x) = False := lt_f hx (by omega)
      rw [← Wa]
      cases b with
      | true =>
        have g3' : SG_259 n (nI (n' - 1)) (nI 0) H2 = some (nI (gV s k (!true) (goM s m1 x)), H3) := g3
        simp (disch := omega) only [R_259_32, R_259_43, R_259_49, R_259_61, R_259_65, gd_t, bI_, bV_, bR_, and_self, and_true, true_and, ↓reduceIte, eq_self, oj_84, bI_1, bI_0, L0, L1, ia_85, ncl, qH.1.n, nl, g2, eq_f, oj_84, en, g3', nI_add, g4]
      | false =>
        have g3' : SG_259 n (nI (n' - 1)) (nI 1) H2 = some (nI (gV s k (!false) (goM s m1 x)), H3) := g3
        simp (disch := omega) only [R_259_32, R_259_43, R_259_49, R_259_57, R_259_65, gd_t, bI_, bV_, bR_, and_self, and_true, true_and, ↓reduceIte, eq_self, oj_84, bI_1, bI_0, L0, L1, ia_85, ncl, qH.1.n, nl, g2, eq_f, oj_84, en, g3', nI_add, g4]
    have loop : ∀ (i x fu : Nat) (H : Hp) (r : Nat × Nat), x + i = sN s + 1 → i < fu → Brk a h H → H 85 = h 85 → (∀ j, j ≠ 4 → H 84 j = h 84 j) → r.1 ≤ 10000 → ∃ h', H_259_32 (SG_259 n) fu (nI n') (bI b) (nI r.1) (nI x) H = some (nI (pkF b W i x r).1, h') ∧ BFr a h h' ∧ ∀ j, j ≠ 4 → h' 84 j = h 84 j := by
      intro i
      induction i with
      | zero =>
        intro x fu H r ex hf bH e85 xH hr
        obtain ⟨fu, rfl⟩ : ∃ p, fu = p + 1 := ⟨fu - 1, by omega⟩
        obtain ⟨h', g, f, x'⟩ := s_231 (by omega) h4 bH
        refine ⟨h', ?_, f, fun j hj => by rw [x' j hj, xH j hj]⟩
        have e0 : H 85 0 = nI (sN s) := by rw [e85]; exact q.1.n
        have lt : (nI (sN s) < nI x) = True := lt_t (by omega) (by omega)
        simp (disch := omega) only [H_259_32, R_259_32, R_259_100, R_259_104, gd_t, bI_, bV_, bR_, and_self, and_true, true_and, ↓reduceIte, eq_self, oj_84, bI_1, bI_0, L0, L1, ia_85, ncl, e0, lt, g]
        rfl
      | succ i ihi =>
        intro x fu H r ex hf bH e85 xH hr
        obtain ⟨fu, rfl⟩ : ∃ p, fu = p + 1 := ⟨fu - 1, by omega⟩
        obtain ⟨H4, g4, b4, e4, x4⟩ := body (H_259_32 (SG_259 n) fu) (nI r.1) x H (by omega) bH e85 xH
        have hWx := Wl x
        have next : ∃ H5 r', R_259_72 (SG_259 n) (H_259_32 (SG_259 n) fu) (nI n') (bI b) (nI r.1) (nI x) (nI (W x)) H4 = H_259_32 (SG_259 n) fu (nI n') (bI b) (nI (r' : Nat × Nat).1) (nI (x + 1)) H5 ∧ H5 = H4 ∧ r' = (if (b = true ∧ r.1 < W x) ∨ (b = false ∧ W x < r.1) then (W x, x) else r) := by
          refine ⟨H4, _, ?_, rfl, rfl⟩
          cases b with
          | true =>
            by_cases c : W x ≤ r.1
            · rw [if_neg (by simp; omega)]
              simp (disch := omega) only [R_259_72, R_259_83, R_259_92, gd_t, bI_, bV_, bR_, and_self, and_true, true_and, ↓reduceIte, eq_self, oj_84, bI_1, bI_0, L0, L1, le_t, le_f, lt_t, lt_f, eq_t, eq_f, ncl, nI_add, nmul, nsub, ndiv, nrem, nrem', nrN]
            · rw [if_pos (by simp; omega)]
              simp (disch := omega) only [R_259_72, R_259_79, R_259_87, gd_t, bI_, bV_, bR_, and_self, and_true, true_and, ↓reduceIte, eq_self, oj_84, bI_1, bI_0, L0, L1, le_t, le_f, lt_t, lt_f, eq_t, eq_f, ncl, nI_add, nmul, nsub, ndiv, nrem, nrem', nrN]
          | false =>
            by_cases c : W x ≤ r.1
            · by_cases c2 : W x = r.1
              · rw [if_neg (by simp; omega), ← c2]
                simp (disch := omega) only [R_259_72, R_259_83, R_259_87, gd_t, bI_, bV_, bR_, and_self, and_true, true_and, ↓reduceIte, eq_self, oj_84, bI_1, bI_0, L0, L1, le_t, le_f, lt_t, lt_f, eq_t, eq_f, ncl, nI_add, nmul, nsub, ndiv, nrem, nrem', nrN]
              · rw [if_pos (by simp; omega)]
                simp (disch := omega) only [R_259_72, R_259_83, R_259_87, gd_t, bI_, bV_, bR_, and_self, and_true, true_and, ↓reduceIte, eq_self, oj_84, bI_1, bI_0, L0, L1, le_t, le_f, lt_t, lt_f, eq_t, eq_f, ncl, nI_add, nmul, nsub, ndiv, nrem, nrem', nrN]
            · rw [if_neg (by simp; omega)]
              simp (disch := omega) only [R_259_72, R_259_79, R_259_92, gd_t, bI_, bV_, bR_, and_self, and_true, true_and, ↓reduceIte, eq_self, oj_84, bI_1, bI_0, L0, L1, le_t, le_f, lt_t, lt_f, eq_t, eq_f, ncl, nI_add, nmul, nsub, ndiv, nrem, nrem', nrN]
        obtain ⟨H5, r', g5, eH, er⟩ := next
        subst eH
        rw [pkF_s, ← er]
        obtain ⟨h', g, rest⟩ := ihi (x + 1) fu H5 r' (by omega) (by omega) b4 e4 x4 (by rw [er]; split; exact hWx; exact hr)
        refine ⟨h', ?_, rest⟩
        show R_259_32 (SG_259 n) (H_259_32 (SG_259 n) fu) _ _ _ _ H = _
        rw [g4, g5]
        exact g
    obtain ⟨N, ef, hNf⟩ := fuL_s
    obtain ⟨H4, g4, b4, e4, x4⟩ := body (H_259_32 (SG_259 n) N) (if b = true then -nI 1 else nI 1000000) 0 h1 (by omega) b1 e1 x1
    obtain ⟨h', g, f, x'⟩ := loop (sN s) 1 N H4 (W 0, 0) (by omega) (by omega) b4 e4 x4 (Wl 0)
    have hW0 := Wl 0
    refine ⟨h', ?_, f, x'⟩
    show R_259_0 (SG_259 n) _ _ h = _
    rw [gV_s, eW, Wa 0]
    have c' : (nI n' = nI 0) = False := eq_f (by omega) (by omega) (by decide)
    cases b with
    | true =>
      have g72 : R_259_72 (SG_259 n) (H_259_32 (SG_259 n) N) (nI n') (nI 1) (-nI 1) (nI 0) (nI (W 0)) H4 = H_259_32 (SG_259 n) N (nI n') (nI 1) (nI (W 0)) (nI 1) H4 := by
        have : (nI (W 0) ≤ -nI 1) = False := eq_false (by
          rw [Int32.le_iff_toInt_le, nI_toInt (by omega), show (-nI 1).toInt = -1 from rfl]
          omega)
        simp (disch := omega) only [R_259_72, R_259_79, R_259_87, gd_t, bI_, bV_, bR_, and_self, and_true, true_and, ↓reduceIte, eq_self, oj_84, bI_1, bI_0, L0, L1, le_t, le_f, lt_t, lt_f, eq_t, eq_f, ncl, nI_add, nmul, nsub, ndiv, nrem, nrem', nrN, this]
      rw [if_pos rfl] at g4
      have g0 : H_259_32 (SG_259 n) fuL (nI n') (nI 1) (-nI 1) (nI 0) h1 = some (nI (pkF true W (sN s) 1 (W 0, 0)).1, h') := by
        rw [ef]
        show R_259_32 (SG_259 n) (H_259_32 (SG_259 n) N) _ _ _ _ h1 = _
        exact g4.trans (g72.trans g)
      simp (disch := omega) only [R_259_0, R_259_4, R_259_8, R_259_13, R_259_17, R_259_29, gd_t, bI_, bV_, bR_, and_self, and_true, true_and, ↓reduceIte, eq_self, oj_84, bI_1, bI_0, L0, L1, c', s_205 so o q.1, decide_eq_false ce, eq_f, g1, g0]
    | false =>
      have g72 : R_259_72 (SG_259 n) (H_259_32 (SG_259 n) N) (nI n') (nI 0) (nI 1000000) (nI 0) (nI (W 0)) H4 = H_259_32 (SG_259 n) N (nI n') (nI 0) (nI (W 0)) (nI 1) H4 := by
        simp (disch := omega) only [R_259_72, R_259_83, R_259_87, gd_t, bI_, bV_, bR_, and_self, and_true, true_and, ↓reduceIte, eq_self, oj_84, bI_1, bI_0, L0, L1, le_t, le_f, lt_t, lt_f, eq_t, eq_f, ncl, nI_add, nmul, nsub, ndiv, nrem, nrem', nrN]
      rw [if_neg (by decide)] at g4
      have g0 : H_259_32 (SG_259 n) fuL (nI n') (nI 0) (nI 1000000) (nI 0) h1 = some (nI (pkF false W (sN s) 1 (W 0, 0)).1, h') := by
        rw [ef]
        show R_259_32 (SG_259 n) (H_259_32 (SG_259 n) N) _ _ _ _ h1 = _
        rw [show nI 0 = bI false from rfl] at g72 ⊢
        exact g4.trans (g72.trans g)
      have LM : (1000000 : Int32) = nI 1000000 := rfl
      simp (disch := omega) only [R_259_0, R_259_4, R_259_8, R_259_13, R_259_21, R_259_29, gd_t, bI_, bV_, bR_, and_self, and_true, true_and, ↓reduceIte, eq_self, oj_84, bI_1, bI_0, L0, L1, c', s_205 so o q.1, decide_eq_false ce, eq_f, g1, LM, g0]
