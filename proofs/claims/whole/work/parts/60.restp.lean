/-! part 60: on, when, prettyFor, placeFor, truth, night -/
theorem rng_n {a b n : Nat} (h1 : a ≤ n) (h2 : n ≤ b) (h3 : n < 2147483648) : rng a b (nI n) = true := by
  unfold rng
  rw [nI_toInt h3]
  exact decide_eq_true (by omega)
theorem scn_n {n k : Nat} (h : k < n) (hn : n < 2147483648) : scn n (nI k) = true := by
  unfold scn
  rw [nI_toInt (by omega)]
  exact decide_eq_true (by omega)
theorem J0 : (0 : Int64) = Int32.toInt64 (nI 0) := rfl
theorem J1 : (1 : Int64) = Int32.toInt64 (nI 1) := rfl
theorem J2 : (2 : Int64) = Int32.toInt64 (nI 2) := rfl
theorem J3 : (3 : Int64) = Int32.toInt64 (nI 3) := rfl
theorem J4 : (4 : Int64) = Int32.toInt64 (nI 4) := rfl
theorem J5 : (5 : Int64) = Int32.toInt64 (nI 5) := rfl
theorem J8 : (8 : Int64) = Int32.toInt64 (nI 8) := rfl
theorem J9 : (9 : Int64) = Int32.toInt64 (nI 9) := rfl
theorem J10 : (10 : Int64) = Int32.toInt64 (nI 10) := rfl
theorem J14 : (14 : Int64) = Int32.toInt64 (nI 14) := rfl
theorem J15 : (15 : Int64) = Int32.toInt64 (nI 15) := rfl
theorem J16 : (16 : Int64) = Int32.toInt64 (nI 16) := rfl
theorem J20 : (20 : Int64) = Int32.toInt64 (nI 20) := rfl
theorem J40 : (40 : Int64) = Int32.toInt64 (nI 40) := rfl
theorem J99 : (99 : Int64) = Int32.toInt64 (nI 99) := rfl
theorem J594 : (594 : Int64) = Int32.toInt64 (nI 594) := rfl
theorem J999 : (999 : Int64) = Int32.toInt64 (nI 999) := rfl
theorem Agr.rf {h : Hp} : Agr h h := ⟨fun _ _ => rfl, rfl, rfl, rfl, fun _ _ => rfl⟩
theorem Agr.of88 {h h' : Hp} (a : Same [88] h h') : Agr h h' := ⟨fun c e => a c (by unfold KeepC at e; simp only [List.mem_cons, List.not_mem_nil, or_false]; omega), by rw [a 16 (by decide)], by rw [a 21 (by decide)], by rw [a 61 (by decide)], fun j _ => by rw [a 84 (by decide)]⟩
theorem m_228 {h : Hp} {s : Sg} {m : Mo} {n : Nat} (so : SgOk s) (mo : MoOk s m) (q : SMd h s m) (h4 : h 84 4 = nI 0) (hn : n ≤ 16) : ∃ h', S_228 (nI n) h = some (nI (restW s n m), h') ∧ Agr h h' := by
  obtain ⟨h1, g1, b1, e1, x1⟩ := s_229 (by decide) h4
  have q1 : SMd h1 s m := by unfold SMd; rw [e1]; exact q
  obtain ⟨h2, g2, q2, o2, f2⟩ := s_230 so n 0 0 fuL m h1 mo q1 (fuL_gt (by omega)) (by omega)
  rw [Nat.zero_add, Nat.zero_add] at g2
  obtain ⟨h3, g3, b3, x3⟩ := s_231 (by decide) h4 (b1.mfr f2)
  refine ⟨h3, ?_, Agr.ofM (l := []) b3 (fun j _ hj => by rw [x3 j hj, f2.1 84 (by decide) (by decide), x1 j hj]) (fun j hj => by simp at hj)⟩
  have g2' : S_230 (nI n) h1 = some (nI (restW s n m), h2) := by
    simp (disch := omega) only [R_230_33, R_230_25, R_230_22, R_230_16, R_230_13, R_230_9, R_230_4, R_230_0, S_230, gd_t, bI_, bV_, bR_, and_self, and_true, true_and, ↓reduceIte, eq_self, oj_84, bI_1, bI_0, L0, L1, L9, L84]
    exact g2
  simp (disch := omega) only [R_228_28, R_228_23, R_228_18, R_228_14, R_228_12, R_228_9, R_228_0, S_228, gd_t, bI_, bV_, bR_, and_self, and_true, true_and, ↓reduceIte, eq_self, oj_84, bI_1, bI_0, L0, L1, L16, J0, J16, s_177r, rng_n, g1, g2', g3, eq_f]
theorem m_233 {h : Hp} {s : Sg} {m : Mo} {k : Nat} (so : SgOk s) (mo : MoOk s m) (q : SMd h s m) (h4 : h 84 4 = nI 0) (hk : k < sN s) : ∃ h', S_233 (nI k) h = some (if (mSet m).testBit k then -nI 3 else onI (whenF s k (sEnd s - mNight m) m), h') ∧ Agr h h' := by
  have hn6 := so.1
  have he := so.2.2.2.2.2
  cases hy : (mSet m).testBit k with
  | true =>
    have e1 : stB m k = 1 := by unfold stB; rw [hy]; rfl
    refine ⟨h, ?_, Agr.rf⟩
    simp (disch := omega) only [R_233_83, R_233_76, R_233_65, R_233_61, R_233_55, R_233_51, R_233_48, R_233_43, R_233_40, R_233_34, R_233_31, R_233_27, R_233_23, R_233_20, R_233_16, R_233_10, R_233_8, R_233_5, R_233_0, S_233, gd_t, bI_, bV_, bR_, and_self, and_true, true_and, ↓reduceIte, eq_self, oj_84, bI_1, bI_0, L0, L1, L3, L4, L9, L84, L85, le_t, le_f, lt_t, lt_f, eq_t, eq_f, ncl, nI_add, nmul, nsub, ndiv, nrem, nrem', nrN, s_180 hn6 q.1.n, scn_n, of4 q.1 so, e1]
  | false =>
    have e1 : stB m k = 0 := by unfold stB; rw [hy]; rfl
    obtain ⟨h1, g1, b1, e85, x1⟩ := s_229 (by decide) h4
    have q1 : SMd h1 s m := by unfold SMd; rw [e85]; exact q
    have fin : ∀ (m1 : Mo) (H : Hp), MoOk s m1 → SMd H s m1 → Brk 0 h H → (∀ j, j ≠ 4 → H 84 j = h 84 j) → ((mSet m1).testBit k = true → 1 ≤ mNight m1) → ∃ h', R_233_55 (nI k) H = some (if (mSet m1).testBit k then nI (mNight m1 - 1) else -nI 3, h') ∧ Agr h h' := by
      intro m1 H o1 qH bH xH hn1
      have hnt := o1.2.2
      obtain ⟨h3, g3, b3, x3⟩ := s_231 (by decide) h4 bH
      refine ⟨h3, ?_, Agr.ofM (l := []) b3 (fun j _ hj => by rw [x3 j hj, xH j hj]) (fun j hj => by simp at hj)⟩
      cases hz : (mSet m1).testBit k with
      | true =>
        have e2 : stB m1 k = 1 := by unfold stB; rw [hz]; rfl
        have h1n := hn1 hz
        simp (disch := omega) only [R_233_83, R_233_76, R_233_65, R_233_61, R_233_55, R_233_51, R_233_48, R_233_43, R_233_40, R_233_34, R_233_31, R_233_27, R_233_23, R_233_20, R_233_16, R_233_10, R_233_8, R_233_5, R_233_0, S_233, gd_t, bI_, bV_, bR_, and_self, and_true, true_and, ↓reduceIte, eq_self, oj_84, bI_1, bI_0, L0, L1, L3, L4, L9, L84, L85, le_t, le_f, lt_t, lt_f, eq_t, eq_f, ncl, nI_add, nmul, nsub, ndiv, nrem, nrem', nrN, ia_85, of4 qH.1 so, e2, qH.1.night, g3, if_true]
      | false =>
        have e2 : stB m1 k = 0 := by unfold stB; rw [hz]; rfl
        simp (disch := omega) only [R_233_83, R_233_76, R_233_65, R_233_61, R_233_55, R_233_51, R_233_48, R_233_43, R_233_40, R_233_34, R_233_31, R_233_27, R_233_23, R_233_20, R_233_16, R_233_10, R_233_8, R_233_5, R_233_0, S_233, gd_t, bI_, bV_, bR_, and_self, and_true, true_and, ↓reduceIte, eq_self, oj_84, bI_1, bI_0, L0, L1, L3, L4, L9, L84, L85, le_t, le_f, lt_t, lt_f, eq_t, eq_f, ncl, nI_add, nmul, nsub, ndiv, nrem, nrem', nrN, ia_85, of4 qH.1 so, e2, qH.1.night, g3]
        rfl
    have loop : ∀ (f fu : Nat) (m1 : Mo) (H : Hp), f + 1 < fu → f = sEnd s - mNight m1 → MoOk s m1 → SMd H s m1 → Brk 0 h H → (∀ j, j ≠ 4 → H 84 j = h 84 j) → (mSet m1).testBit k = false → ∃ h', H_233_27 fu (nI k) H = some (onI (whenF s k f m1), h') ∧ Agr h h' := by
      intro f
      induction f with
      | zero =>
        intro fu m1 H hf hff o1 qH bH xH hz
        obtain ⟨fu, rfl⟩ : ∃ p, fu = p + 1 := ⟨fu - 1, by omega⟩
        have c : sEnd s ≤ mNight m1 := by omega
        obtain ⟨h3, g3, a3⟩ := fin m1 H o1 qH bH xH (fun w => by rw [hz] at w; cases w)
        rw [hz] at g3
        refine ⟨h3, ?_, a3⟩
        simp (disch := omega) only [H_233_27, R_233_27, R_233_31, gd_t, bI_, bV_, bR_, and_self, and_true, true_and, ↓reduceIte, eq_self, oj_84, bI_1, bI_0, L0, L1, L3, L4, L9, L84, L85, le_t, le_f, lt_t, lt_f, eq_t, eq_f, ncl, nI_add, nmul, nsub, ndiv, nrem, nrem', nrN, s_205 so o1 qH.1, c, decide_true]
        exact g3
      | succ f ih =>
        intro fu m1 H hf hff o1 qH bH xH hz
        obtain ⟨fu, rfl⟩ : ∃ p, fu = p + 1 := ⟨fu - 1, by omega⟩
        have c : ¬ sEnd s ≤ mNight m1 := by omega
        have e2 : stB m1 k = 0 := by unfold stB; rw [hz]; rfl
        rw [whenF_s, if_neg c]
        obtain ⟨h2, g2, s2⟩ := s_225 so o1 qH
        obtain ⟨h3, g3, q3, f3⟩ := s_226 so o1 (qH.same s2) (actS_le s m1)
        have o3 : MoOk s (goM s m1 (actS s m1)) := goOk o1 (by omega)
        have hnt := goM_night (act := actS s m1) o1
        have fM := (MFr.of88 s2).tr f3
        have b3 := bH.mfr fM
        have x3 : ∀ j, j ≠ 4 → h3 84 j = h 84 j := fun j hj => by rw [fM.1 84 (by decide) (by decide)]; exact xH j hj
        cases hw : (mSet (goM s m1 (actS s m1))).testBit k with
        | false =>
          obtain ⟨h4', g4, a4⟩ := ih fu _ h3 (by omega) (by omega) o3 q3 b3 x3 hw
          refine ⟨h4', ?_, a4⟩
          simp (disch := omega) only [H_233_27, R_233_27, R_233_31, R_233_34, R_233_40, R_233_43, R_233_48, R_233_51, gd_t, bI_, bV_, bR_, and_self, and_true, true_and, ↓reduceIte, eq_self, oj_84, bI_1, bI_0, L0, L1, L3, L4, L9, L84, L85, le_t, le_f, lt_t, lt_f, eq_t, eq_f, ncl, nI_add, nmul, nsub, ndiv, nrem, nrem', nrN, s_205 so o1 qH.1, c, decide_false, of4 qH.1 so, e2, g2, g3]
          exact g4
        | true =>
          have e3 : stB (goM s m1 (actS s m1)) k = 1 := by unfold stB; rw [hw]; rfl
          obtain ⟨h5, g5, a5⟩ := fin _ h3 o3 q3 b3 x3 (fun _ => by omega)
          rw [hw, hnt] at g5
          refine ⟨h5, ?_, a5⟩
          obtain ⟨fu, rfl⟩ : ∃ p, fu = p + 1 := ⟨fu - 1, by omega⟩
          by_cases c2 : sEnd s ≤ mNight (goM s m1 (actS s m1))
          · simp (disch := omega) only [H_233_27, R_233_27, R_233_31, R_233_34, R_233_40, R_233_43, R_233_48, R_233_51, gd_t, bI_, bV_, bR_, and_self, and_true, true_and, ↓reduceIte, eq_self, oj_84, bI_1, bI_0, L0, L1, L3, L4, L9, L84, L85, le_t, le_f, lt_t, lt_f, eq_t, eq_f, ncl, nI_add, nmul, nsub, ndiv, nrem, nrem', nrN, s_205 so o1 qH.1, s_205 so o3 q3.1, c, c2, decide_false, decide_true, of4 qH.1 so, e2, g2, g3]
            exact g5
          · simp (disch := omega) only [H_233_27, R_233_27, R_233_31, R_233_34, R_233_40, R_233_43, R_233_48, R_233_51, gd_t, bI_, bV_, bR_, and_self, and_true, true_and, ↓reduceIte, eq_self, oj_84, bI_1, bI_0, L0, L1, L3, L4, L9, L84, L85, le_t, le_f, lt_t, lt_f, eq_t, eq_f, ncl, nI_add, nmul, nsub, ndiv, nrem, nrem', nrN, s_205 so o1 qH.1, s_205 so o3 q3.1, c, c2, decide_false, decide_true, of4 qH.1 so, of4 q3.1 so, e2, e3, g2, g3]
            exact g5
    obtain ⟨h3, g3, a3⟩ := loop (sEnd s - mNight m) fuL m h1 (fuL_gt (by omega)) rfl mo q1 b1 x1 hy
    refine ⟨h3, ?_, a3⟩
    simp (disch := omega) only [R_233_0, R_233_5, R_233_10, R_233_16, R_233_23, S_233, gd_t, bI_, bV_, bR_, and_self, and_true, true_and, ↓reduceIte, eq_self, oj_84, bI_1, bI_0, L0, L1, L3, L4, L9, L84, L85, le_t, le_f, lt_t, lt_f, eq_t, eq_f, ncl, nI_add, nmul, nsub, ndiv, nrem, nrem', nrN, s_180 hn6 q.1.n, scn_n, of4 q.1 so, e1, g1]
    exact g3
theorem m_237 {h : Hp} {s : Sg} {m : Mo} {v : Nat} (so : SgOk s) (mo : MoOk s m) (q : SMd h s m) (h4 : h 84 4 = nI 0) (hv : v ≤ 594) : ∃ h', S_237 (nI v) h = some (if v ≤ truS (truF s v (sEnd s - mNight m) m) (sN s) then nI (mNight (truF s v (sEnd s - mNight m) m)) else -nI 3, h') ∧ Agr h h' := by
  have hn6 := so.1
  have he := so.2.2.2.2.2
  obtain ⟨h1, g1, b1, e85, x1⟩ := s_229 (by decide) h4
  have q1 : SMd h1 s m := by unfold SMd; rw [e85]; exact q
  have fin : ∀ (m1 : Mo) (H : Hp), MoOk s m1 → SMd H s m1 → Brk 0 h H → (∀ j, j ≠ 4 → H 84 j = h 84 j) → ∃ h', R_237_45 (nI v) H = some (if v ≤ truS m1 (sN s) then nI (mNight m1) else -nI 3, h') ∧ Agr h h' := by
    intro m1 H o1 qH bH xH
    have ht := truS_le o1 (sN s) (Nat.le_refl _)
    obtain ⟨h3, g3, b3, x3⟩ := s_231 (by decide) h4 bH
    refine ⟨h3, ?_, Agr.ofM (l := []) b3 (fun j _ hj => by rw [x3 j hj, xH j hj]) (fun j hj => by simp at hj)⟩
    by_cases c : v ≤ truS m1 (sN s)
    · simp (disch := omega) only [R_237_69, R_237_62, R_237_53, R_237_49, R_237_45, R_237_41, R_237_38, R_237_33, R_237_29, R_237_25, R_237_22, R_237_18, R_237_14, R_237_12, R_237_9, R_237_0, S_237, gd_t, bI_, bV_, bR_, and_self, and_true, true_and, ↓reduceIte, eq_self, oj_84, bI_1, bI_0, L0, L1, L3, L9, L84, L85, L594, le_t, le_f, lt_t, lt_f, eq_t, eq_f, ncl, nI_add, nmul, nsub, ndiv, nrem, nrem', nrN, ia_85, s_207 so qH.1, c, qH.1.night, g3, if_true]
    · simp (disch := omega) only [R_237_69, R_237_62, R_237_53, R_237_49, R_237_45, R_237_41, R_237_38, R_237_33, R_237_29, R_237_25, R_237_22, R_237_18, R_237_14, R_237_12, R_237_9, R_237_0, S_237, gd_t, bI_, bV_, bR_, and_self, and_true, true_and, ↓reduceIte, eq_self, oj_84, bI_1, bI_0, L0, L1, L3, L9, L84, L85, L594, le_t, le_f, lt_t, lt_f, eq_t, eq_f, ncl, nI_add, nmul, nsub, ndiv, nrem, nrem', nrN, ia_85, s_207 so qH.1, c, qH.1.night, g3, if_false]
  have loop : ∀ (f fu : Nat) (m1 : Mo) (H : Hp), f < fu → f = sEnd s - mNight m1 → MoOk s m1 → SMd H s m1 → Brk 0 h H → (∀ j, j ≠ 4 → H 84 j = h 84 j) → ∃ h', H_237_18 fu (nI v) H = some (if v ≤ truS (truF s v f m1) (sN s) then nI (mNight (truF s v f m1)) else -nI 3, h') ∧ Agr h h' := by
    intro f
    induction f with
    | zero =>
      intro fu m1 H hf hff o1 qH bH xH
      obtain ⟨fu, rfl⟩ : ∃ p, fu = p + 1 := ⟨fu - 1, by omega⟩
      have c : sEnd s ≤ mNight m1 := by omega
      obtain ⟨h3, g3, a3⟩ := fin m1 H o1 qH bH xH
      refine ⟨h3, ?_, a3⟩
      simp (disch := omega) only [H_237_18, R_237_18, R_237_22, gd_t, bI_, bV_, bR_, and_self, and_true, true_and, ↓reduceIte, eq_self, oj_84, bI_1, bI_0, L0, L1, L3, L9, L84, L85, L594, le_t, le_f, lt_t, lt_f, eq_t, eq_f, ncl, nI_add, nmul, nsub, ndiv, nrem, nrem', nrN, s_205 so o1 qH.1, c, decide_true]
      exact g3
    | succ f ih =>
      intro fu m1 H hf hff o1 qH bH xH
      obtain ⟨fu, rfl⟩ : ∃ p, fu = p + 1 := ⟨fu - 1, by omega⟩
      have c : ¬ sEnd s ≤ mNight m1 := by omega
      have ht := truS_le o1 (sN s) (Nat.le_refl _)
      rw [truF_s, if_neg c]
      by_cases c3 : v ≤ truS m1 (sN s)
      · rw [if_pos c3]
        obtain ⟨h3, g3, a3⟩ := fin m1 H o1 qH bH xH
        rw [if_pos c3] at g3
        refine ⟨h3, ?_, a3⟩
        simp (disch := omega) only [H_237_18, R_237_18, R_237_22, R_237_25, R_237_29, gd_t, bI_, bV_, bR_, and_self, and_true, true_and, ↓reduceIte, eq_self, oj_84, bI_1, bI_0, L0, L1, L3, L9, L84, L85, L594, le_t, le_f, lt_t, lt_f, eq_t, eq_f, ncl, nI_add, nmul, nsub, ndiv, nrem, nrem', nrN, s_205 so o1 qH.1, c, decide_false, s_207 so qH.1, c3]
        exact g3
      · rw [if_neg c3]
        obtain ⟨h2, g2, s2⟩ := s_225 so o1 qH
        obtain ⟨h3, g3, q3, f3⟩ := s_226 so o1 (qH.same s2) (actS_le s m1)
        have o3 : MoOk s (goM s m1 (actS s m1)) := goOk o1 (by omega)
        have hnt := goM_night (act := actS s m1) o1
        have fM := (MFr.of88 s2).tr f3
        obtain ⟨h4', g4, a4⟩ := ih fu _ h3 (by omega) (by omega) o3 q3 (bH.mfr fM) (fun j hj => by rw [fM.1 84 (by decide) (by decide)]; exact xH j hj)
        refine ⟨h4', ?_, a4⟩
        simp (disch := omega) only [H_237_18, R_237_18, R_237_22, R_237_25, R_237_29, R_237_33, R_237_38, R_237_41, gd_t, bI_, bV_, bR_, and_self, and_true, true_and, ↓reduceIte, eq_self, oj_84, bI_1, bI_0, L0, L1, L3, L9, L84, L85, L594, le_t, le_f, lt_t, lt_f, eq_t, eq_f, ncl, nI_add, nmul, nsub, ndiv, nrem, nrem', nrN, s_205 so o1 qH.1, c, decide_false, s_207 so qH.1, c3, g2, g3]
        exact g4
  obtain ⟨h3, g3, a3⟩ := loop (sEnd s - mNight m) fuL m h1 (fuL_gt (by omega)) rfl mo q1 b1 x1
  refine ⟨h3, ?_, a3⟩
  simp (disch := omega) only [R_237_0, R_237_9, R_237_14, S_237, gd_t, bI_, bV_, bR_, and_self, and_true, true_and, ↓reduceIte, eq_self, oj_84, bI_1, bI_0, L0, L1, L3, L9, L84, L85, L594, J0, J594, s_177r, rng_n, g1, eq_f]
  exact g3
theorem m_235 {h : Hp} {k w most : Nat} {W : Nat → Nat} (h4 : h 84 4 = nI 0) (hW : ∀ v, v ≤ most → ∀ H, H 85 = upd (h 85) (35 + 5 * k + w) (nI v) → W v < 2147483648 ∧ ∃ H', S_230 (nI 16) H = some (nI (W v), H') ∧ MFr H H') (hk : k < 6) (hw : w < 5) (hmost : most ≤ 9) : ∃ h', S_235 (nI k) (nI w) (nI most) h = some (nI (bestS W most), h') ∧ Agr h h' := by
  obtain ⟨h1, g1, b1, e85, x1⟩ := s_229 (by decide) h4
  have step : ∀ v, v ≤ most → ∀ H, Brk 0 h H → H 85 = h 85 → (∀ j, j ≠ 4 → H 84 j = h 84 j) → W v < 2147483648 ∧ ∃ H2, (∀ α (f : Int32 → Hp → Option α), bndI (S_230 (nI 16) (wr H 85 (35 + 5 * k + w) (nI v))) f = f (nI (W v)) H2) ∧ ∃ H3, S_232 H2 = some (0, H3) ∧ Brk 0 h H3 ∧ H3 85 = h 85 ∧ ∀ j, j ≠ 4 → H3 84 j = h 84 j := by
    intro v hv H bH e xH
    obtain ⟨hlt, H2, g2, f2⟩ := hW v hv (wr H 85 (35 + 5 * k + w) (nI v)) (by rw [wr_row, e])
    have bW : Brk 0 h (wr H 85 (35 + 5 * k + w) (nI v)) := bH.w85 (by omega)
    obtain ⟨H3, g3, b3, e3, s3⟩ := s_232 (by decide) (bW.mfr f2)
    refine ⟨hlt, H2, fun α f => by rw [g2]; rfl, H3, g3, b3, e3, fun j hj => ?_⟩
    rw [s3 84 (by decide), f2.1 84 (by decide) (by decide), wr_c (by decide), xH j hj]
  have loop : ∀ (j v b t fu : Nat) (H : Hp), j < fu → v + j = most + 1 → t < 2147483648 → Brk 0 h H → H 85 = h 85 → (∀ j, j ≠ 4 → H 84 j = h 84 j) → ∃ h', H_235_13 fu (nI k) (nI w) (nI most) (nI b) (nI t) (nI v) H = some (nI (bestF W j v b t), h') ∧ Agr h h' := by
    intro j
    induction j with
    | zero =>
      intro v b t fu H hf hv ht bH e xH
      obtain ⟨fu, rfl⟩ : ∃ p, fu = p + 1 := ⟨fu - 1, by omega⟩
      obtain ⟨h3, g3, b3, x3⟩ := s_231 (by decide) h4 bH
      refine ⟨h3, ?_, Agr.ofM (l := []) b3 (fun j _ hj => by rw [x3 j hj, xH j hj]) (fun j hj => by simp at hj)⟩
      simp (disch := omega) only [H_235_13, R_235_64, R_235_60, R_235_54, R_235_46, R_235_39, R_235_33, R_235_27, R_235_19, R_235_13, R_235_4, R_235_0, S_235, gd_t, bI_, bV_, bR_, and_self, and_true, true_and, ↓reduceIte, eq_self, oj_84, bI_1, bI_0, L0, L1, L16, le_t, le_f, lt_t, lt_f, eq_t, eq_f, ncl, nI_add, nmul, nsub, ndiv, nrem, nrem', nrN, g3]
      rfl
    | succ j ih =>
      intro v b t fu H hf hv ht bH e xH
      obtain ⟨fu, rfl⟩ : ∃ p, fu = p + 1 := ⟨fu - 1, by omega⟩
      obtain ⟨hlt, H2, g2, H3, g3, b3, e3, x3⟩ := step v (by omega) H bH e xH
      rw [bestF_s]
      by_cases c : W v ≤ t
      · rw [if_pos c]
        obtain ⟨h5, g5, a5⟩ := ih (v + 1) b t fu H3 (by omega) (by omega) ht b3 e3 x3
        refine ⟨h5, ?_, a5⟩
        simp (disch := omega) only [H_235_13, R_235_64, R_235_60, R_235_54, R_235_46, R_235_39, R_235_33, R_235_27, R_235_19, R_235_13, R_235_4, R_235_0, S_235, gd_t, bI_, bV_, bR_, and_self, and_true, true_and, ↓reduceIte, eq_self, oj_84, bI_1, bI_0, L0, L1, L16, le_t, le_f, lt_t, lt_f, eq_t, eq_f, ncl, nI_add, nmul, nsub, ndiv, nrem, nrem', nrN, s_178, g2, g3, c]
        exact g5
      · rw [if_neg c]
        obtain ⟨h5, g5, a5⟩ := ih (v + 1) v (W v) fu H3 (by omega) (by omega) hlt b3 e3 x3
        refine ⟨h5, ?_, a5⟩
        simp (disch := omega) only [H_235_13, R_235_64, R_235_60, R_235_54, R_235_46, R_235_39, R_235_33, R_235_27, R_235_19, R_235_13, R_235_4, R_235_0, S_235, gd_t, bI_, bV_, bR_, and_self, and_true, true_and, ↓reduceIte, eq_self, oj_84, bI_1, bI_0, L0, L1, L16, le_t, le_f, lt_t, lt_f, eq_t, eq_f, ncl, nI_add, nmul, nsub, ndiv, nrem, nrem', nrN, s_178, g2, g3, c]
        exact g5
  obtain ⟨hlt, H2, g2, H3, g3, b3, e3, x3⟩ := step 0 (by omega) h1 b1 e85 x1
  obtain ⟨N, ef, hN⟩ := fuL_s
  obtain ⟨h5, g5, a5⟩ := loop most 1 0 (W 0) N H3 (by omega) (by omega) hlt b3 e3 x3
  have hneg : ¬ nI (W 0) ≤ -nI 1 := by
    rw [Int32.le_iff_toInt_le, nI_toInt hlt]
    show ¬ ((W 0 : Nat) : Int) ≤ -1
    omega
  refine ⟨h5, ?_, a5⟩
  simp (disch := omega) only [R_235_64, R_235_60, R_235_54, R_235_46, R_235_39, R_235_33, R_235_27, R_235_19, R_235_13, R_235_4, R_235_0, S_235, ef, gd_t, bI_, bV_, bR_, and_self, and_true, true_and, ↓reduceIte, eq_self, oj_84, bI_1, bI_0, L0, L1, L16, H_235_13, lt_f, s_178, g1, g2, g3, hneg, nI_add, Nat.zero_add]
  exact g5
