/-! part 69: wouldBe, shelf, taken -/
def woA (s : Sg) (sz : Nat) (x : Nat → Int32) : Nat → Nat → Nat → Mo → Int32
  | 0, _, acc, _ => nI acc
  | r + 1, p, acc, m => if p < sz then (if rng 0 (sN s) (x p) = true ∧ ¬ sEnd s ≤ mNight m then woA s sz x r (p + 1) (acc + goW s m (x p).toNatClampNeg) (goM s m (x p).toNatClampNeg) else -nI 4) else -nI 12
theorem woA_s (s : Sg) (sz : Nat) (x : Nat → Int32) (r p acc : Nat) (m : Mo) : woA s sz x (r + 1) p acc m = if p < sz then (if rng 0 (sN s) (x p) = true ∧ ¬ sEnd s ≤ mNight m then woA s sz x r (p + 1) (acc + goW s m (x p).toNatClampNeg) (goM s m (x p).toNatClampNeg) else -nI 4) else -nI 12 := rfl
theorem l_156 {h : Hp} {s : Sg} {m0 : Mo} {t i0 n sz : Nat} {x : Nat → Int32} (so : SgOk s) (hs : SF h s) (hm0 : MoAt h 13 s m0) (ht : t < 4) (hi : i0 < 40) (hn : n ≤ 20) (h40 : sz ≤ 40) (q3 : h 52 t = nI sz) (q5 : ∀ j, j < sz → h (54 + t) j = x j) : ∀ (r j acc fu : Nat) (m : Mo) (H : Hp), j + r = n → r < fu → MoOk s m → Same [12, 35, 36, 37] h H → MoAt H 35 s m → mScore m = mScore m0 + nI acc → ∃ h', H_156_9 fu 50 (nI t) (nI i0) (nI n) 35 (nI j) H = some (woA s sz x r (i0 + j) acc m, h') ∧ Same [12, 35, 36, 37] h h' := by
  have hN := so.1
  have he := so.2.2.2.2.2
  intro r
  induction r with
  | zero =>
    intro j acc fu m H hj hf mo sH hm esc
    obtain ⟨fu, rfl⟩ : ∃ p, fu = p + 1 := ⟨fu - 1, by omega⟩
    have ej : j = n := by omega
    have e13 : H 13 4 = mScore m0 := by rw [sH 13 (by decide)]; exact hm0.score
    refine ⟨H, ?_, sH⟩
    simp (disch := omega) only [H_156_9, R_156_89, R_156_68, R_156_82, R_156_71, R_156_65, R_156_56, R_156_53, R_156_31, R_156_28, R_156_25, R_156_16, R_156_9, R_156_4, R_156_0, S_156, gd_t, bI_, bV_, bR_, and_self, and_true, true_and, ↓reduceIte, eq_self, oj_84, bI_1, bI_0, L0, L1, L2, L3, L4, L12, L13, L50, L54, le_t, le_f, lt_t, lt_f, eq_t, eq_f, ncl, nI_add, nmul, nsub, ndiv, nrem, nrem', nrN, ej, oj_35, hm.score, esc, e13, sub_l]
    rfl
  | succ r ih =>
    intro j acc fu m H hj hf mo sH hm esc
    obtain ⟨fu, rfl⟩ : ∃ p, fu = p + 1 := ⟨fu - 1, by omega⟩
    have hsH : SF H s := hs.same sH (by decide)
    have e52 : H 52 t = nI sz := by rw [sH 52 (by decide)]; exact q3
    have g150 := s_150 (h := H) (v := nI (i0 + j)) ht h40 e52
    rw [scn_b (by omega)] at g150
    rw [woA_s]
    by_cases c : i0 + j < sz
    · rw [if_pos c]
      rw [decide_eq_true c] at g150
      have ex : H (54 + t) (i0 + j) = x (i0 + j) := by rw [sH (54 + t) (by simp only [List.mem_cons, List.not_mem_nil, or_false]; omega)]; exact q5 _ c
      have g145 := s_145 (h := H) (v := x (i0 + j)) hN hsH.1.n
      cases hr : rng 0 (sN s) (x (i0 + j)) with
      | false =>
        rw [hr] at g145
        rw [if_neg (fun w => by cases w.1)]
        refine ⟨H, ?_, sH⟩
        simp (disch := omega) only [H_156_9, R_156_89, R_156_68, R_156_82, R_156_71, R_156_65, R_156_56, R_156_53, R_156_31, R_156_28, R_156_25, R_156_16, R_156_9, R_156_4, R_156_0, S_156, gd_t, bI_, bV_, bR_, and_self, and_true, true_and, ↓reduceIte, eq_self, oj_84, bI_1, bI_0, L0, L1, L2, L3, L4, L12, L13, L50, L54, le_t, le_f, lt_t, lt_f, eq_t, eq_f, ncl, nI_add, nmul, nsub, ndiv, nrem, nrem', nrN, oj_50, g150, vpN, iaI, ex, g145]
      | true =>
        rw [hr] at g145
        by_cases c2 : sEnd s ≤ mNight m
        · rw [if_neg (fun w => w.2 c2)]
          refine ⟨H, ?_, sH⟩
          simp (disch := omega) only [H_156_9, R_156_89, R_156_68, R_156_82, R_156_71, R_156_65, R_156_56, R_156_53, R_156_31, R_156_28, R_156_25, R_156_16, R_156_9, R_156_4, R_156_0, S_156, gd_t, bI_, bV_, bR_, and_self, and_true, true_and, ↓reduceIte, eq_self, oj_84, bI_1, bI_0, L0, L1, L2, L3, L4, L12, L13, L50, L54, le_t, le_f, lt_t, lt_f, eq_t, eq_f, ncl, nI_add, nmul, nsub, ndiv, nrem, nrem', nrN, oj_50, g150, vpN, iaI, ex, g145, s_38 mo35 so mo hsH.1 hm, c2, decide_true]
        · rw [if_pos ⟨rfl, c2⟩]
          obtain ⟨a, -, ha, exa⟩ := rng_t hr
          rw [exa] at g145 ex ⊢
          rw [ncl (by omega)]
          obtain ⟨h2, g2, s2, hm2⟩ := s_81 mo35 so mo hsH hm (act := a) (by omega)
          have nx := ih (j + 1) (acc + goW s m a) fu _ h2 (by omega) (by omega) (goOk mo (by omega)) (sH.tr s2) hm2 (by rw [goM_score mo, esc, Int32.add_assoc, nI_add])
          rw [← Nat.add_assoc] at nx
          simp (disch := omega) only [H_156_9, R_156_89, R_156_68, R_156_82, R_156_71, R_156_65, R_156_56, R_156_53, R_156_31, R_156_28, R_156_25, R_156_16, R_156_9, R_156_4, R_156_0, S_156, gd_t, bI_, bV_, bR_, and_self, and_true, true_and, ↓reduceIte, eq_self, oj_84, bI_1, bI_0, L0, L1, L2, L3, L4, L12, L13, L50, L54, le_t, le_f, lt_t, lt_f, eq_t, eq_f, ncl, nI_add, nmul, nsub, ndiv, nrem, nrem', nrN, oj_50, g150, vpN, iaI, ex, g145, s_38 mo35 so mo hsH.1 hm, c2, decide_false, g2]
          exact nx
    · rw [if_neg c]
      rw [decide_eq_false c] at g150
      refine ⟨H, ?_, sH⟩
      simp (disch := omega) only [H_156_9, R_156_89, R_156_68, R_156_82, R_156_71, R_156_65, R_156_56, R_156_53, R_156_31, R_156_28, R_156_25, R_156_16, R_156_9, R_156_4, R_156_0, S_156, gd_t, bI_, bV_, bR_, and_self, and_true, true_and, ↓reduceIte, eq_self, oj_84, bI_1, bI_0, L0, L1, L2, L3, L4, L12, L13, L50, L54, le_t, le_f, lt_t, lt_f, eq_t, eq_f, ncl, nI_add, nmul, nsub, ndiv, nrem, nrem', nrN, oj_50, g150]
theorem l_281 {h h1 : Hp} {s : Sg} {t i0 n sz : Nat} {x : Nat → Int32} (so : SgOk s) (h4 : h 84 4 = nI 0) (ht : t < 4) (hi : i0 < 40) (hn : n ≤ 20) (h40 : sz ≤ 40) (q4 : h 95 t = nI sz) (q5 : ∀ j, j < sz → h 96 (40 * t + j) = x j) : ∀ (r j acc fu : Nat) (m : Mo) (H : Hp), j + r = n → r + 1 < fu → MoOk s m → Brk 0 h H → (∀ j, j ≠ 4 → H 84 j = h 84 j) → SMd H s m → ∃ h', H_281_26 fu (nI t) (nI i0) (nI n) (nI acc) (nI j) H = some (woA s sz x r (i0 + j) acc m, h') ∧ Agr h h' := by
  have hN := so.1
  have he := so.2.2.2.2.2
  have stop : ∀ (a j fu : Nat) (H : Hp), 0 < a → a < 100 → j < 1000 → 0 < fu → Brk 0 h H → (∀ j, j ≠ 4 → H 84 j = h 84 j) → ∃ h', H_281_26 fu (nI t) (nI i0) (nI n) (-nI a) (nI j) H = some (-nI a, h') ∧ Agr h h' := by
    intro a j fu H ha ha2 hj hf bH xH
    obtain ⟨fu, rfl⟩ : ∃ p, fu = p + 1 := ⟨fu - 1, by omega⟩
    obtain ⟨h3, g3, b3, x3⟩ := s_231 (by decide) h4 bH
    refine ⟨h3, ?_, Agr.ofM (l := []) b3 (fun j _ hj => by rw [x3 j hj, xH j hj]) (fun j hj => by simp at hj)⟩
    by_cases c : n ≤ j <;> simp (disch := omega) only [H_281_26, R_281_142, R_281_138, R_281_102, R_281_129, R_281_109, R_281_99, R_281_95, R_281_92, R_281_66, R_281_59, R_281_56, R_281_37, R_281_32, R_281_26, R_281_23, R_281_16, R_281_13, R_281_6, R_281_0, S_281, gd_t, bI_, bV_, bR_, and_self, and_true, true_and, ↓reduceIte, eq_self, oj_84, bI_1, bI_0, L0, L1, L4, L12, L40, L85, L95, L96, le_t, le_f, lt_t, lt_f, eq_t, eq_f, ncl, nI_add, nmul, nsub, ndiv, nrem, nrem', nrN, c, neg_lt, g3]
  intro r
  induction r with
  | zero =>
    intro j acc fu m H hj hf mo bH xH q
    obtain ⟨fu, rfl⟩ : ∃ p, fu = p + 1 := ⟨fu - 1, by omega⟩
    have ej : j = n := by omega
    obtain ⟨h3, g3, b3, x3⟩ := s_231 (by decide) h4 bH
    refine ⟨h3, ?_, Agr.ofM (l := []) b3 (fun j _ hj => by rw [x3 j hj, xH j hj]) (fun j hj => by simp at hj)⟩
    simp (disch := omega) only [H_281_26, R_281_142, R_281_138, R_281_102, R_281_129, R_281_109, R_281_99, R_281_95, R_281_92, R_281_66, R_281_59, R_281_56, R_281_37, R_281_32, R_281_26, R_281_23, R_281_16, R_281_13, R_281_6, R_281_0, S_281, gd_t, bI_, bV_, bR_, and_self, and_true, true_and, ↓reduceIte, eq_self, oj_84, bI_1, bI_0, L0, L1, L4, L12, L40, L85, L95, L96, le_t, le_f, lt_t, lt_f, eq_t, eq_f, ncl, nI_add, nmul, nsub, ndiv, nrem, nrem', nrN, ej, g3]
    rfl
  | succ r ih =>
    intro j acc fu m H hj hf mo bH xH q
    obtain ⟨fu, rfl⟩ : ∃ p, fu = p + 1 := ⟨fu - 1, by omega⟩
    have e95 : H 95 t = nI sz := by rw [bH.1 95 (by decide) (by decide) (by decide) (by decide)]; exact q4
    have g177 := s_177a (h := H) (a := i0) (b := j) (n := sz) (by omega) (by omega) (by omega)
    rw [scn_b (by omega)] at g177
    have nlt : (nI acc < nI 0) = False := eq_false (by
      sorry)
    rw [woA_s]
    by_cases c : i0 + j < sz
    · rw [if_pos c]
      rw [decide_eq_true c] at g177
      have ex : H 96 (40 * t + i0 + j) = x (i0 + j) := by rw [bH.1 96 (by decide) (by decide) (by decide) (by decide), Nat.add_assoc]; exact q5 _ c
      have g145 := s_177r (h := H) (v := x (i0 + j)) (a := 0) (b := sN s) (by decide) (by omega)
      cases hr : rng 0 (sN s) (x (i0 + j)) with
      | false =>
        rw [hr] at g145
        rw [if_neg (fun w => by cases w.1)]
        obtain ⟨h3, g3, a3⟩ := stop 4 (j + 1) fu H (by decide) (by decide) (by omega) (by omega) bH xH
        refine ⟨h3, ?_, a3⟩
        simp (disch := omega) only [H_281_26, R_281_142, R_281_138, R_281_102, R_281_129, R_281_109, R_281_99, R_281_95, R_281_92, R_281_66, R_281_59, R_281_56, R_281_37, R_281_32, R_281_26, R_281_23, R_281_16, R_281_13, R_281_6, R_281_0, S_281, gd_t, bI_, bV_, bR_, and_self, and_true, true_and, ↓reduceIte, eq_self, oj_84, bI_1, bI_0, L0, L1, L4, L12, L40, L85, L95, L96, J0, e95, ia_95, ia_96, ia_85, ncl, nI_add, nmul, nlt, le_f, g177, ex, q.1.n, g145, eq_f]
        exact g3
      | true =>
        rw [hr] at g145
        by_cases c2 : sEnd s ≤ mNight m
        · rw [if_neg (fun w => w.2 c2)]
          obtain ⟨h3, g3, a3⟩ := stop 4 (j + 1) fu H (by decide) (by decide) (by omega) (by omega) bH xH
          refine ⟨h3, ?_, a3⟩
          simp (disch := omega) only [H_281_26, R_281_142, R_281_138, R_281_102, R_281_129, R_281_109, R_281_99, R_281_95, R_281_92, R_281_66, R_281_59, R_281_56, R_281_37, R_281_32, R_281_26, R_281_23, R_281_16, R_281_13, R_281_6, R_281_0, S_281, gd_t, bI_, bV_, bR_, and_self, and_true, true_and, ↓reduceIte, eq_self, oj_84, bI_1, bI_0, L0, L1, L4, L12, L40, L85, L95, L96, J0, e95, ia_95, ia_96, ia_85, ncl, nI_add, nmul, nlt, le_f, g177, ex, q.1.n, g145, eq_f, s_205 so mo q.1, c2, decide_true]
          exact g3
        · rw [if_pos ⟨rfl, c2⟩]
          obtain ⟨a, -, ha, exa⟩ := rng_t hr
          rw [exa] at g145 ex ⊢
          rw [ncl (by omega)]
          obtain ⟨h2, g2, q2, f2⟩ := s_226 so mo q (act := a) ha
          have nx := ih (j + 1) (acc + goW s m a) fu _ h2 (by omega) (by omega) (goOk mo (by omega)) (bH.mfr f2) (fun j hj => by rw [f2.1 84 (by decide) (by decide)]; exact xH j hj) q2
          rw [← Nat.add_assoc] at nx
          simp (disch := omega) only [H_281_26, R_281_142, R_281_138, R_281_102, R_281_129, R_281_109, R_281_99, R_281_95, R_281_92, R_281_66, R_281_59, R_281_56, R_281_37, R_281_32, R_281_26, R_281_23, R_281_16, R_281_13, R_281_6, R_281_0, S_281, gd_t, bI_, bV_, bR_, and_self, and_true, true_and, ↓reduceIte, eq_self, oj_84, bI_1, bI_0, L0, L1, L4, L12, L40, L85, L95, L96, J0, e95, ia_95, ia_96, ia_85, ncl, nI_add, nmul, nlt, le_f, g177, ex, q.1.n, g145, eq_f, s_205 so mo q.1, c2, decide_false, g2]
          exact nx
    · rw [if_neg c]
      rw [decide_eq_false c] at g177
      obtain ⟨h3, g3, a3⟩ := stop 12 (j + 1) fu H (by decide) (by decide) (by omega) (by omega) bH xH
      refine ⟨h3, ?_, a3⟩
      simp (disch := omega) only [H_281_26, R_281_142, R_281_138, R_281_102, R_281_129, R_281_109, R_281_99, R_281_95, R_281_92, R_281_66, R_281_59, R_281_56, R_281_37, R_281_32, R_281_26, R_281_23, R_281_16, R_281_13, R_281_6, R_281_0, S_281, gd_t, bI_, bV_, bR_, and_self, and_true, true_and, ↓reduceIte, eq_self, oj_84, bI_1, bI_0, L0, L1, L4, L12, L40, L85, L95, L96, J0, e95, ia_95, ncl, nI_add, nlt, le_f, g177]
      exact g3
