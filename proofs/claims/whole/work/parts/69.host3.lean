/-! part 69: wouldBe, shelf, taken -/
def woA (s : Sg) (sz : Nat) (x : Nat → Int32) : Nat → Nat → Nat → Mo → Int32
  | 0, _, acc, _ => nI acc
  | r + 1, p, acc, m => if p < sz then (if rng 0 (sN s) (x p) = true ∧ ¬ sEnd s ≤ mNight m then woA s sz x r (p + 1) (acc + goW s m (x p).toNatClampNeg) (goM s m (x p).toNatClampNeg) else -nI 4) else -nI 12
theorem woA_s (s : Sg) (sz : Nat) (x : Nat → Int32) (r p acc : Nat) (m : Mo) : woA s sz x (r + 1) p acc m = if p < sz then (if rng 0 (sN s) (x p) = true ∧ ¬ sEnd s ≤ mNight m then woA s sz x r (p + 1) (acc + goW s m (x p).toNatClampNeg) (goM s m (x p).toNatClampNeg) else -nI 4) else -nI 12 := rfl
theorem l_156 {h : Hp} {s : Sg} {m0 : Mo} {t i0 n sz : Nat} {x : Nat → Int32} (so : SgOk s) (hs : SF h s) (hm0 : MoAt h 13 s m0) (ht : t < 4) (hi : i0 < 40) (hn : n ≤ 20) (h40 : sz ≤ 40) (q3 : h 52 t = nI sz) (q5 : ∀ j, j < sz → h (54 + t) j = x j) : ∀ (r j acc fu : Nat) (m : Mo) (H : Hp), j + r = n → r < fu → MoOk s m → Same [12, 35, 36, 37] h H → MoAt H 35 s m → mScore m = mScore m0 + nI acc → ∃ h', H_156_9 fu 50 (nI t) (nI i0) (nI n) 35 (nI j) H = some (woA s sz x r (i0 + j) acc m, h') ∧ Same [12, 35, 36, 37] h h' := by
  have hN := so.1
  have he := so.2.2.2.2.2
  intro r
  induction r with
  | zero =>
    intro j acc fu m H hj hf mo sH hm esc
    obtain ⟨fu, rfl⟩ : ∃ p, fu = p + 1 := ⟨fu - 1, by omega⟩
    have ej : j = n := by omega
    have e13 : H 13 4 = mScore m0 := by rw [sH 13 (by decide)]; exact hm0.score
    refine ⟨H, ?_, sH⟩
    simp (disch := omega) only [H_156_9, R_156_89, R_156_68, R_156_82, R_156_71, R_156_65, R_156_56, R_156_53, R_156_31, R_156_28, R_156_25, R_156_16, R_156_9, R_156_4, R_156_0, S_156, gd_t, bI_, bV_, bR_, and_self, and_true, true_and, ↓reduceIte, eq_self, oj_84, bI_1, bI_0, L0, L1, L2, L3, L4, L12, L13, L50, L54, le_t, le_f, lt_t, lt_f, eq_t, eq_f, ncl, nI_add, nmul, nsub, ndiv, nrem, nrem', nrN, ej, oj_35, hm.score, esc, e13, sub_l]
    rfl
  | succ r ih =>
    intro j acc fu m H hj hf mo sH hm esc
    obtain ⟨fu, rfl⟩ : ∃ p, fu = p + 1 := ⟨fu - 1, by omega⟩
    have hsH : SF H s := hs.same sH (by decide)
    have e52 : H 52 t = nI sz := by rw [sH 52 (by decide)]; exact q3
    have g150 := s_150 (h := H) (v := nI (i0 + j)) ht h40 e52
    rw [scn_b (by omega)] at g150
    rw [woA_s]
    by_cases c : i0 + j < sz
    · rw [if_pos c]
      rw [decide_eq_true c] at g150
      have ex : H (54 + t) (i0 + j) = x (i0 + j) := by rw [sH (54 + t) (by simp only [List.mem_cons, List.not_mem_nil, or_false]; omega)]; exact q5 _ c
      have g145 := s_145 (h := H) (v := x (i0 + j)) hN hsH.1.n
      cases hr : rng 0 (sN s) (x (i0 + j)) with
      | false =>
        rw [hr] at g145
        rw [if_neg (fun w => by cases w.1)]
        refine ⟨H, ?_, sH⟩
        simp (disch := omega) only [H_156_9, R_156_89, R_156_68, R_156_82, R_156_71, R_156_65, R_156_56, R_156_53, R_156_31, R_156_28, R_156_25, R_156_16, R_156_9, R_156_4, R_156_0, S_156, gd_t, bI_, bV_, bR_, and_self, and_true, true_and, ↓reduceIte, eq_self, oj_84, bI_1, bI_0, L0, L1, L2, L3, L4, L12, L13, L50, L54, le_t, le_f, lt_t, lt_f, eq_t, eq_f, ncl, nI_add, nmul, nsub, ndiv, nrem, nrem', nrN, oj_50, g150, vpN, iaI, ex, g145]
      | true =>
        rw [hr] at g145
        by_cases c2 : sEnd s ≤ mNight m
        · rw [if_neg (fun w => w.2 c2)]
          refine ⟨H, ?_, sH⟩
          simp (disch := omega) only [H_156_9, R_156_89, R_156_68, R_156_82, R_156_71, R_156_65, R_156_56, R_156_53, R_156_31, R_156_28, R_156_25, R_156_16, R_156_9, R_156_4, R_156_0, S_156, gd_t, bI_, bV_, bR_, and_self, and_true, true_and, ↓reduceIte, eq_self, oj_84, bI_1, bI_0, L0, L1, L2, L3, L4, L12, L13, L50, L54, le_t, le_f, lt_t, lt_f, eq_t, eq_f, ncl, nI_add, nmul, nsub, ndiv, nrem, nrem', nrN, oj_50, g150, vpN, iaI, ex, g145, s_38 mo35 so mo hsH.1 hm, c2, decide_true]
        · rw [if_pos ⟨rfl, c2⟩]
          obtain ⟨a, -, ha, exa⟩ := rng_t hr
          rw [exa] at g145 ex ⊢
          rw [ncl (by omega)]
          obtain ⟨h2, g2, s2, hm2⟩ := s_81 mo35 so mo hsH hm (act := a) (by omega)
          have nx := ih (j + 1) (acc + goW s m a) fu _ h2 (by omega) (by omega) (goOk mo (by omega)) (sH.tr s2) hm2 (by rw [goM_score mo, esc, Int32.add_assoc, nI_add])
          rw [← Nat.add_assoc] at nx
          simp (disch := omega) only [H_156_9, R_156_89, R_156_68, R_156_82, R_156_71, R_156_65, R_156_56, R_156_53, R_156_31, R_156_28, R_156_25, R_156_16, R_156_9, R_156_4, R_156_0, S_156, gd_t, bI_, bV_, bR_, and_self, and_true, true_and, ↓reduceIte, eq_self, oj_84, bI_1, bI_0, L0, L1, L2, L3, L4, L12, L13, L50, L54, le_t, le_f, lt_t, lt_f, eq_t, eq_f, ncl, nI_add, nmul, nsub, ndiv, nrem, nrem', nrN, oj_50, g150, vpN, iaI, ex, g145, s_38 mo35 so mo hsH.1 hm, c2, decide_false, g2]
          exact nx
    · rw [if_neg c]
      rw [decide_eq_false c] at g150
      refine ⟨H, ?_, sH⟩
      simp (disch := omega) only [H_156_9, R_156_89, R_156_68, R_156_82, R_156_71, R_156_65, R_156_56, R_156_53, R_156_31, R_156_28, R_156_25, R_156_16, R_156_9, R_156_4, R_156_0, S_156, gd_t, bI_, bV_, bR_, and_self, and_true, true_and, ↓reduceIte, eq_self, oj_84, bI_1, bI_0, L0, L1, L2, L3, L4, L12, L13, L50, L54, le_t, le_f, lt_t, lt_f, eq_t, eq_f, ncl, nI_add, nmul, nsub, ndiv, nrem, nrem', nrN, oj_50, g150]
theorem l_281 {h : Hp} {s : Sg} {t i0 n sz : Nat} {x : Nat → Int32} (so : SgOk s) (h4 : h 84 4 = nI 0) (ht : t < 4) (hi : i0 < 40) (hn : n ≤ 20) (h40 : sz ≤ 40) (q4 : h 95 t = nI sz) (q5 : ∀ j, j < sz → h 96 (40 * t + j) = x j) : ∀ (r j acc fu : Nat) (m : Mo) (H : Hp), j + r = n → r + 1 < fu → acc ≤ 453 * j → MoOk s m → Brk 0 h H → (∀ j, j ≠ 4 → H 84 j = h 84 j) → SMd H s m → ∃ h', H_281_26 fu (nI t) (nI i0) (nI n) (nI acc) (nI j) H = some (woA s sz x r (i0 + j) acc m, h') ∧ Agr h h' := by
  have hN := so.1
  have he := so.2.2.2.2.2
  have stop : ∀ (a j fu : Nat) (H : Hp), 0 < a → a < 100 → j < 1000 → 0 < fu → Brk 0 h H → (∀ j, j ≠ 4 → H 84 j = h 84 j) → ∃ h', H_281_26 fu (nI t) (nI i0) (nI n) (-nI a) (nI j) H = some (-nI a, h') ∧ Agr h h' := by
    intro a j fu H ha ha2 hj hf bH xH
    obtain ⟨fu, rfl⟩ : ∃ p, fu = p + 1 := ⟨fu - 1, by omega⟩
    obtain ⟨h3, g3, b3, x3⟩ := s_231 (by decide) h4 bH
    refine ⟨h3, ?_, Agr.ofM (l := []) b3 (fun j _ hj => by rw [x3 j hj, xH j hj]) (fun j hj => by simp at hj)⟩
    by_cases c : n ≤ j <;> simp (disch := omega) only [H_281_26, R_281_142, R_281_138, R_281_102, R_281_129, R_281_109, R_281_99, R_281_95, R_281_92, R_281_66, R_281_59, R_281_56, R_281_37, R_281_32, R_281_26, R_281_23, R_281_16, R_281_13, R_281_6, R_281_0, S_281, gd_t, bI_, bV_, bR_, and_self, and_true, true_and, ↓reduceIte, eq_self, oj_84, bI_1, bI_0, L0, L1, L4, L12, L40, L85, L95, L96, le_t, le_f, lt_t, lt_f, eq_t, eq_f, ncl, nI_add, nmul, nsub, ndiv, nrem, nrem', nrN, c, neg_lt, g3]
  intro r
  induction r with
  | zero =>
    intro j acc fu m H hj hf hac mo bH xH q
    obtain ⟨fu, rfl⟩ : ∃ p, fu = p + 1 := ⟨fu - 1, by omega⟩
    have ej : j = n := by omega
    obtain ⟨h3, g3, b3, x3⟩ := s_231 (by decide) h4 bH
    refine ⟨h3, ?_, Agr.ofM (l := []) b3 (fun j _ hj => by rw [x3 j hj, xH j hj]) (fun j hj => by simp at hj)⟩
    simp (disch := omega) only [H_281_26, R_281_142, R_281_138, R_281_102, R_281_129, R_281_109, R_281_99, R_281_95, R_281_92, R_281_66, R_281_59, R_281_56, R_281_37, R_281_32, R_281_26, R_281_23, R_281_16, R_281_13, R_281_6, R_281_0, S_281, gd_t, bI_, bV_, bR_, and_self, and_true, true_and, ↓reduceIte, eq_self, oj_84, bI_1, bI_0, L0, L1, L4, L12, L40, L85, L95, L96, le_t, le_f, lt_t, lt_f, eq_t, eq_f, ncl, nI_add, nmul, nsub, ndiv, nrem, nrem', nrN, ej, g3]
    rfl
  | succ r ih =>
    intro j acc fu m H hj hf hac mo bH xH q
    obtain ⟨fu, rfl⟩ : ∃ p, fu = p + 1 := ⟨fu - 1, by omega⟩
    have e95 : H 95 t = nI sz := by rw [bH.1 95 (by decide) (by decide) (by decide) (by decide)]; exact q4
    have g177 := s_177a (h := H) (a := i0) (b := j) (n := sz) (by omega) (by omega) (by omega)
    rw [scn_b (by omega)] at g177
    have nlt : (nI acc < nI 0) = False := lt_f (by omega) (by omega)
    have hgl : ∀ a, goW s m a ≤ 453 := fun a => goW_le so mo
    rw [woA_s]
    by_cases c : i0 + j < sz
    · rw [if_pos c]
      rw [decide_eq_true c] at g177
      have ex : H 96 (40 * t + i0 + j) = x (i0 + j) := by rw [bH.1 96 (by decide) (by decide) (by decide) (by decide), Nat.add_assoc]; exact q5 _ c
      have g145 := s_177r (h := H) (v := x (i0 + j)) (a := 0) (b := sN s) (by decide) (by omega)
      cases hr : rng 0 (sN s) (x (i0 + j)) with
      | false =>
        rw [hr] at g145
        rw [if_neg (fun w => by cases w.1)]
        obtain ⟨h3, g3, a3⟩ := stop 4 (j + 1) fu H (by decide) (by decide) (by omega) (by omega) bH xH
        refine ⟨h3, ?_, a3⟩
        simp (disch := omega) only [H_281_26, R_281_142, R_281_138, R_281_102, R_281_129, R_281_109, R_281_99, R_281_95, R_281_92, R_281_66, R_281_59, R_281_56, R_281_37, R_281_32, R_281_26, R_281_23, R_281_16, R_281_13, R_281_6, R_281_0, S_281, gd_t, bI_, bV_, bR_, and_self, and_true, true_and, ↓reduceIte, eq_self, oj_84, bI_1, bI_0, L0, L1, L4, L12, L40, L85, L95, L96, J0, e95, ia_95, ia_96, ia_85, ncl, nI_add, nmul, nlt, le_f, g177, ex, q.1.n, g145, eq_f]
        exact g3
      | true =>
        rw [hr] at g145
        by_cases c2 : sEnd s ≤ mNight m
        · rw [if_neg (fun w => w.2 c2)]
          obtain ⟨h3, g3, a3⟩ := stop 4 (j + 1) fu H (by decide) (by decide) (by omega) (by omega) bH xH
          refine ⟨h3, ?_, a3⟩
          simp (disch := omega) only [H_281_26, R_281_142, R_281_138, R_281_102, R_281_129, R_281_109, R_281_99, R_281_95, R_281_92, R_281_66, R_281_59, R_281_56, R_281_37, R_281_32, R_281_26, R_281_23, R_281_16, R_281_13, R_281_6, R_281_0, S_281, gd_t, bI_, bV_, bR_, and_self, and_true, true_and, ↓reduceIte, eq_self, oj_84, bI_1, bI_0, L0, L1, L4, L12, L40, L85, L95, L96, J0, e95, ia_95, ia_96, ia_85, ncl, nI_add, nmul, nlt, le_f, g177, ex, q.1.n, g145, eq_f, s_205 so mo q.1, c2, decide_true]
          exact g3
        · rw [if_pos ⟨rfl, c2⟩]
          obtain ⟨a, -, ha, exa⟩ := rng_t hr
          rw [exa] at g145 ex ⊢
          rw [ncl (by omega)]
          obtain ⟨h2, g2, q2, f2⟩ := s_226 so mo q (act := a) ha
          have nx := ih (j + 1) (acc + goW s m a) fu _ h2 (by omega) (by omega) (by have := hgl a; omega) (goOk mo (by omega)) (bH.mfr f2) (fun j hj => by rw [f2.1 84 (by decide) (by decide)]; exact xH j hj) q2
          rw [← Nat.add_assoc] at nx
          simp (disch := omega) only [H_281_26, R_281_142, R_281_138, R_281_102, R_281_129, R_281_109, R_281_99, R_281_95, R_281_92, R_281_66, R_281_59, R_281_56, R_281_37, R_281_32, R_281_26, R_281_23, R_281_16, R_281_13, R_281_6, R_281_0, S_281, gd_t, bI_, bV_, bR_, and_self, and_true, true_and, ↓reduceIte, eq_self, oj_84, bI_1, bI_0, L0, L1, L4, L12, L40, L85, L95, L96, J0, e95, ia_95, ia_96, ia_85, ncl, nI_add, nmul, nlt, le_f, g177, ex, q.1.n, g145, eq_f, s_205 so mo q.1, c2, decide_false, g2]
          exact nx
    · rw [if_neg c]
      rw [decide_eq_false c] at g177
      obtain ⟨h3, g3, a3⟩ := stop 12 (j + 1) fu H (by decide) (by decide) (by omega) (by omega) bH xH
      refine ⟨h3, ?_, a3⟩
      simp (disch := omega) only [H_281_26, R_281_142, R_281_138, R_281_102, R_281_129, R_281_109, R_281_99, R_281_95, R_281_92, R_281_66, R_281_59, R_281_56, R_281_37, R_281_32, R_281_26, R_281_23, R_281_16, R_281_13, R_281_6, R_281_0, S_281, gd_t, bI_, bV_, bR_, and_self, and_true, true_and, ↓reduceIte, eq_self, oj_84, bI_1, bI_0, L0, L1, L4, L12, L40, L85, L95, L96, J0, e95, ia_95, ncl, nI_add, nlt, le_f, g177]
      exact g3
theorem p_wouldBe {v w u : Int32} : Pub (S_155 v w u) (S_281 v w u) := by
  intro h I
  obtain ⟨⟨s, m, C⟩, D⟩ := id I
  obtain ⟨so, mo, hs, hm, q, h4⟩ := id C
  have D5 : SheI h := D.2.2.2.2.1
  cases hr : rng 0 3 v with
  | false => exact ⟨-nI 1, h, h, by simp (disch := omega) only [R_155_17, R_155_54, R_155_40, R_155_35, R_155_28, R_155_19, R_155_14, R_155_7, R_155_4, R_155_0, S_155, gd_t, bI_, bV_, bR_, and_self, and_true, true_and, ↓reduceIte, eq_self, oj_84, bI_1, bI_0, L0, L1, L4, L11, L12, L13, L20, L40, L50, L85, L94, L95, L96, s_147, hr], by simp (disch := omega) only [R_281_142, R_281_138, R_281_102, R_281_129, R_281_109, R_281_99, R_281_95, R_281_92, R_281_66, R_281_59, R_281_56, R_281_37, R_281_32, R_281_26, R_281_23, R_281_16, R_281_13, R_281_6, R_281_0, S_281, R_280_19, R_280_50, R_280_45, R_280_35, R_280_30, R_280_21, R_280_16, R_280_7, R_280_4, R_280_0, S_280, gd_t, bI_, bV_, bR_, and_self, and_true, true_and, ↓reduceIte, eq_self, oj_84, bI_1, bI_0, L0, L1, L4, L11, L12, L13, L20, L40, L50, L85, L94, L95, L96, s_276, hr, neg_le], I⟩
  | true =>
    cases hr2 : rng 0 20 u with
    | false => exact ⟨-nI 1, h, h, by simp (disch := omega) only [R_155_17, R_155_54, R_155_40, R_155_35, R_155_28, R_155_19, R_155_14, R_155_7, R_155_4, R_155_0, S_155, gd_t, bI_, bV_, bR_, and_self, and_true, true_and, ↓reduceIte, eq_self, oj_84, bI_1, bI_0, L0, L1, L4, L11, L12, L13, L20, L40, L50, L85, L94, L95, L96, s_147, s_11r, hr, hr2, eq_f], by simp (disch := omega) only [R_281_142, R_281_138, R_281_102, R_281_129, R_281_109, R_281_99, R_281_95, R_281_92, R_281_66, R_281_59, R_281_56, R_281_37, R_281_32, R_281_26, R_281_23, R_281_16, R_281_13, R_281_6, R_281_0, S_281, R_280_19, R_280_50, R_280_45, R_280_35, R_280_30, R_280_21, R_280_16, R_280_7, R_280_4, R_280_0, S_280, gd_t, bI_, bV_, bR_, and_self, and_true, true_and, ↓reduceIte, eq_self, oj_84, bI_1, bI_0, L0, L1, L4, L11, L12, L13, L20, L40, L50, L85, L94, L95, L96, s_276, hr, J0, J20, s_177r, hr2, eq_f, neg_le], I⟩
    | true =>
      obtain ⟨t, -, ht, rfl⟩ := rng_t hr
      obtain ⟨n, -, hn, rfl⟩ := rng_t hr2
      have ht4 : t < 4 := by omega
      obtain ⟨c, sz, c5, sz40, q1, q2, q3, q4, q5⟩ := D5 t ht4
      have g := s_153 (b := 0) ht4 c5 (by decide) q1
      have g2 := s_280 (h := h) hr hr2 t c rfl ht4 c5 q2
      by_cases c0 : c = 0
      · rw [if_pos c0] at g g2
        exact ⟨-nI 11, h, h, by simp (disch := omega) only [R_155_17, R_155_54, R_155_40, R_155_35, R_155_28, R_155_19, R_155_14, R_155_7, R_155_4, R_155_0, S_155, gd_t, bI_, bV_, bR_, and_self, and_true, true_and, ↓reduceIte, eq_self, oj_84, bI_1, bI_0, L0, L1, L4, L12, L20, L40, L50, L85, L95, L96, s_147, s_11r, hr, hr2, eq_f, g, neg_eq], by simp (disch := omega) only [R_281_142, R_281_138, R_281_102, R_281_129, R_281_109, R_281_99, R_281_95, R_281_92, R_281_66, R_281_59, R_281_56, R_281_37, R_281_32, R_281_26, R_281_23, R_281_16, R_281_13, R_281_6, R_281_0, S_281, gd_t, bI_, bV_, bR_, and_self, and_true, true_and, ↓reduceIte, eq_self, oj_84, bI_1, bI_0, L0, L1, L4, L12, L20, L40, L50, L85, L95, L96, g2, neg_le], I⟩
      · rw [if_neg c0] at g g2
        by_cases c1 : c = 1
        · rw [if_pos (by omega)] at g g2
          obtain ⟨h1, g3, s1, hm1⟩ := s_87 so hm
          have E1 : S_155 (nI t) w (nI n) h = bndI (H_156_9 fuL 50 (nI t) w (nI n) 35 (nI 0) h1) R_155_54 := by
            simp (disch := omega) only [S_155, R_155_0, R_155_4, R_155_7, R_155_14, R_155_19, R_155_28, R_155_40, S_156, R_156_0, R_156_4, gd_t, bI_, bV_, bR_, and_self, and_true, true_and, ↓reduceIte, eq_self, oj_84, bI_1, bI_0, L0, L1, L20, L50, s_147, s_11r, hr, hr2, eq_f, g, g3]
          have E2 : ∀ H H', H 94 t = nI c → S_229 H = some (0, H') → S_281 (nI t) w (nI n) H = H_281_26 fuL (nI t) w (nI n) (nI 0) (nI 0) H' := fun H H' eH e229 => by
            have g3 := s_280 (h := H) hr hr2 t c rfl ht4 c5 eH
            rw [if_neg c0, if_pos c1] at g3
            simp (disch := omega) only [S_281, R_281_0, R_281_6, R_281_16, R_281_23, gd_t, bI_, bV_, bR_, and_self, and_true, true_and, ↓reduceIte, eq_self, oj_84, bI_1, bI_0, L0, L1, L4, L12, L40, L85, L95, L96, g3, le_t, e229]
          have as1 : Agr h h1 := Agr.ofC (s1.le (by decide))
          have a35 : Same [12, 35, 36, 37] h h1 := s1.le (by simp)
          cases hi : scn sz w with
          | true =>
            obtain ⟨i0, hi0, rfl⟩ := scn_t hi
            obtain ⟨h2, g4, s2⟩ := l_156 (x := fun j => h 96 (40 * t + j)) so hs hm ht4 (show i0 < 40 by omega) hn sz40 q3 q5 n 0 0 fuL m h1 (by omega) (fuL_gt (by omega)) mo a35 hm1 (by rw [show nI 0 = 0 from rfl, Int32.add_zero])
            have a2 : Agr h h2 := Agr.ofC (s2.le (by decide))
            obtain ⟨-, -, -, -, q', h4'⟩ := C.agr a2
            obtain ⟨h3, g5, b3, e85, x3⟩ := s_229 (by decide) h4'
            obtain ⟨h5, g6, a6⟩ := l_281 (h := h2) (x := fun j => h 96 (40 * t + j)) so h4' ht4 (show i0 < 40 by omega) hn sz40 (by rw [s2 95 (by decide)]; exact q4) (fun j hj => by rw [s2 96 (by decide)]) n 0 0 fuL m h3 (by omega) (fuL_gt (by omega)) (by omega) mo b3 x3 (q'.same_c e85)
            exact ⟨_, h2, h5, by rw [E1, g4]; rfl, by rw [E2 h2 h3 (by rw [s2 94 (by decide)]; exact q2) g5]; exact g6, I.agr (a2.tr a6)⟩
          | false =>
            obtain ⟨N, ef, hN⟩ := fuL_s
            obtain ⟨-, -, -, -, q', h4'⟩ := C.agr as1
            obtain ⟨h3, g5, b3, e85, x3⟩ := s_229 (by decide) h4'
            obtain ⟨h5, g6, b5, x5⟩ := s_231 (by decide) h4' b3
            have a5 : Agr h1 h5 := Agr.ofM (l := []) b5 (fun j _ hj => by rw [x5 j hj, x3 j hj]) (fun j hj => by simp at hj)
            have E2h := E2 h1 h3 (by rw [s1 94 (by decide)]; exact q2) g5
            rw [ef] at E1 E2h
            rw [E1]
            by_cases n0 : n = 0
            · subst n0
              have e13 : h1 13 4 = mScore m := by rw [s1 13 (by decide)]; exact hm.score
              have ez : mScore m - mScore m = nI 0 := by rw [Int32.sub_self]; rfl
              exact ⟨nI 0, h1, h5, by simp (disch := omega) only [H_156_9, R_156_89, R_156_68, R_156_82, R_156_71, R_156_65, R_156_56, R_156_53, R_156_31, R_156_28, R_156_25, R_156_16, R_156_9, R_156_4, R_156_0, S_156, R_155_17, R_155_54, R_155_40, R_155_35, R_155_28, R_155_19, R_155_14, R_155_7, R_155_4, R_155_0, S_155, gd_t, bI_, bV_, bR_, and_self, and_true, true_and, ↓reduceIte, eq_self, oj_84, bI_1, bI_0, L0, L1, L2, L3, L4, L12, L13, L20, L40, L50, L54, L85, L95, L96, le_t, le_f, lt_t, lt_f, eq_t, eq_f, ncl, nI_add, nmul, nsub, ndiv, nrem, nrem', nrN, oj_35, hm1.score, e13, ez], by rw [E2h]; simp (disch := omega) only [H_281_26, R_281_142, R_281_138, R_281_102, R_281_129, R_281_109, R_281_99, R_281_95, R_281_92, R_281_66, R_281_59, R_281_56, R_281_37, R_281_32, R_281_26, R_281_23, R_281_16, R_281_13, R_281_6, R_281_0, S_281, gd_t, bI_, bV_, bR_, and_self, and_true, true_and, ↓reduceIte, eq_self, oj_84, bI_1, bI_0, L0, L1, L2, L3, L4, L12, L13, L20, L40, L50, L54, L85, L95, L96, le_t, le_f, lt_t, lt_f, eq_t, eq_f, ncl, nI_add, nmul, nsub, ndiv, nrem, nrem', nrN, g6], I.agr (as1.tr a5)⟩
            · have g150 := s_150 (h := h1) (v := w) ht4 sz40 (by rw [s1 52 (by decide)]; exact q3)
              have e95 : h3 95 t = nI sz := by rw [b3.1 95 (by decide) (by decide) (by decide) (by decide), s1 95 (by decide)]; exact q4
              have g177 := s_177s (h := h3) (v := w) (n := sz) (by omega)
              rw [hi] at g150 g177
              obtain ⟨N2, rfl⟩ : ∃ p, N = p + 1 := ⟨N - 1, by omega⟩
              refine ⟨-nI 12, h1, h5, by simp (disch := omega) only [H_156_9, R_156_89, R_156_68, R_156_82, R_156_71, R_156_65, R_156_56, R_156_53, R_156_31, R_156_28, R_156_25, R_156_16, R_156_9, R_156_4, R_156_0, S_156, R_155_17, R_155_54, R_155_40, R_155_35, R_155_28, R_155_19, R_155_14, R_155_7, R_155_4, R_155_0, S_155, gd_t, bI_, bV_, bR_, and_self, and_true, true_and, ↓reduceIte, eq_self, oj_84, bI_1, bI_0, L0, L1, L2, L3, L4, L12, L13, L20, L50, L54, oj_50, le_f, add0I, g150], ?_, I.agr (as1.tr a5)⟩
              rw [E2h]
              by_cases n1 : n ≤ 1
              · simp (disch := omega) only [H_281_26, R_281_142, R_281_138, R_281_102, R_281_129, R_281_109, R_281_99, R_281_95, R_281_92, R_281_66, R_281_59, R_281_56, R_281_37, R_281_32, R_281_26, R_281_23, R_281_16, R_281_13, R_281_6, R_281_0, S_281, gd_t, bI_, bV_, bR_, and_self, and_true, true_and, ↓reduceIte, eq_self, oj_84, bI_1, bI_0, L0, L1, L4, L12, L40, L85, L95, L96, J0, le_f, lt_f, nI_add, le_t, add0L, ncl, ia_95, e95, g177, g6]
              · simp (disch := omega) only [H_281_26, R_281_142, R_281_138, R_281_102, R_281_129, R_281_109, R_281_99, R_281_95, R_281_92, R_281_66, R_281_59, R_281_56, R_281_37, R_281_32, R_281_26, R_281_23, R_281_16, R_281_13, R_281_6, R_281_0, S_281, gd_t, bI_, bV_, bR_, and_self, and_true, true_and, ↓reduceIte, eq_self, oj_84, bI_1, bI_0, L0, L1, L4, L12, L40, L85, L95, L96, J0, le_f, lt_f, nI_add, neg_lt, add0L, ncl, ia_95, e95, g177, g6]
        · rw [if_neg (by omega)] at g g2
          exact ⟨-nI 13, h, h, by simp (disch := omega) only [R_155_17, R_155_54, R_155_40, R_155_35, R_155_28, R_155_19, R_155_14, R_155_7, R_155_4, R_155_0, S_155, gd_t, bI_, bV_, bR_, and_self, and_true, true_and, ↓reduceIte, eq_self, oj_84, bI_1, bI_0, L0, L1, L4, L12, L20, L40, L50, L85, L95, L96, s_147, s_11r, hr, hr2, eq_f, g, neg_eq], by simp (disch := omega) only [R_281_142, R_281_138, R_281_102, R_281_129, R_281_109, R_281_99, R_281_95, R_281_92, R_281_66, R_281_59, R_281_56, R_281_37, R_281_32, R_281_26, R_281_23, R_281_16, R_281_13, R_281_6, R_281_0, S_281, gd_t, bI_, bV_, bR_, and_self, and_true, true_and, ↓reduceIte, eq_self, oj_84, bI_1, bI_0, L0, L1, L4, L12, L20, L40, L50, L85, L95, L96, g2, neg_le], I⟩
theorem s_162 {h : Hp} {N t c k : Nat} (hN : N ≤ 6) (e : h 1 7 = nI N) (ht : t < 4) (hc : c ≤ 2) (q1 : h 58 t = nI c) (q2 : c ≠ 0 → h 59 t = nI k ∧ k ≤ 5) : S_162 (nI t) h = some (bI (decide (c = 0 ∨ c = 1 ∧ N ≤ k)), h) := by
  rcases (show c = 0 ∨ c = 1 ∨ c = 2 by omega) with rfl | rfl | rfl
  · simp (disch := omega) only [R_162_35, R_162_39, R_162_32, R_162_19, R_162_14, R_162_0, S_162, gd_t, bI_, bV_, bR_, and_self, and_true, true_and, ↓reduceIte, eq_self, oj_84, bI_1, bI_0, L0, L1, L58, L59, le_t, le_f, lt_t, lt_f, eq_t, eq_f, ncl, nI_add, nmul, nsub, ndiv, nrem, nrem', nrN, ia_58, q1]
    rfl
  · obtain ⟨e2, hk⟩ := q2 (by decide)
    by_cases ck : k < N
    · have es : scn N (nI k) = true := scn_n ck (by omega)
      rw [decide_eq_false (by omega)]
      simp (disch := omega) only [R_162_35, R_162_39, R_162_32, R_162_19, R_162_14, R_162_0, S_162, gd_t, bI_, bV_, bR_, and_self, and_true, true_and, ↓reduceIte, eq_self, oj_84, bI_1, bI_0, L0, L1, L58, L59, le_t, le_f, lt_t, lt_f, eq_t, eq_f, ncl, nI_add, nmul, nsub, ndiv, nrem, nrem', nrN, ia_58, ia_59, q1, e2, s_14 hN e, es]
    · have es : scn N (nI k) = false := by rw [scn_b (by omega)]; exact decide_eq_false ck
      rw [decide_eq_true (by omega)]
      simp (disch := omega) only [R_162_35, R_162_39, R_162_32, R_162_19, R_162_14, R_162_0, S_162, gd_t, bI_, bV_, bR_, and_self, and_true, true_and, ↓reduceIte, eq_self, oj_84, bI_1, bI_0, L0, L1, L58, L59, le_t, le_f, lt_t, lt_f, eq_t, eq_f, ncl, nI_add, nmul, nsub, ndiv, nrem, nrem', nrN, ia_58, ia_59, q1, e2, s_14 hN e, es]
  · rw [decide_eq_false (by omega)]
    simp (disch := omega) only [R_162_35, R_162_39, R_162_32, R_162_19, R_162_14, R_162_0, S_162, gd_t, bI_, bV_, bR_, and_self, and_true, true_and, ↓reduceIte, eq_self, oj_84, bI_1, bI_0, L0, L1, L58, L59, le_t, le_f, lt_t, lt_f, eq_t, eq_f, ncl, nI_add, nmul, nsub, ndiv, nrem, nrem', nrN, ia_58, q1]
theorem s_284 {h : Hp} {N t c k : Nat} (hN : N ≤ 6) (e : h 85 0 = nI N) (ht : t < 4) (hc : c ≤ 2) (q1 : h 97 t = nI c) (q2 : c ≠ 0 → h 98 t = nI k ∧ k ≤ 5) : S_284 (nI t) h = some (bI (decide (c = 0 ∨ c = 1 ∧ N ≤ k)), h) := by
  rcases (show c = 0 ∨ c = 1 ∨ c = 2 by omega) with rfl | rfl | rfl
  · simp (disch := omega) only [R_284_32, R_284_36, R_284_29, R_284_19, R_284_9, R_284_0, S_284, gd_t, bI_, bV_, bR_, and_self, and_true, true_and, ↓reduceIte, eq_self, oj_84, bI_1, bI_0, L0, L1, L97, L98, le_t, le_f, lt_t, lt_f, eq_t, eq_f, ncl, nI_add, nmul, nsub, ndiv, nrem, nrem', nrN, ia_97, q1]
    rfl
  · obtain ⟨e2, hk⟩ := q2 (by decide)
    by_cases ck : k < N
    · have es : scn N (nI k) = true := scn_n ck (by omega)
      rw [decide_eq_false (by omega)]
      simp (disch := omega) only [R_284_32, R_284_36, R_284_29, R_284_19, R_284_9, R_284_0, S_284, gd_t, bI_, bV_, bR_, and_self, and_true, true_and, ↓reduceIte, eq_self, oj_84, bI_1, bI_0, L0, L1, L97, L98, le_t, le_f, lt_t, lt_f, eq_t, eq_f, ncl, nI_add, nmul, nsub, ndiv, nrem, nrem', nrN, ia_97, ia_98, q1, e2, s_180 hN e, es]
    · have es : scn N (nI k) = false := by rw [scn_b (by omega)]; exact decide_eq_false ck
      rw [decide_eq_true (by omega)]
      simp (disch := omega) only [R_284_32, R_284_36, R_284_29, R_284_19, R_284_9, R_284_0, S_284, gd_t, bI_, bV_, bR_, and_self, and_true, true_and, ↓reduceIte, eq_self, oj_84, bI_1, bI_0, L0, L1, L97, L98, le_t, le_f, lt_t, lt_f, eq_t, eq_f, ncl, nI_add, nmul, nsub, ndiv, nrem, nrem', nrN, ia_97, ia_98, q1, e2, s_180 hN e, es]
  · rw [decide_eq_false (by omega)]
    simp (disch := omega) only [R_284_32, R_284_36, R_284_29, R_284_19, R_284_9, R_284_0, S_284, gd_t, bI_, bV_, bR_, and_self, and_true, true_and, ↓reduceIte, eq_self, oj_84, bI_1, bI_0, L0, L1, L97, L98, le_t, le_f, lt_t, lt_f, eq_t, eq_f, ncl, nI_add, nmul, nsub, ndiv, nrem, nrem', nrN, ia_97, q1]
theorem ShlI.upd {h : Hp} {t c k n : Nat} {x y z x' y' z' : Int32} (q : ShlI h) (ht : t < 4) (hc : c ≤ 2) (ex : x = nI c ∧ x' = nI c) (ey : c ≠ 0 → k ≤ 5 ∧ y = nI k ∧ y' = nI k) (ez : c = 2 → n ≤ 40 ∧ z = nI n ∧ z' = nI n) : ShlI (wr (wr (wr (wr (wr (wr h 58 t x) 59 t y) 60 t z) 97 t x') 98 t y') 99 t z') := by
  intro u hu
  by_cases eu : u = t
  · subst eu
    refine ⟨c, hc, by simp (disch := omega) only [wr_c, wr_s]; exact ex.1, by simp (disch := omega) only [wr_c, wr_s]; exact ex.2, fun h0 => ⟨k, (ey h0).1, by simp (disch := omega) only [wr_c, wr_s]; exact (ey h0).2.1, by simp (disch := omega) only [wr_c, wr_s]; exact (ey h0).2.2⟩, fun h0 => ⟨n, (ez h0).1, by simp (disch := omega) only [wr_c, wr_s]; exact (ez h0).2.1, by simp (disch := omega) only [wr_c, wr_s]; exact (ez h0).2.2⟩⟩
  · obtain ⟨c', a1, a2, a3, a4, a5⟩ := q u hu
    refine ⟨c', a1, by simp (disch := omega) only [wr_c, wr_k]; exact a2, by simp (disch := omega) only [wr_c, wr_k]; exact a3, fun h0 => ?_, fun h0 => ?_⟩
    · obtain ⟨k', b1, b2, b3⟩ := a4 h0
      exact ⟨k', b1, by simp (disch := omega) only [wr_c, wr_k]; exact b2, by simp (disch := omega) only [wr_c, wr_k]; exact b3⟩
    · obtain ⟨k', b1, b2, b3⟩ := a5 h0
      exact ⟨k', b1, by simp (disch := omega) only [wr_c, wr_k]; exact b2, by simp (disch := omega) only [wr_c, wr_k]; exact b3⟩
theorem p_shelf {v w u : Int32} : Pub (S_157 v w u) (S_282 v w u) := by
  intro h I
  obtain ⟨⟨s, m, C⟩, D⟩ := id I
  obtain ⟨so, mo, hs, hm, q, h4⟩ := id C
  have hn := so.1
  have D5 : SheI h := D.2.2.2.2.1
  have D6 : ShlI h := D.2.2.2.2.2.1
  have BAD : ∀ (_ : S_157 v w u h = some (-nI 1, h)) (_ : S_282 v w u h = some (-nI 1, h)), ∃ x h1 h2, S_157 v w u h = some (x, h1) ∧ S_282 v w u h1 = some (x, h2) ∧ Inv h2 := fun a b => ⟨-nI 1, h, h, a, b, I⟩
  cases hr2 : rng 0 2 w with
  | false =>
    cases hr : rng 0 3 v with
    | false => exact BAD (by simp (disch := omega) only [R_157_58, R_157_55, R_157_44, R_157_41, R_157_36, R_157_79, R_157_76, R_157_67, R_157_64, R_157_60, R_157_92, R_157_81, R_157_93, R_157_9, R_157_7, R_157_4, R_157_0, S_157, gd_t, bI_, bV_, bR_, and_self, and_true, true_and, ↓reduceIte, eq_self, oj_84, bI_1, bI_0, L0, L1, L2, L3, L94, L95, L97, L98, L99, s_158, hr]) (by simp (disch := omega) only [R_282_53, R_282_150, R_282_141, R_282_129, R_282_118, R_282_113, R_282_109, R_282_98, R_282_94, R_282_89, R_282_85, R_282_73, R_282_69, R_282_60, R_282_55, R_282_48, R_282_45, R_282_33, R_282_29, R_282_24, R_282_21, R_282_17, R_282_12, R_282_9, R_282_4, R_282_0, S_282, gd_t, bI_, bV_, bR_, and_self, and_true, true_and, ↓reduceIte, eq_self, oj_84, bI_1, bI_0, L0, L1, L2, L3, L94, L95, L97, L98, L99, rng_ne hr2, J0, J3, s_177r, hr])
    | true => exact BAD (by simp (disch := omega) only [R_157_58, R_157_55, R_157_44, R_157_41, R_157_36, R_157_79, R_157_76, R_157_67, R_157_64, R_157_60, R_157_92, R_157_81, R_157_93, R_157_9, R_157_7, R_157_4, R_157_0, S_157, gd_t, bI_, bV_, bR_, and_self, and_true, true_and, ↓reduceIte, eq_self, oj_84, bI_1, bI_0, L0, L1, L2, L3, L94, L95, L97, L98, L99, s_158, hr, rng_ne hr2, eq_f]) (by simp (disch := omega) only [R_282_53, R_282_150, R_282_141, R_282_129, R_282_118, R_282_113, R_282_109, R_282_98, R_282_94, R_282_89, R_282_85, R_282_73, R_282_69, R_282_60, R_282_55, R_282_48, R_282_45, R_282_33, R_282_29, R_282_24, R_282_21, R_282_17, R_282_12, R_282_9, R_282_4, R_282_0, S_282, gd_t, bI_, bV_, bR_, and_self, and_true, true_and, ↓reduceIte, eq_self, oj_84, bI_1, bI_0, L0, L1, L2, L3, L94, L95, L97, L98, L99, rng_ne hr2, J0, J3, s_177r, hr, eq_f])
  | true =>
    obtain ⟨x, -, hx, rfl⟩ := rng_t hr2
    cases hr : rng 0 3 v with
    | false =>
      refine BAD (by simp (disch := omega) only [R_157_58, R_157_55, R_157_44, R_157_41, R_157_36, R_157_79, R_157_76, R_157_67, R_157_64, R_157_60, R_157_92, R_157_81, R_157_93, R_157_9, R_157_7, R_157_4, R_157_0, S_157, gd_t, bI_, bV_, bR_, and_self, and_true, true_and, ↓reduceIte, eq_self, oj_84, bI_1, bI_0, L0, L1, L2, s_158, hr]) ?_
      rcases (show x = 0 ∨ x = 1 ∨ x = 2 by omega) with rfl | rfl | rfl
      · simp (disch := omega) only [R_282_53, R_282_150, R_282_141, R_282_129, R_282_118, R_282_113, R_282_109, R_282_98, R_282_94, R_282_89, R_282_85, R_282_73, R_282_69, R_282_60, R_282_55, R_282_48, R_282_45, R_282_33, R_282_29, R_282_24, R_282_21, R_282_17, R_282_12, R_282_9, R_282_4, R_282_0, S_282, gd_t, bI_, bV_, bR_, and_self, and_true, true_and, ↓reduceIte, eq_self, oj_84, bI_1, bI_0, L0, L1, L2, L3, L94, L95, L97, L98, L99, le_t, le_f, lt_t, lt_f, eq_t, eq_f, ncl, nI_add, nmul, nsub, ndiv, nrem, nrem', nrN, J0, J3, s_177r, hr, s_180 hn q.1.n]
      · simp (disch := omega) only [R_282_53, R_282_150, R_282_141, R_282_129, R_282_118, R_282_113, R_282_109, R_282_98, R_282_94, R_282_89, R_282_85, R_282_73, R_282_69, R_282_60, R_282_55, R_282_48, R_282_45, R_282_33, R_282_29, R_282_24, R_282_21, R_282_17, R_282_12, R_282_9, R_282_4, R_282_0, S_282, gd_t, bI_, bV_, bR_, and_self, and_true, true_and, ↓reduceIte, eq_self, oj_84, bI_1, bI_0, L0, L1, L2, L3, L94, L95, L97, L98, L99, le_t, le_f, lt_t, lt_f, eq_t, eq_f, ncl, nI_add, nmul, nsub, ndiv, nrem, nrem', nrN, J0, J3, s_177r, hr, s_276]
      · simp (disch := omega) only [R_282_53, R_282_150, R_282_141, R_282_129, R_282_118, R_282_113, R_282_109, R_282_98, R_282_94, R_282_89, R_282_85, R_282_73, R_282_69, R_282_60, R_282_55, R_282_48, R_282_45, R_282_33, R_282_29, R_282_24, R_282_21, R_282_17, R_282_12, R_282_9, R_282_4, R_282_0, S_282, gd_t, bI_, bV_, bR_, and_self, and_true, true_and, ↓reduceIte, eq_self, oj_84, bI_1, bI_0, L0, L1, L2, L3, L94, L95, L97, L98, L99, le_t, le_f, lt_t, lt_f, eq_t, eq_f, ncl, nI_add, nmul, nsub, ndiv, nrem, nrem', nrN, J0, J3, s_177r, hr]
    | true =>
      obtain ⟨t, -, ht, rfl⟩ := rng_t hr
      have ht4 : t < 4 := by omega
      rcases (show x = 0 ∨ x = 1 ∨ x = 2 by omega) with rfl | rfl | rfl
      · cases hz : scn (sN s) u with
        | false => exact BAD (by simp (disch := omega) only [R_157_58, R_157_55, R_157_44, R_157_41, R_157_36, R_157_79, R_157_76, R_157_67, R_157_64, R_157_60, R_157_92, R_157_81, R_157_93, R_157_9, R_157_7, R_157_4, R_157_0, S_157, gd_t, bI_, bV_, bR_, and_self, and_true, true_and, ↓reduceIte, eq_self, oj_84, bI_1, bI_0, L0, L1, L2, L3, L94, L95, L97, L98, L99, le_t, le_f, lt_t, lt_f, eq_t, eq_f, ncl, nI_add, nmul, nsub, ndiv, nrem, nrem', nrN, s_158, hr, s_14 hn hs.1.n, hz]) (by simp (disch := omega) only [R_282_53, R_282_150, R_282_141, R_282_129, R_282_118, R_282_113, R_282_109, R_282_98, R_282_94, R_282_89, R_282_85, R_282_73, R_282_69, R_282_60, R_282_55, R_282_48, R_282_45, R_282_33, R_282_29, R_282_24, R_282_21, R_282_17, R_282_12, R_282_9, R_282_4, R_282_0, S_282, gd_t, bI_, bV_, bR_, and_self, and_true, true_and, ↓reduceIte, eq_self, oj_84, bI_1, bI_0, L0, L1, L2, L3, L94, L95, L97, L98, L99, le_t, le_f, lt_t, lt_f, eq_t, eq_f, ncl, nI_add, nmul, nsub, ndiv, nrem, nrem', nrN, J0, J3, s_177r, hr, s_180 hn q.1.n, hz])
        | true =>
          obtain ⟨k, hk, rfl⟩ := scn_t hz
          have eN : (wr (wr (wr h 58 t (nI 1)) 59 t (nI k)) 60 t (nI 0)) 85 0 = nI (sN s) := q.1.n
          exact ⟨nI 1, _, _, by simp (disch := omega) only [R_157_58, R_157_55, R_157_44, R_157_41, R_157_36, R_157_79, R_157_76, R_157_67, R_157_64, R_157_60, R_157_92, R_157_81, R_157_93, R_157_9, R_157_7, R_157_4, R_157_0, S_157, R_159_0, S_159, gd_t, bI_, bV_, bR_, and_self, and_true, true_and, ↓reduceIte, eq_self, oj_84, bI_1, bI_0, L0, L1, L2, L3, L58, L59, L60, L94, L95, L97, L98, L99, le_t, le_f, lt_t, lt_f, eq_t, eq_f, ncl, nI_add, nmul, nsub, ndiv, nrem, nrem', nrN, s_158, hr, s_14 hn hs.1.n, hz, ia_58, ia_59, ia_60]; rfl, by simp (disch := omega) only [R_282_53, R_282_150, R_282_141, R_282_129, R_282_118, R_282_113, R_282_109, R_282_98, R_282_94, R_282_89, R_282_85, R_282_73, R_282_69, R_282_60, R_282_55, R_282_48, R_282_45, R_282_33, R_282_29, R_282_24, R_282_21, R_282_17, R_282_12, R_282_9, R_282_4, R_282_0, S_282, gd_t, bI_, bV_, bR_, and_self, and_true, true_and, ↓reduceIte, eq_self, oj_84, bI_1, bI_0, L0, L1, L2, L3, L58, L59, L60, L94, L95, L97, L98, L99, le_t, le_f, lt_t, lt_f, eq_t, eq_f, ncl, nI_add, nmul, nsub, ndiv, nrem, nrem', nrN, J0, J3, s_177r, hr, s_180 hn eN, hz, ia_97, ia_98, ia_99]; rfl, I.shelves (fun i hi => by simp (disch := omega) only [wr_c]) (D6.upd (c := 1) (k := k) (n := 0) ht4 (by decide) ⟨rfl, rfl⟩ (fun _ => ⟨by omega, rfl, rfl⟩) (fun h0 => by cases h0))⟩
      · cases hz : rng 0 3 u with
        | false => exact BAD (by simp (disch := omega) only [R_157_58, R_157_55, R_157_44, R_157_41, R_157_36, R_157_79, R_157_76, R_157_67, R_157_64, R_157_60, R_157_92, R_157_81, R_157_93, R_157_9, R_157_7, R_157_4, R_157_0, S_157, gd_t, bI_, bV_, bR_, and_self, and_true, true_and, ↓reduceIte, eq_self, oj_84, bI_1, bI_0, L0, L1, L2, L3, L94, L95, L97, L98, L99, le_t, le_f, lt_t, lt_f, eq_t, eq_f, ncl, nI_add, nmul, nsub, ndiv, nrem, nrem', nrN, s_158, hr, s_147, hz]) (by simp (disch := omega) only [R_282_53, R_282_150, R_282_141, R_282_129, R_282_118, R_282_113, R_282_109, R_282_98, R_282_94, R_282_89, R_282_85, R_282_73, R_282_69, R_282_60, R_282_55, R_282_48, R_282_45, R_282_33, R_282_29, R_282_24, R_282_21, R_282_17, R_282_12, R_282_9, R_282_4, R_282_0, S_282, gd_t, bI_, bV_, bR_, and_self, and_true, true_and, ↓reduceIte, eq_self, oj_84, bI_1, bI_0, L0, L1, L2, L3, L94, L95, L97, L98, L99, le_t, le_f, lt_t, lt_f, eq_t, eq_f, ncl, nI_add, nmul, nsub, ndiv, nrem, nrem', nrN, J0, J3, s_177r, hr, s_276, hz])
        | true =>
          obtain ⟨k, -, hk, rfl⟩ := rng_t hz
          obtain ⟨c, sz, c5, sz40, q1, q2, q3, q4, q5⟩ := D5 k (by omega)
          by_cases c0 : c = 0
          · subst c0
            refine ⟨nI 1, wr (wr (wr h 58 t (nI 0)) 59 t (-nI 1)) 60 t (nI sz), wr (wr (wr (wr (wr (wr h 58 t (nI 0)) 59 t (-nI 1)) 60 t (nI sz)) 97 t (nI 0)) 98 t (nI 0)) 99 t (nI 0), by simp (disch := omega) only [R_157_58, R_157_55, R_157_44, R_157_41, R_157_36, R_157_79, R_157_76, R_157_67, R_157_64, R_157_60, R_157_92, R_157_81, R_157_93, R_157_9, R_157_7, R_157_4, R_157_0, S_157, R_160_34, R_160_14, R_160_10, R_160_0, S_160, R_159_0, S_159, gd_t, bI_, bV_, bR_, and_self, and_true, true_and, ↓reduceIte, eq_self, oj_84, bI_1, bI_0, L0, L1, L2, L3, L51, L52, L58, L59, L60, L94, L95, L97, L98, L99, le_t, le_f, lt_t, lt_f, eq_t, eq_f, ncl, nI_add, nmul, nsub, ndiv, nrem, nrem', nrN, s_158, hr, s_147, hz, ia_51, ia_52, q1, z1, q3, ia_58, ia_59, ia_60], by simp (disch := omega) only [R_282_53, R_282_150, R_282_141, R_282_129, R_282_118, R_282_113, R_282_109, R_282_98, R_282_94, R_282_89, R_282_85, R_282_73, R_282_69, R_282_60, R_282_55, R_282_48, R_282_45, R_282_33, R_282_29, R_282_24, R_282_21, R_282_17, R_282_12, R_282_9, R_282_4, R_282_0, S_282, gd_t, bI_, bV_, bR_, and_self, and_true, true_and, ↓reduceIte, eq_self, oj_84, bI_1, bI_0, L0, L1, L2, L3, L51, L52, L58, L59, L60, L94, L95, L97, L98, L99, le_t, le_f, lt_t, lt_f, eq_t, eq_f, ncl, nI_add, nmul, nsub, ndiv, nrem, nrem', nrN, J0, J3, s_177r, hr, s_276, hz, ia_94, wr_c, q2, ia_97, ia_98, ia_99], I.shelves (fun i hi => by simp (disch := omega) only [wr_c]) (D6.upd (c := 0) (k := 0) (n := 0) ht4 (by decide) ⟨rfl, rfl⟩ (fun h0 => absurd rfl h0) (fun h0 => by cases h0))⟩
          · have em : (nI (c - 1) = -nI 1) = False := eq_m1 (by omega)
            refine ⟨nI 1, wr (wr (wr h 58 t (nI 2)) 59 t (nI (c - 1))) 60 t (nI sz), wr (wr (wr (wr (wr (wr h 58 t (nI 2)) 59 t (nI (c - 1))) 60 t (nI sz)) 97 t (nI 2)) 98 t (nI (c - 1))) 99 t (nI sz), by simp (disch := omega) only [R_157_58, R_157_55, R_157_44, R_157_41, R_157_36, R_157_79, R_157_76, R_157_67, R_157_64, R_157_60, R_157_92, R_157_81, R_157_93, R_157_9, R_157_7, R_157_4, R_157_0, S_157, R_160_34, R_160_14, R_160_10, R_160_0, S_160, R_159_0, S_159, gd_t, bI_, bV_, bR_, and_self, and_true, true_and, ↓reduceIte, eq_self, oj_84, bI_1, bI_0, L0, L1, L2, L3, L51, L52, L58, L59, L60, L94, L95, L97, L98, L99, le_t, le_f, lt_t, lt_f, eq_t, eq_f, ncl, nI_add, nmul, nsub, ndiv, nrem, nrem', nrN, s_158, hr, s_147, hz, ia_51, ia_52, q1, em, q3, ia_58, ia_59, ia_60], by simp (disch := omega) only [R_282_53, R_282_150, R_282_141, R_282_129, R_282_118, R_282_113, R_282_109, R_282_98, R_282_94, R_282_89, R_282_85, R_282_73, R_282_69, R_282_60, R_282_55, R_282_48, R_282_45, R_282_33, R_282_29, R_282_24, R_282_21, R_282_17, R_282_12, R_282_9, R_282_4, R_282_0, S_282, gd_t, bI_, bV_, bR_, and_self, and_true, true_and, ↓reduceIte, eq_self, oj_84, bI_1, bI_0, L0, L1, L2, L3, L51, L52, L58, L59, L60, L94, L95, L97, L98, L99, le_t, le_f, lt_t, lt_f, eq_t, eq_f, ncl, nI_add, nmul, nsub, ndiv, nrem, nrem', nrN, J0, J3, s_177r, hr, s_276, hz, ia_94, wr_c, q2, q4, ia_95, ia_97, ia_98, ia_99], I.shelves (fun i hi => by simp (disch := omega) only [wr_c]) (D6.upd (c := 2) (k := c - 1) (n := sz) ht4 (by decide) ⟨rfl, rfl⟩ (fun _ => ⟨by omega, rfl, rfl⟩) (fun _ => ⟨by omega, rfl, rfl⟩))⟩
      · exact ⟨nI 1, _, _, by simp (disch := omega) only [R_157_58, R_157_55, R_157_44, R_157_41, R_157_36, R_157_79, R_157_76, R_157_67, R_157_64, R_157_60, R_157_92, R_157_81, R_157_93, R_157_9, R_157_7, R_157_4, R_157_0, S_157, R_159_0, S_159, gd_t, bI_, bV_, bR_, and_self, and_true, true_and, ↓reduceIte, eq_self, oj_84, bI_1, bI_0, L0, L1, L2, L3, L58, L59, L60, L94, L95, L97, L98, L99, le_t, le_f, lt_t, lt_f, eq_t, eq_f, ncl, nI_add, nmul, nsub, ndiv, nrem, nrem', nrN, s_158, hr, ia_58, ia_59, ia_60]; rfl, by simp (disch := omega) only [R_282_53, R_282_150, R_282_141, R_282_129, R_282_118, R_282_113, R_282_109, R_282_98, R_282_94, R_282_89, R_282_85, R_282_73, R_282_69, R_282_60, R_282_55, R_282_48, R_282_45, R_282_33, R_282_29, R_282_24, R_282_21, R_282_17, R_282_12, R_282_9, R_282_4, R_282_0, S_282, gd_t, bI_, bV_, bR_, and_self, and_true, true_and, ↓reduceIte, eq_self, oj_84, bI_1, bI_0, L0, L1, L2, L3, L58, L59, L60, L94, L95, L97, L98, L99, le_t, le_f, lt_t, lt_f, eq_t, eq_f, ncl, nI_add, nmul, nsub, ndiv, nrem, nrem', nrN, J0, J3, s_177r, hr, ia_97, ia_98, ia_99]; rfl, I.shelves (fun i hi => by simp (disch := omega) only [wr_c]) (D6.upd (c := 0) (k := 0) (n := 0) ht4 (by decide) ⟨rfl, rfl⟩ (fun h0 => absurd rfl h0) (fun h0 => by cases h0))⟩
theorem p_taken {v w : Int32} : Pub (S_161 v w) (S_283 v w) := by
  intro h I
  obtain ⟨⟨s, m, C⟩, D⟩ := id I
  obtain ⟨so, mo, hs, hm, q, h4⟩ := id C
  have hn := so.1
  have D6 : ShlI h := D.2.2.2.2.2.1
  have BAD : ∀ (_ : S_161 v w h = some (-nI 1, h)) (_ : S_283 v w h = some (-nI 1, h)), ∃ x h1 h2, S_161 v w h = some (x, h1) ∧ S_283 v w h1 = some (x, h2) ∧ Inv h2 := fun a b => ⟨-nI 1, h, h, a, b, I⟩
  cases hr : rng 0 3 v with
  | false => exact BAD (by simp (disch := omega) only [R_161_29, R_161_116, R_161_111, R_161_108, R_161_94, R_161_90, R_161_87, R_161_75, R_161_66, R_161_42, R_161_39, R_161_36, R_161_31, R_161_26, R_161_18, R_161_14, R_161_11, R_161_6, R_161_0, S_161, gd_t, bI_, bV_, bR_, and_self, and_true, true_and, ↓reduceIte, eq_self, oj_84, bI_1, bI_0, L0, L1, L2, L3, L5, L10, L11, L13, L14, L58, L59, L60, L97, L98, L99, s_11r, s_158, hr]) (by simp (disch := omega) only [R_283_38, R_283_130, R_283_121, R_283_117, R_283_113, R_283_108, R_283_104, R_283_97, R_283_86, R_283_83, R_283_74, R_283_61, R_283_51, R_283_48, R_283_45, R_283_40, R_283_35, R_283_24, R_283_21, R_283_12, R_283_9, R_283_0, S_283, gd_t, bI_, bV_, bR_, and_self, and_true, true_and, ↓reduceIte, eq_self, oj_84, bI_1, bI_0, L0, L1, L2, L3, L5, L10, L11, L13, L14, L58, L59, L60, L97, L98, L99, J0, J3, s_177r, hr])
  | true =>
    obtain ⟨t, -, ht, rfl⟩ := rng_t hr
    have ht4 : t < 4 := by omega
    obtain ⟨c, c2, q1, q2, q3, q4⟩ := D6 t ht4
    obtain ⟨k, hk⟩ : ∃ k, c ≠ 0 → k ≤ 5 ∧ h 59 t = nI k ∧ h 98 t = nI k := by
      by_cases c0 : c = 0
      · exact ⟨0, fun w => absurd c0 w⟩
      · obtain ⟨k, a⟩ := q3 c0
        exact ⟨k, fun _ => a⟩
    have g1 := s_162 (k := k) hn hs.1.n ht4 c2 q1 (fun h0 => ⟨(hk h0).2.1, (hk h0).1⟩)
    have g2 := s_284 (k := k) hn q.1.n ht4 c2 q2 (fun h0 => ⟨(hk h0).2.2, (hk h0).1⟩)
    cases hk5 : rng 0 5 w with
    | false =>
      cases hk10 : rng 10 14 w with
      | false => exact BAD (by simp (disch := omega) only [R_161_29, R_161_116, R_161_111, R_161_108, R_161_94, R_161_90, R_161_87, R_161_75, R_161_66, R_161_42, R_161_39, R_161_36, R_161_31, R_161_26, R_161_18, R_161_14, R_161_11, R_161_6, R_161_0, S_161, gd_t, bI_, bV_, bR_, and_self, and_true, true_and, ↓reduceIte, eq_self, oj_84, bI_1, bI_0, L0, L1, L2, L3, L5, L10, L11, L13, L14, L58, L59, L60, L97, L98, L99, s_11r, s_158, hr, hk5, hk10, eq_f]) (by simp (disch := omega) only [R_283_38, R_283_130, R_283_121, R_283_117, R_283_113, R_283_108, R_283_104, R_283_97, R_283_86, R_283_83, R_283_74, R_283_61, R_283_51, R_283_48, R_283_45, R_283_40, R_283_35, R_283_24, R_283_21, R_283_12, R_283_9, R_283_0, S_283, gd_t, bI_, bV_, bR_, and_self, and_true, true_and, ↓reduceIte, eq_self, oj_84, bI_1, bI_0, L0, L1, L2, L3, L5, L10, L11, L13, L14, L58, L59, L60, L97, L98, L99, J0, J3, J5, J10, J14, s_177r, hr, hk5, hk10, eq_f])
      | true =>
        by_cases cn : c = 0 ∨ c = 1 ∧ sN s ≤ k
        · rw [decide_eq_true cn] at g1 g2
          exact ⟨-nI 11, h, h, by simp (disch := omega) only [R_161_29, R_161_116, R_161_111, R_161_108, R_161_94, R_161_90, R_161_87, R_161_75, R_161_66, R_161_42, R_161_39, R_161_36, R_161_31, R_161_26, R_161_18, R_161_14, R_161_11, R_161_6, R_161_0, S_161, gd_t, bI_, bV_, bR_, and_self, and_true, true_and, ↓reduceIte, eq_self, oj_84, bI_1, bI_0, L0, L1, L2, L3, L5, L10, L11, L13, L14, L58, L59, L60, L97, L98, L99, s_11r, s_158, hr, hk5, hk10, eq_f, g1], by simp (disch := omega) only [R_283_38, R_283_130, R_283_121, R_283_117, R_283_113, R_283_108, R_283_104, R_283_97, R_283_86, R_283_83, R_283_74, R_283_61, R_283_51, R_283_48, R_283_45, R_283_40, R_283_35, R_283_24, R_283_21, R_283_12, R_283_9, R_283_0, S_283, gd_t, bI_, bV_, bR_, and_self, and_true, true_and, ↓reduceIte, eq_self, oj_84, bI_1, bI_0, L0, L1, L2, L3, L5, L10, L11, L13, L14, L58, L59, L60, L97, L98, L99, J0, J3, J5, J10, J14, s_177r, hr, hk5, hk10, eq_f, g2], I⟩
        · rw [decide_eq_false cn] at g1 g2
          obtain ⟨k5, e59, e98⟩ := hk (by omega)
          obtain ⟨a, a1, a2, rfl⟩ := rng_t hk10
          by_cases cc : c = 2
          · obtain ⟨sz, sz1, sz2, sz3⟩ := q4 cc
            subst cc
            by_cases ck : k = a - 10
            · exact ⟨nI sz, h, h, by simp (disch := omega) only [R_161_29, R_161_116, R_161_111, R_161_108, R_161_94, R_161_90, R_161_87, R_161_75, R_161_66, R_161_42, R_161_39, R_161_36, R_161_31, R_161_26, R_161_18, R_161_14, R_161_11, R_161_6, R_161_0, S_161, gd_t, bI_, bV_, bR_, and_self, and_true, true_and, ↓reduceIte, eq_self, oj_84, bI_1, bI_0, L0, L1, L2, L3, L5, L10, L11, L13, L14, L58, L59, L60, L97, L98, L99, le_t, le_f, lt_t, lt_f, eq_t, eq_f, ncl, nI_add, nmul, nsub, ndiv, nrem, nrem', nrN, s_11r, s_158, hr, hk5, hk10, g1, ia_58, ia_59, ia_60, e59, q1, ck, sz2], by simp (disch := omega) only [R_283_38, R_283_130, R_283_121, R_283_117, R_283_113, R_283_108, R_283_104, R_283_97, R_283_86, R_283_83, R_283_74, R_283_61, R_283_51, R_283_48, R_283_45, R_283_40, R_283_35, R_283_24, R_283_21, R_283_12, R_283_9, R_283_0, S_283, gd_t, bI_, bV_, bR_, and_self, and_true, true_and, ↓reduceIte, eq_self, oj_84, bI_1, bI_0, L0, L1, L2, L3, L5, L10, L11, L13, L14, L58, L59, L60, L97, L98, L99, le_t, le_f, lt_t, lt_f, eq_t, eq_f, ncl, nI_add, nmul, nsub, ndiv, nrem, nrem', nrN, J0, J3, J5, J10, J14, s_177r, hr, hk5, hk10, g2, ia_97, ia_98, ia_99, q2, e98, ck, sz3], I⟩
            · exact ⟨-nI 13, h, h, by simp (disch := omega) only [R_161_29, R_161_116, R_161_111, R_161_108, R_161_94, R_161_90, R_161_87, R_161_75, R_161_66, R_161_42, R_161_39, R_161_36, R_161_31, R_161_26, R_161_18, R_161_14, R_161_11, R_161_6, R_161_0, S_161, gd_t, bI_, bV_, bR_, and_self, and_true, true_and, ↓reduceIte, eq_self, oj_84, bI_1, bI_0, L0, L1, L2, L3, L5, L10, L11, L13, L14, L58, L59, L60, L97, L98, L99, le_t, le_f, lt_t, lt_f, eq_t, eq_f, ncl, nI_add, nmul, nsub, ndiv, nrem, nrem', nrN, s_11r, s_158, hr, hk5, hk10, g1, ia_58, ia_59, ia_60, e59, q1, ck, sz2], by simp (disch := omega) only [R_283_38, R_283_130, R_283_121, R_283_117, R_283_113, R_283_108, R_283_104, R_283_97, R_283_86, R_283_83, R_283_74, R_283_61, R_283_51, R_283_48, R_283_45, R_283_40, R_283_35, R_283_24, R_283_21, R_283_12, R_283_9, R_283_0, S_283, gd_t, bI_, bV_, bR_, and_self, and_true, true_and, ↓reduceIte, eq_self, oj_84, bI_1, bI_0, L0, L1, L2, L3, L5, L10, L11, L13, L14, L58, L59, L60, L97, L98, L99, le_t, le_f, lt_t, lt_f, eq_t, eq_f, ncl, nI_add, nmul, nsub, ndiv, nrem, nrem', nrN, J0, J3, J5, J10, J14, s_177r, hr, hk5, hk10, g2, ia_97, ia_98, ia_99, q2, e98, ck, sz3], I⟩
          · have c1 : c = 1 := by omega
            subst c1
            exact ⟨-nI 13, h, h, by simp (disch := omega) only [R_161_29, R_161_116, R_161_111, R_161_108, R_161_94, R_161_90, R_161_87, R_161_75, R_161_66, R_161_42, R_161_39, R_161_36, R_161_31, R_161_26, R_161_18, R_161_14, R_161_11, R_161_6, R_161_0, S_161, gd_t, bI_, bV_, bR_, and_self, and_true, true_and, ↓reduceIte, eq_self, oj_84, bI_1, bI_0, L0, L1, L2, L3, L5, L10, L11, L13, L14, L58, L59, L60, L97, L98, L99, le_t, le_f, lt_t, lt_f, eq_t, eq_f, ncl, nI_add, nmul, nsub, ndiv, nrem, nrem', nrN, s_11r, s_158, hr, hk5, hk10, g1, ia_58, ia_59, e59, q1], by simp (disch := omega) only [R_283_38, R_283_130, R_283_121, R_283_117, R_283_113, R_283_108, R_283_104, R_283_97, R_283_86, R_283_83, R_283_74, R_283_61, R_283_51, R_283_48, R_283_45, R_283_40, R_283_35, R_283_24, R_283_21, R_283_12, R_283_9, R_283_0, S_283, gd_t, bI_, bV_, bR_, and_self, and_true, true_and, ↓reduceIte, eq_self, oj_84, bI_1, bI_0, L0, L1, L2, L3, L5, L10, L11, L13, L14, L58, L59, L60, L97, L98, L99, le_t, le_f, lt_t, lt_f, eq_t, eq_f, ncl, nI_add, nmul, nsub, ndiv, nrem, nrem', nrN, J0, J3, J5, J10, J14, s_177r, hr, hk5, hk10, g2, ia_97, ia_98, q2, e98, of0 q.1 so], I⟩
    | true =>
      by_cases cn : c = 0 ∨ c = 1 ∧ sN s ≤ k
      · rw [decide_eq_true cn] at g1 g2
        exact ⟨-nI 11, h, h, by simp (disch := omega) only [R_161_29, R_161_116, R_161_111, R_161_108, R_161_94, R_161_90, R_161_87, R_161_75, R_161_66, R_161_42, R_161_39, R_161_36, R_161_31, R_161_26, R_161_18, R_161_14, R_161_11, R_161_6, R_161_0, S_161, gd_t, bI_, bV_, bR_, and_self, and_true, true_and, ↓reduceIte, eq_self, oj_84, bI_1, bI_0, L0, L1, L2, L3, L5, L10, L11, L13, L14, L58, L59, L60, L97, L98, L99, s_11r, s_158, hr, hk5, eq_f, g1], by simp (disch := omega) only [R_283_38, R_283_130, R_283_121, R_283_117, R_283_113, R_283_108, R_283_104, R_283_97, R_283_86, R_283_83, R_283_74, R_283_61, R_283_51, R_283_48, R_283_45, R_283_40, R_283_35, R_283_24, R_283_21, R_283_12, R_283_9, R_283_0, S_283, gd_t, bI_, bV_, bR_, and_self, and_true, true_and, ↓reduceIte, eq_self, oj_84, bI_1, bI_0, L0, L1, L2, L3, L5, L10, L11, L13, L14, L58, L59, L60, L97, L98, L99, J0, J3, J5, J10, J14, s_177r, hr, hk5, eq_f, g2], I⟩
      · rw [decide_eq_false cn] at g1 g2
        obtain ⟨k5, e59, e98⟩ := hk (by omega)
        obtain ⟨a, -, a2, rfl⟩ := rng_t hk5
        by_cases cc : c = 2
        · have ne : (nI k = nI a - nI 10) = False := eq_false (fun e => by
            have := congrArg Int32.toInt e
            rw [pk_sub_toInt (by omega) (by decide), nI_toInt (by omega)] at this
            omega)
          subst cc
          exact ⟨-nI 13, h, h, by simp (disch := omega) only [R_161_29, R_161_116, R_161_111, R_161_108, R_161_94, R_161_90, R_161_87, R_161_75, R_161_66, R_161_42, R_161_39, R_161_36, R_161_31, R_161_26, R_161_18, R_161_14, R_161_11, R_161_6, R_161_0, S_161, gd_t, bI_, bV_, bR_, and_self, and_true, true_and, ↓reduceIte, eq_self, oj_84, bI_1, bI_0, L0, L1, L2, L3, L5, L10, L11, L13, L14, L58, L59, L60, L97, L98, L99, s_11r, s_158, hr, hk5, eq_f, g1, ncl, ia_58, ia_59, ia_60, e59, q1, ne], by simp (disch := omega) only [R_283_38, R_283_130, R_283_121, R_283_117, R_283_113, R_283_108, R_283_104, R_283_97, R_283_86, R_283_83, R_283_74, R_283_61, R_283_51, R_283_48, R_283_45, R_283_40, R_283_35, R_283_24, R_283_21, R_283_12, R_283_9, R_283_0, S_283, gd_t, bI_, bV_, bR_, and_self, and_true, true_and, ↓reduceIte, eq_self, oj_84, bI_1, bI_0, L0, L1, L2, L3, L5, L10, L11, L13, L14, L58, L59, L60, L97, L98, L99, J0, J3, J5, J10, J14, s_177r, hr, hk5, eq_f, g2, ncl, ia_97, ia_98, ia_99, q2, e98, ne], I⟩
        · have c1 : c = 1 := by omega
          subst c1
          have hkN : k < sN s := by omega
          have hkd := so.2.1 k hkN
          have hia := isAs_iff (sKind s k) (by omega) a (by omega)
          have g26 := s_26 (h := h) (a := sKind s k) (b := a) (by omega) (by omega)
          have g192 := s_192 (h := h) (a := sKind s k) (by omega)
          have hab : (if sKind s k = 3 then 2 else if sKind s k = 5 then 4 else 0) < 5 := by (repeat' split) <;> omega
          generalize (if sKind s k = 3 then 2 else if sKind s k = 5 then 4 else 0) = ab at hia g192 hab
          cases hy : isAsS (sKind s k) a with
          | true =>
            rw [hy] at g26
            have e3 := hia.mp hy
            refine ⟨nI k, h, h, by simp (disch := omega) only [R_161_29, R_161_116, R_161_111, R_161_108, R_161_94, R_161_90, R_161_87, R_161_75, R_161_66, R_161_42, R_161_39, R_161_36, R_161_31, R_161_26, R_161_18, R_161_14, R_161_11, R_161_6, R_161_0, S_161, gd_t, bI_, bV_, bR_, and_self, and_true, true_and, ↓reduceIte, eq_self, oj_84, bI_1, bI_0, L0, L1, L2, L5, L10, L11, L13, L14, L58, L59, L60, le_t, le_f, lt_t, lt_f, eq_t, eq_f, ncl, nI_add, nmul, nsub, ndiv, nrem, nrem', nrN, s_11r, s_158, hr, hk5, g1, ia_58, ia_59, ia_2, e59, q1, hs.1.kind, g26], ?_, I⟩
            by_cases x0 : a = 0
            · simp (disch := omega) only [R_283_38, R_283_130, R_283_121, R_283_117, R_283_113, R_283_108, R_283_104, R_283_97, R_283_86, R_283_83, R_283_74, R_283_61, R_283_51, R_283_48, R_283_45, R_283_40, R_283_35, R_283_24, R_283_21, R_283_12, R_283_9, R_283_0, S_283, gd_t, bI_, bV_, bR_, and_self, and_true, true_and, ↓reduceIte, eq_self, oj_84, bI_1, bI_0, L0, L1, L2, L3, L5, L10, L11, L13, L14, L97, L98, L99, le_t, le_f, lt_t, lt_f, eq_t, eq_f, ncl, nI_add, nmul, nsub, ndiv, nrem, nrem', nrN, J0, J3, J5, J10, J14, s_177r, hr, hk5, g2, ia_97, ia_98, q2, e98, of0 q.1 so]
            · by_cases x1 : a = sKind s k
              · simp (disch := omega) only [R_283_38, R_283_130, R_283_121, R_283_117, R_283_113, R_283_108, R_283_104, R_283_97, R_283_86, R_283_83, R_283_74, R_283_61, R_283_51, R_283_48, R_283_45, R_283_40, R_283_35, R_283_24, R_283_21, R_283_12, R_283_9, R_283_0, S_283, gd_t, bI_, bV_, bR_, and_self, and_true, true_and, ↓reduceIte, eq_self, oj_84, bI_1, bI_0, L0, L1, L2, L3, L5, L10, L11, L13, L14, L97, L98, L99, le_t, le_f, lt_t, lt_f, eq_t, eq_f, ncl, nI_add, nmul, nsub, ndiv, nrem, nrem', nrN, J0, J3, J5, J10, J14, s_177r, hr, hk5, g2, ia_97, ia_98, q2, e98, of0 q.1 so]
              · simp (disch := omega) only [R_283_38, R_283_130, R_283_121, R_283_117, R_283_113, R_283_108, R_283_104, R_283_97, R_283_86, R_283_83, R_283_74, R_283_61, R_283_51, R_283_48, R_283_45, R_283_40, R_283_35, R_283_24, R_283_21, R_283_12, R_283_9, R_283_0, S_283, gd_t, bI_, bV_, bR_, and_self, and_true, true_and, ↓reduceIte, eq_self, oj_84, bI_1, bI_0, L0, L1, L2, L3, L5, L10, L11, L13, L14, L97, L98, L99, le_t, le_f, lt_t, lt_f, eq_t, eq_f, ncl, nI_add, nmul, nsub, ndiv, nrem, nrem', nrN, J0, J3, J5, J10, J14, s_177r, hr, hk5, g2, ia_97, ia_98, q2, e98, of0 q.1 so, g192]
          | false =>
            rw [hy] at g26
            have e3 : ¬ (a = 0 ∨ a = sKind s k ∨ a = ab) := fun w => by rw [hia.mpr w] at hy; cases hy
            refine ⟨-nI 13, h, h, by simp (disch := omega) only [R_161_29, R_161_116, R_161_111, R_161_108, R_161_94, R_161_90, R_161_87, R_161_75, R_161_66, R_161_42, R_161_39, R_161_36, R_161_31, R_161_26, R_161_18, R_161_14, R_161_11, R_161_6, R_161_0, S_161, gd_t, bI_, bV_, bR_, and_self, and_true, true_and, ↓reduceIte, eq_self, oj_84, bI_1, bI_0, L0, L1, L2, L5, L10, L11, L13, L14, L58, L59, L60, le_t, le_f, lt_t, lt_f, eq_t, eq_f, ncl, nI_add, nmul, nsub, ndiv, nrem, nrem', nrN, s_11r, s_158, hr, hk5, g1, ia_58, ia_59, ia_2, e59, q1, hs.1.kind, g26], ?_, I⟩
            simp (disch := omega) only [R_283_38, R_283_130, R_283_121, R_283_117, R_283_113, R_283_108, R_283_104, R_283_97, R_283_86, R_283_83, R_283_74, R_283_61, R_283_51, R_283_48, R_283_45, R_283_40, R_283_35, R_283_24, R_283_21, R_283_12, R_283_9, R_283_0, S_283, gd_t, bI_, bV_, bR_, and_self, and_true, true_and, ↓reduceIte, eq_self, oj_84, bI_1, bI_0, L0, L1, L2, L3, L5, L10, L11, L13, L14, L97, L98, L99, le_t, le_f, lt_t, lt_f, eq_t, eq_f, ncl, nI_add, nmul, nsub, ndiv, nrem, nrem', nrN, J0, J3, J5, J10, J14, s_177r, hr, hk5, g2, ia_97, ia_98, q2, e98, of0 q.1 so, g192]
