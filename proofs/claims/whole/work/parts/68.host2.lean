/-! part 68: goAll, wouldBe -/
theorem s_145 {h : Hp} {N : Nat} {v : Int32} (hN : N ≤ 6) (e : h 1 7 = nI N) : S_145 v h = some (bI (rng 0 N v), h) := by
  cases hr : rng 0 N v with
  | true =>
    obtain ⟨k, -, hk, rfl⟩ := rng_t hr
    simp (disch := omega) only [R_145_16, R_145_12, R_145_4, R_145_0, S_145, gd_t, bI_, bV_, bR_, and_self, and_true, true_and, ↓reduceIte, eq_self, oj_84, bI_1, bI_0, L0, L1, L7, le_t, le_f, lt_t, lt_f, eq_t, eq_f, ncl, nI_add, nmul, nsub, ndiv, nrem, nrem', nrN, e]
  | false =>
    have := of_decide_eq_false hr
    by_cases c : v < nI 0
    · simp (disch := omega) only [R_145_16, R_145_12, R_145_4, R_145_0, S_145, gd_t, bI_, bV_, bR_, and_self, and_true, true_and, ↓reduceIte, eq_self, oj_84, bI_1, bI_0, L0, L1, L7, c]
    · have c2 : nI N < v := by
        rw [Int32.lt_iff_toInt_lt, nI_toInt (by omega)]
        rw [Int32.lt_iff_toInt_lt] at c
        have e0 : (nI 0).toInt = 0 := rfl
        omega
      simp (disch := omega) only [R_145_16, R_145_12, R_145_4, R_145_0, S_145, gd_t, bI_, bV_, bR_, and_self, and_true, true_and, ↓reduceIte, eq_self, oj_84, bI_1, bI_0, L0, L1, L7, c, c2, e]
theorem s_177a {h : Hp} {a b n : Nat} (ha : a < 1000) (hb : b < 1000) (hn : n ≤ 100) : S_177 (Int32.toInt64 (nI a) + Int32.toInt64 (nI b)) (Int32.toInt64 (nI 0)) (Int32.toInt64 (nI n - nI 1)) h = some (bI (scn n (nI (a + b))), h) := by
  have e : (Int32.toInt64 (nI a) + Int32.toInt64 (nI b)).toInt = (nI (a + b)).toInt := by
    rw [Int64.toInt_add, Int32.toInt_toInt64, Int32.toInt_toInt64, nI_toInt (by omega), nI_toInt (by omega), nI_toInt (by omega)]
    rw [Int.bmod_eq_of_le (by omega) (by omega)]
    omega
  rw [s_177, e, Int32.toInt_toInt64, Int32.toInt_toInt64, scn_eq hn]
theorem add0L (v : Int32) : Int32.toInt64 v + Int32.toInt64 (nI 0) = Int32.toInt64 v := Int64.add_zero _
theorem add0I (v : Int32) : v + nI 0 = v := Int32.add_zero _
theorem scn_b {n k : Nat} (hk : k < 1000) : scn n (nI k) = decide (k < n) := by
  unfold scn
  rw [nI_toInt (by omega)]
  congr 1
  apply propext
  constructor <;> intro q <;> omega
def goA (s : Sg) (sz : Nat) (x : Nat → Int32) : Nat → Nat → Nat → Mo → Int32 × Mo
  | 0, _, acc, m => (nI acc, m)
  | r + 1, p, acc, m => if p < sz then (if rng 0 (sN s) (x p) = true ∧ ¬ sEnd s ≤ mNight m then goA s sz x r (p + 1) (acc + goW s m (x p).toNatClampNeg) (goM s m (x p).toNatClampNeg) else goA s sz x r (p + 1) acc m) else (-nI 12, m)
theorem goA_s (s : Sg) (sz : Nat) (x : Nat → Int32) (r p acc : Nat) (m : Mo) : goA s sz x (r + 1) p acc m = if p < sz then (if rng 0 (sN s) (x p) = true ∧ ¬ sEnd s ≤ mNight m then goA s sz x r (p + 1) (acc + goW s m (x p).toNatClampNeg) (goM s m (x p).toNatClampNeg) else goA s sz x r (p + 1) acc m) else (-nI 12, m) := rfl
theorem l_154 {h : Hp} {s : Sg} {t i0 n sz : Nat} {x : Nat → Int32} (so : SgOk s) (hs : SF h s) (ht : t < 4) (hi : i0 < 40) (hn : n ≤ 20) (h40 : sz ≤ 40) (q3 : h 52 t = nI sz) (q5 : ∀ j, j < sz → h (54 + t) j = x j) : ∀ (r j acc fu : Nat) (m : Mo) (H : Hp), j + r = n → r < fu → MoOk s m → Same [12, 13, 14, 15] h H → MoAt H 13 s m → ∃ h', H_154_44 fu (nI t) (nI i0) (nI n) (nI acc) (nI j) H = some ((goA s sz x r (i0 + j) acc m).1, h') ∧ Same [12, 13, 14, 15] h h' ∧ MoAt h' 13 s (goA s sz x r (i0 + j) acc m).2 ∧ MoOk s (goA s sz x r (i0 + j) acc m).2 := by
  have hN := so.1
  have he := so.2.2.2.2.2
  intro r
  induction r with
  | zero =>
    intro j acc fu m H hj hf mo sH hm
    obtain ⟨fu, rfl⟩ : ∃ p, fu = p + 1 := ⟨fu - 1, by omega⟩
    have ej : j = n := by omega
    refine ⟨H, ?_, sH, hm, mo⟩
    simp (disch := omega) only [H_154_44, R_154_17, R_154_134, R_154_128, R_154_125, R_154_110, R_154_107, R_154_96, R_154_93, R_154_68, R_154_65, R_154_62, R_154_50, R_154_44, R_154_38, R_154_35, R_154_28, R_154_19, R_154_14, R_154_7, R_154_4, R_154_0, S_154, gd_t, bI_, bV_, bR_, and_self, and_true, true_and, ↓reduceIte, eq_self, oj_84, bI_1, bI_0, L0, L1, L4, L12, L13, L20, L54, le_t, le_f, lt_t, lt_f, eq_t, eq_f, ncl, nI_add, nmul, nsub, ndiv, nrem, nrem', nrN, ej]
    rfl
  | succ r ih =>
    intro j acc fu m H hj hf mo sH hm
    obtain ⟨fu, rfl⟩ : ∃ p, fu = p + 1 := ⟨fu - 1, by omega⟩
    have hsH : SF H s := hs.same sH (by decide)
    have e52 : H 52 t = nI sz := by rw [sH 52 (by decide)]; exact q3
    have g150 := s_150 (h := H) (v := nI (i0 + j)) ht h40 e52
    rw [scn_b (by omega)] at g150
    rw [goA_s]
    by_cases c : i0 + j < sz
    · rw [if_pos c]
      rw [decide_eq_true c] at g150
      have ex : H (54 + t) (i0 + j) = x (i0 + j) := by rw [sH (54 + t) (by simp only [List.mem_cons, List.not_mem_nil, or_false]; omega)]; exact q5 _ c
      have g145 := s_145 (h := H) (v := x (i0 + j)) hN hsH.1.n
      cases hr : rng 0 (sN s) (x (i0 + j)) with
      | false =>
        rw [hr] at g145
        rw [if_neg (fun w => by cases w.1)]
        have nx := ih (j + 1) acc fu m H (by omega) (by omega) mo sH hm
        rw [← Nat.add_assoc] at nx
        simp (disch := omega) only [H_154_44, R_154_17, R_154_134, R_154_128, R_154_125, R_154_110, R_154_107, R_154_96, R_154_93, R_154_68, R_154_65, R_154_62, R_154_50, R_154_44, R_154_38, R_154_35, R_154_28, R_154_19, R_154_14, R_154_7, R_154_4, R_154_0, S_154, gd_t, bI_, bV_, bR_, and_self, and_true, true_and, ↓reduceIte, eq_self, oj_84, bI_1, bI_0, L0, L1, L4, L12, L13, L20, L54, le_t, le_f, lt_t, lt_f, eq_t, eq_f, ncl, nI_add, nmul, nsub, ndiv, nrem, nrem', nrN, g150, vpN, iaI, ex, g145]
        exact nx
      | true =>
        rw [hr] at g145
        by_cases c2 : sEnd s ≤ mNight m
        · rw [if_neg (fun w => w.2 c2)]
          have nx := ih (j + 1) acc fu m H (by omega) (by omega) mo sH hm
          rw [← Nat.add_assoc] at nx
          simp (disch := omega) only [H_154_44, R_154_17, R_154_134, R_154_128, R_154_125, R_154_110, R_154_107, R_154_96, R_154_93, R_154_68, R_154_65, R_154_62, R_154_50, R_154_44, R_154_38, R_154_35, R_154_28, R_154_19, R_154_14, R_154_7, R_154_4, R_154_0, S_154, gd_t, bI_, bV_, bR_, and_self, and_true, true_and, ↓reduceIte, eq_self, oj_84, bI_1, bI_0, L0, L1, L4, L12, L13, L20, L54, le_t, le_f, lt_t, lt_f, eq_t, eq_f, ncl, nI_add, nmul, nsub, ndiv, nrem, nrem', nrN, g150, vpN, iaI, ex, g145, s_38 mo13 so mo hsH.1 hm, c2, decide_true]
          exact nx
        · rw [if_pos ⟨rfl, c2⟩]
          obtain ⟨a, -, ha, exa⟩ := rng_t hr
          rw [exa] at g145 ex ⊢
          rw [ncl (by omega)]
          obtain ⟨h2, g2, s2, hm2⟩ := s_81 mo13 so mo hsH hm (act := a) (by omega)
          have nx := ih (j + 1) (acc + goW s m a) fu _ h2 (by omega) (by omega) (goOk mo (by omega)) (sH.tr s2) hm2
          rw [← Nat.add_assoc] at nx
          simp (disch := omega) only [H_154_44, R_154_17, R_154_134, R_154_128, R_154_125, R_154_110, R_154_107, R_154_96, R_154_93, R_154_68, R_154_65, R_154_62, R_154_50, R_154_44, R_154_38, R_154_35, R_154_28, R_154_19, R_154_14, R_154_7, R_154_4, R_154_0, S_154, gd_t, bI_, bV_, bR_, and_self, and_true, true_and, ↓reduceIte, eq_self, oj_84, bI_1, bI_0, L0, L1, L4, L12, L13, L20, L54, le_t, le_f, lt_t, lt_f, eq_t, eq_f, ncl, nI_add, nmul, nsub, ndiv, nrem, nrem', nrN, g150, vpN, iaI, ex, g145, s_38 mo13 so mo hsH.1 hm, c2, decide_false, g2]
          exact nx
    · rw [if_neg c]
      rw [decide_eq_false c] at g150
      refine ⟨H, ?_, sH, hm, mo⟩
      simp (disch := omega) only [H_154_44, R_154_17, R_154_134, R_154_128, R_154_125, R_154_110, R_154_107, R_154_96, R_154_93, R_154_68, R_154_65, R_154_62, R_154_50, R_154_44, R_154_38, R_154_35, R_154_28, R_154_19, R_154_14, R_154_7, R_154_4, R_154_0, S_154, gd_t, bI_, bV_, bR_, and_self, and_true, true_and, ↓reduceIte, eq_self, oj_84, bI_1, bI_0, L0, L1, L4, L12, L13, L20, L54, le_t, le_f, lt_t, lt_f, eq_t, eq_f, ncl, nI_add, nmul, nsub, ndiv, nrem, nrem', nrN, g150]
theorem l_279 {h : Hp} {s : Sg} {t i0 n sz : Nat} {x : Nat → Int32} (so : SgOk s) (ht : t < 4) (hi : i0 < 40) (hn : n ≤ 20) (h40 : sz ≤ 40) (q4 : h 95 t = nI sz) (q5 : ∀ j, j < sz → h 96 (40 * t + j) = x j) : ∀ (r j acc fu : Nat) (m : Mo) (H : Hp), j + r = n → r < fu → MoOk s m → MFr h H → SMd H s m → ∃ h', H_279_22 fu (nI t) (nI i0) (nI n) (nI acc) (nI j) H = some ((goA s sz x r (i0 + j) acc m).1, h') ∧ MFr h h' ∧ SMd h' s (goA s sz x r (i0 + j) acc m).2 := by
  have hN := so.1
  have he := so.2.2.2.2.2
  intro r
  induction r with
  | zero =>
    intro j acc fu m H hj hf mo fH q
    obtain ⟨fu, rfl⟩ : ∃ p, fu = p + 1 := ⟨fu - 1, by omega⟩
    have ej : j = n := by omega
    refine ⟨H, ?_, fH, q⟩
    simp (disch := omega) only [H_279_22, R_279_114, R_279_104, R_279_101, R_279_95, R_279_92, R_279_88, R_279_85, R_279_53, R_279_50, R_279_47, R_279_28, R_279_22, R_279_16, R_279_13, R_279_6, R_279_0, S_279, gd_t, bI_, bV_, bR_, and_self, and_true, true_and, ↓reduceIte, eq_self, oj_84, bI_1, bI_0, L0, L1, L12, L40, L85, L95, L96, le_t, le_f, lt_t, lt_f, eq_t, eq_f, ncl, nI_add, nmul, nsub, ndiv, nrem, nrem', nrN, ej]
    rfl
  | succ r ih =>
    intro j acc fu m H hj hf mo fH q
    obtain ⟨fu, rfl⟩ : ∃ p, fu = p + 1 := ⟨fu - 1, by omega⟩
    have e95 : H 95 t = nI sz := by rw [fH.1 95 (by decide) (by decide)]; exact q4
    have g177 := s_177a (h := H) (a := i0) (b := j) (n := sz) (by omega) (by omega) (by omega)
    rw [scn_b (by omega)] at g177
    rw [goA_s]
    by_cases c : i0 + j < sz
    · rw [if_pos c]
      rw [decide_eq_true c] at g177
      have ex : H 96 (40 * t + i0 + j) = x (i0 + j) := by rw [fH.1 96 (by decide) (by decide), Nat.add_assoc]; exact q5 _ c
      have g145 := s_177r (h := H) (v := x (i0 + j)) (a := 0) (b := sN s) (by decide) (by omega)
      cases hr : rng 0 (sN s) (x (i0 + j)) with
      | false =>
        rw [hr] at g145
        rw [if_neg (fun w => by cases w.1)]
        have nx := ih (j + 1) acc fu m H (by omega) (by omega) mo fH q
        rw [← Nat.add_assoc] at nx
        simp (disch := omega) only [H_279_22, R_279_114, R_279_104, R_279_101, R_279_95, R_279_92, R_279_88, R_279_85, R_279_53, R_279_50, R_279_47, R_279_28, R_279_22, R_279_16, R_279_13, R_279_6, R_279_0, S_279, gd_t, bI_, bV_, bR_, and_self, and_true, true_and, ↓reduceIte, eq_self, oj_84, bI_1, bI_0, L0, L1, L12, L40, L85, L95, L96, J0, e95, ia_95, ia_96, ia_85, ncl, nI_add, nmul, lt_f, le_f, Nat.add_zero, g177, ex, q.1.n, g145, eq_f]
        exact nx
      | true =>
        rw [hr] at g145
        by_cases c2 : sEnd s ≤ mNight m
        · rw [if_neg (fun w => w.2 c2)]
          have nx := ih (j + 1) acc fu m H (by omega) (by omega) mo fH q
          rw [← Nat.add_assoc] at nx
          simp (disch := omega) only [H_279_22, R_279_114, R_279_104, R_279_101, R_279_95, R_279_92, R_279_88, R_279_85, R_279_53, R_279_50, R_279_47, R_279_28, R_279_22, R_279_16, R_279_13, R_279_6, R_279_0, S_279, gd_t, bI_, bV_, bR_, and_self, and_true, true_and, ↓reduceIte, eq_self, oj_84, bI_1, bI_0, L0, L1, L12, L40, L85, L95, L96, J0, e95, ia_95, ia_96, ia_85, ncl, nI_add, nmul, lt_f, le_f, Nat.add_zero, g177, ex, q.1.n, g145, eq_f, s_205 so mo q.1, c2, decide_true]
          exact nx
        · rw [if_pos ⟨rfl, c2⟩]
          obtain ⟨a, -, ha, exa⟩ := rng_t hr
          rw [exa] at g145 ex ⊢
          rw [ncl (by omega)]
          obtain ⟨h2, g2, q2, f2⟩ := s_226 so mo q (act := a) ha
          have nx := ih (j + 1) (acc + goW s m a) fu _ h2 (by omega) (by omega) (goOk mo (by omega)) (fH.tr f2) q2
          rw [← Nat.add_assoc] at nx
          simp (disch := omega) only [H_279_22, R_279_114, R_279_104, R_279_101, R_279_95, R_279_92, R_279_88, R_279_85, R_279_53, R_279_50, R_279_47, R_279_28, R_279_22, R_279_16, R_279_13, R_279_6, R_279_0, S_279, gd_t, bI_, bV_, bR_, and_self, and_true, true_and, ↓reduceIte, eq_self, oj_84, bI_1, bI_0, L0, L1, L12, L40, L85, L95, L96, J0, e95, ia_95, ia_96, ia_85, ncl, nI_add, nmul, lt_f, le_f, g177, ex, q.1.n, g145, eq_f, s_205 so mo q.1, c2, decide_false, g2]
          exact nx
    · rw [if_neg c]
      rw [decide_eq_false c] at g177
      refine ⟨H, ?_, fH, q⟩
      simp (disch := omega) only [H_279_22, R_279_114, R_279_104, R_279_101, R_279_95, R_279_92, R_279_88, R_279_85, R_279_53, R_279_50, R_279_47, R_279_28, R_279_22, R_279_16, R_279_13, R_279_6, R_279_0, S_279, gd_t, bI_, bV_, bR_, and_self, and_true, true_and, ↓reduceIte, eq_self, oj_84, bI_1, bI_0, L0, L1, L12, L40, L85, L95, L96, J0, e95, ia_95, ncl, le_f, g177]
theorem s_280 {h : Hp} {v w : Int32} : rng 0 3 v = true → rng 0 20 w = true → ∀ t c, v = nI t → t < 4 → c ≤ 5 → h 94 t = nI c → S_280 v w h = some (if c = 0 then -nI 11 else if c = 1 then nI 0 else -nI 13, h) := by
  intro hr hr2 t c ev ht hc e
  subst ev
  by_cases c0 : c = 0
  · subst c0
    simp (disch := omega) only [R_280_19, R_280_50, R_280_45, R_280_35, R_280_30, R_280_21, R_280_16, R_280_7, R_280_4, R_280_0, S_280, gd_t, bI_, bV_, bR_, and_self, and_true, true_and, ↓reduceIte, eq_self, oj_84, bI_1, bI_0, L0, L1, L11, L13, L20, L94, s_276, hr, hr2, J0, J20, s_177r, eq_f, ncl, ia_94, e, if_true]
  · by_cases c1 : c = 1
    · subst c1
      rw [if_neg (by decide), if_pos rfl]
      simp (disch := omega) only [R_280_19, R_280_50, R_280_45, R_280_35, R_280_30, R_280_21, R_280_16, R_280_7, R_280_4, R_280_0, S_280, gd_t, bI_, bV_, bR_, and_self, and_true, true_and, ↓reduceIte, eq_self, oj_84, bI_1, bI_0, L0, L1, L11, L13, L20, L94, s_276, hr, hr2, J0, J20, s_177r, eq_f, ncl, ia_94, e]
    · simp (disch := omega) only [R_280_19, R_280_50, R_280_45, R_280_35, R_280_30, R_280_21, R_280_16, R_280_7, R_280_4, R_280_0, S_280, gd_t, bI_, bV_, bR_, and_self, and_true, true_and, ↓reduceIte, eq_self, oj_84, bI_1, bI_0, L0, L1, L11, L13, L20, L94, s_276, hr, hr2, J0, J20, s_177r, eq_f, ncl, ia_94, e, c0, c1, if_true, if_false]
theorem neg_le {a : Nat} (h0 : 0 < a) (h : a < 2147483648) : (nI 0 ≤ -nI a) = False := eq_false (fun q => by
  rw [Int32.le_iff_toInt_le] at q
  have e0 : (nI 0).toInt = 0 := rfl
  have e1 : (-nI a).toInt = -(a : Int) := by
    rw [Int32.toInt_neg, nI_toInt h, Int.bmod_eq_of_le (by omega) (by omega)]
  omega)
theorem neg_lt {a : Nat} (h0 : 0 < a) (h : a < 2147483648) : (-nI a < nI 0) = True := eq_true (by
  rw [Int32.lt_iff_toInt_lt]
  have e0 : (nI 0).toInt = 0 := rfl
  have e1 : (-nI a).toInt = -(a : Int) := by
    rw [Int32.toInt_neg, nI_toInt h, Int.bmod_eq_of_le (by omega) (by omega)]
  omega)
theorem neg_eq {a b : Nat} (h0 : 0 < a) (h : a < 2147483648) (hb : b < 2147483648) : (-nI a = nI b) = False := eq_false (fun q => by
  have := congrArg Int32.toInt q
  rw [Int32.toInt_neg, nI_toInt h, nI_toInt hb, Int.bmod_eq_of_le (by omega) (by omega)] at this
  omega)
theorem p_goAll {v w u : Int32} : Pub (S_154 v w u) (S_279 v w u) := by
  intro h I
  obtain ⟨⟨s, m, C⟩, D⟩ := id I
  obtain ⟨so, mo, hs, hm, q, h4⟩ := id C
  have D5 : SheI h := D.2.2.2.2.1
  cases hr : rng 0 3 v with
  | false => exact ⟨-nI 1, h, h, by simp (disch := omega) only [R_154_17, R_154_134, R_154_128, R_154_125, R_154_110, R_154_107, R_154_96, R_154_93, R_154_68, R_154_65, R_154_62, R_154_50, R_154_44, R_154_38, R_154_35, R_154_28, R_154_19, R_154_14, R_154_7, R_154_4, R_154_0, S_154, gd_t, bI_, bV_, bR_, and_self, and_true, true_and, ↓reduceIte, eq_self, oj_84, bI_1, bI_0, L0, L1, L4, L11, L12, L13, L20, L40, L54, L85, L94, L95, L96, s_147, hr], by simp (disch := omega) only [R_279_114, R_279_104, R_279_101, R_279_95, R_279_92, R_279_88, R_279_85, R_279_53, R_279_50, R_279_47, R_279_28, R_279_22, R_279_16, R_279_13, R_279_6, R_279_0, S_279, R_280_19, R_280_50, R_280_45, R_280_35, R_280_30, R_280_21, R_280_16, R_280_7, R_280_4, R_280_0, S_280, gd_t, bI_, bV_, bR_, and_self, and_true, true_and, ↓reduceIte, eq_self, oj_84, bI_1, bI_0, L0, L1, L4, L11, L12, L13, L20, L40, L54, L85, L94, L95, L96, s_276, hr, neg_le], I⟩
  | true =>
    cases hr2 : rng 0 20 u with
    | false => exact ⟨-nI 1, h, h, by simp (disch := omega) only [R_154_17, R_154_134, R_154_128, R_154_125, R_154_110, R_154_107, R_154_96, R_154_93, R_154_68, R_154_65, R_154_62, R_154_50, R_154_44, R_154_38, R_154_35, R_154_28, R_154_19, R_154_14, R_154_7, R_154_4, R_154_0, S_154, gd_t, bI_, bV_, bR_, and_self, and_true, true_and, ↓reduceIte, eq_self, oj_84, bI_1, bI_0, L0, L1, L4, L11, L12, L13, L20, L40, L54, L85, L94, L95, L96, s_147, s_11r, hr, hr2, eq_f], by simp (disch := omega) only [R_279_114, R_279_104, R_279_101, R_279_95, R_279_92, R_279_88, R_279_85, R_279_53, R_279_50, R_279_47, R_279_28, R_279_22, R_279_16, R_279_13, R_279_6, R_279_0, S_279, R_280_19, R_280_50, R_280_45, R_280_35, R_280_30, R_280_21, R_280_16, R_280_7, R_280_4, R_280_0, S_280, gd_t, bI_, bV_, bR_, and_self, and_true, true_and, ↓reduceIte, eq_self, oj_84, bI_1, bI_0, L0, L1, L4, L11, L12, L13, L20, L40, L54, L85, L94, L95, L96, s_276, hr, J0, J20, s_177r, hr2, eq_f, neg_le], I⟩
    | true =>
      obtain ⟨t, -, ht, rfl⟩ := rng_t hr
      obtain ⟨n, -, hn, rfl⟩ := rng_t hr2
      have ht4 : t < 4 := by omega
      obtain ⟨c, sz, c5, sz40, q1, q2, q3, q4, q5⟩ := D5 t ht4
      have g := s_153 (b := 0) ht4 c5 (by decide) q1
      have g2 := s_280 (h := h) hr hr2 t c rfl ht4 c5 q2
      by_cases c0 : c = 0
      · rw [if_pos c0] at g g2
        exact ⟨-nI 11, h, h, by simp (disch := omega) only [R_154_17, R_154_134, R_154_128, R_154_125, R_154_110, R_154_107, R_154_96, R_154_93, R_154_68, R_154_65, R_154_62, R_154_50, R_154_44, R_154_38, R_154_35, R_154_28, R_154_19, R_154_14, R_154_7, R_154_4, R_154_0, S_154, gd_t, bI_, bV_, bR_, and_self, and_true, true_and, ↓reduceIte, eq_self, oj_84, bI_1, bI_0, L0, L1, L4, L12, L13, L20, L40, L54, L85, L95, L96, s_147, s_11r, hr, hr2, eq_f, g, neg_eq], by simp (disch := omega) only [R_279_114, R_279_104, R_279_101, R_279_95, R_279_92, R_279_88, R_279_85, R_279_53, R_279_50, R_279_47, R_279_28, R_279_22, R_279_16, R_279_13, R_279_6, R_279_0, S_279, gd_t, bI_, bV_, bR_, and_self, and_true, true_and, ↓reduceIte, eq_self, oj_84, bI_1, bI_0, L0, L1, L4, L12, L13, L20, L40, L54, L85, L95, L96, g2, neg_le], I⟩
      · rw [if_neg c0] at g g2
        by_cases c1 : c = 1
        · rw [if_pos (by omega)] at g g2
          have E1 : S_154 (nI t) w (nI n) h = H_154_44 fuL (nI t) w (nI n) (nI 0) (nI 0) h := by
            simp (disch := omega) only [S_154, R_154_0, R_154_4, R_154_7, R_154_14, R_154_19, R_154_28, R_154_38, gd_t, bI_, bV_, bR_, and_self, and_true, true_and, ↓reduceIte, eq_self, oj_84, bI_1, bI_0, L0, L1, L4, L12, L13, L20, L54, s_147, s_11r, hr, hr2, eq_f, g]
          have E2 : ∀ H, H 94 t = nI c → S_279 (nI t) w (nI n) H = H_279_22 fuL (nI t) w (nI n) (nI 0) (nI 0) H := fun H eH => by
            have g3 := s_280 (h := H) hr hr2 t c rfl ht4 c5 eH
            rw [if_neg c0, if_pos c1] at g3
            simp (disch := omega) only [S_279, R_279_0, R_279_6, R_279_16, gd_t, bI_, bV_, bR_, and_self, and_true, true_and, ↓reduceIte, eq_self, oj_84, bI_1, bI_0, L0, L1, L12, L40, L85, L95, L96, g3, le_t]
          rw [E1]
          cases hi : scn sz w with
          | true =>
            obtain ⟨i0, hi0, rfl⟩ := scn_t hi
            obtain ⟨h1, g3, s3, hm3, o3⟩ := l_154 (x := fun j => h 96 (40 * t + j)) so hs ht4 (show i0 < 40 by omega) hn sz40 q3 q5 n 0 0 fuL m h (by omega) (fuL_gt (by omega)) mo Same.rf hm
            have q' : SMd h1 s m := q.same_c (s3 85 (by decide))
            obtain ⟨h2, g4, f4, q4'⟩ := l_279 (h := h1) (x := fun j => h 96 (40 * t + j)) so ht4 (show i0 < 40 by omega) hn sz40 (by rw [s3 95 (by decide)]; exact q4) (fun j hj => by rw [s3 96 (by decide)]) n 0 0 fuL m h1 (by omega) (fuL_gt (by omega)) mo MFr.rf q'
            exact ⟨_, h1, h2, g3, by rw [E2 h1 (by rw [s3 94 (by decide)]; exact q2)]; exact g4, Inv.step C D o3 s3 hm3 f4 q4'⟩
          | false =>
            obtain ⟨N, ef, hN⟩ := fuL_s
            have E2h := E2 h q2
            rw [ef] at E2h ⊢
            by_cases n0 : n = 0
            · subst n0
              exact ⟨nI 0, h, h, by simp (disch := omega) only [H_154_44, R_154_17, R_154_134, R_154_128, R_154_125, R_154_110, R_154_107, R_154_96, R_154_93, R_154_68, R_154_65, R_154_62, R_154_50, R_154_44, R_154_38, R_154_35, R_154_28, R_154_19, R_154_14, R_154_7, R_154_4, R_154_0, S_154, gd_t, bI_, bV_, bR_, and_self, and_true, true_and, ↓reduceIte, eq_self, oj_84, bI_1, bI_0, L0, L1, L4, L12, L13, L20, L40, L54, L85, L95, L96, le_t, le_f, lt_t, lt_f, eq_t, eq_f, ncl, nI_add, nmul, nsub, ndiv, nrem, nrem', nrN], by rw [E2h]; simp (disch := omega) only [H_279_22, R_279_114, R_279_104, R_279_101, R_279_95, R_279_92, R_279_88, R_279_85, R_279_53, R_279_50, R_279_47, R_279_28, R_279_22, R_279_16, R_279_13, R_279_6, R_279_0, S_279, gd_t, bI_, bV_, bR_, and_self, and_true, true_and, ↓reduceIte, eq_self, oj_84, bI_1, bI_0, L0, L1, L4, L12, L13, L20, L40, L54, L85, L95, L96, le_t, le_f, lt_t, lt_f, eq_t, eq_f, ncl, nI_add, nmul, nsub, ndiv, nrem, nrem', nrN], I⟩
            · have g150 := s_150 (h := h) (v := w) ht4 sz40 q3
              have g177 := s_177s (h := h) (v := w) (n := sz) (by omega)
              rw [hi] at g150 g177
              exact ⟨-nI 12, h, h, by simp (disch := omega) only [H_154_44, R_154_17, R_154_134, R_154_128, R_154_125, R_154_110, R_154_107, R_154_96, R_154_93, R_154_68, R_154_65, R_154_62, R_154_50, R_154_44, R_154_38, R_154_35, R_154_28, R_154_19, R_154_14, R_154_7, R_154_4, R_154_0, S_154, gd_t, bI_, bV_, bR_, and_self, and_true, true_and, ↓reduceIte, eq_self, oj_84, bI_1, bI_0, L0, L1, L4, L12, L13, L20, L40, L54, L85, L95, L96, le_f, add0I, g150], by rw [E2h]; simp (disch := omega) only [H_279_22, R_279_114, R_279_104, R_279_101, R_279_95, R_279_92, R_279_88, R_279_85, R_279_53, R_279_50, R_279_47, R_279_28, R_279_22, R_279_16, R_279_13, R_279_6, R_279_0, S_279, gd_t, bI_, bV_, bR_, and_self, and_true, true_and, ↓reduceIte, eq_self, oj_84, bI_1, bI_0, L0, L1, L4, L12, L13, L20, L40, L54, L85, L95, L96, J0, le_f, add0L, ncl, ia_95, q4, g177], I⟩
        · rw [if_neg (by omega)] at g g2
          exact ⟨-nI 13, h, h, by simp (disch := omega) only [R_154_17, R_154_134, R_154_128, R_154_125, R_154_110, R_154_107, R_154_96, R_154_93, R_154_68, R_154_65, R_154_62, R_154_50, R_154_44, R_154_38, R_154_35, R_154_28, R_154_19, R_154_14, R_154_7, R_154_4, R_154_0, S_154, gd_t, bI_, bV_, bR_, and_self, and_true, true_and, ↓reduceIte, eq_self, oj_84, bI_1, bI_0, L0, L1, L4, L12, L13, L20, L40, L54, L85, L95, L96, s_147, s_11r, hr, hr2, eq_f, g, neg_eq], by simp (disch := omega) only [R_279_114, R_279_104, R_279_101, R_279_95, R_279_92, R_279_88, R_279_85, R_279_53, R_279_50, R_279_47, R_279_28, R_279_22, R_279_16, R_279_13, R_279_6, R_279_0, S_279, gd_t, bI_, bV_, bR_, and_self, and_true, true_and, ↓reduceIte, eq_self, oj_84, bI_1, bI_0, L0, L1, L4, L12, L13, L20, L40, L54, L85, L95, L96, g2, neg_le], I⟩
