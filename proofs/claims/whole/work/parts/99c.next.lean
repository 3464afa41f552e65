/-! part 99c: the model's next -/
/-- the tape as the model has it -/
def TpM (h : Hp) (N : Nat) (T : Nat → Nat) : Prop := N ≤ 200 ∧ h 84 7 = nI N ∧ ∀ j, j < N → T j ≤ 255 ∧ h 89 j = nI (T j)
theorem TpM.c {h h' : Hp} {N : Nat} {T : Nat → Nat} (q : TpM h N T) (a : h' 84 7 = h 84 7) (b : h' 89 = h 89) : TpM h' N T := ⟨q.1, by rw [a]; exact q.2.1, fun j hj => by rw [b]; exact q.2.2 j hj⟩
theorem rng_i {a b n : Nat} (h : a ≤ n ∧ n ≤ b) (h3 : n < 2147483648) : rng a b (nI n) = true := by
  unfold rng
  rw [nI_toInt h3]
  exact decide_eq_true (by omega)
theorem s_211 {h : Hp} {N p a b : Nat} {T : Nat → Nat} (q : TpM h N T) (h8 : h 84 8 = nI p) (hp : p ≤ N) (ha : a < 256) (hb : b < 256) : ((p < N ∧ a ≤ T p ∧ T p ≤ b) → S_211 (nI a) (nI b) h = some (nI 1, h)) ∧ (¬ (p < N ∧ a ≤ T p ∧ T p ≤ b) → S_211 (nI a) (nI b) h = some (nI 0, h)) := by
  obtain ⟨q1, q2, q3⟩ := q
  constructor
  · rintro ⟨c1, c2, c3⟩
    have t := q3 p c1
    have i89 : IA 89 (nI p) = True := ia_89 (by omega)
    have e := s_177r (h := h) (v := nI (T p)) (a := a) (b := b) (by omega) (by omega)
    rw [rng_i ⟨c2, c3⟩ (by omega)] at e
    simp (disch := omega) only [R_211_35, R_211_31, R_211_28, R_211_11, R_211_0, S_211, gd_t, bI_, bV_, bR_, and_self, and_true, true_and, ↓reduceIte, eq_self, oj_84, bI_1, bI_0, L0, L1, L7, L8, L84, L89, le_t, le_f, lt_t, lt_f, eq_t, eq_f, ncl, nI_add, nmul, nsub, ndiv, nrem, nrem', nrN, q2, h8, i89, t.2, e]
  · intro c
    by_cases c1 : p < N
    · have t := q3 p c1
      have i89 : IA 89 (nI p) = True := ia_89 (by omega)
      have e := s_177r (h := h) (v := nI (T p)) (a := a) (b := b) (by omega) (by omega)
      rw [rng_f (fun w => c ⟨c1, w⟩) (by omega)] at e
      simp (disch := omega) only [R_211_35, R_211_31, R_211_28, R_211_11, R_211_0, S_211, gd_t, bI_, bV_, bR_, and_self, and_true, true_and, ↓reduceIte, eq_self, oj_84, bI_1, bI_0, L0, L1, L7, L8, L84, L89, le_t, le_f, lt_t, lt_f, eq_t, eq_f, ncl, nI_add, nmul, nsub, ndiv, nrem, nrem', nrN, q2, h8, i89, t.2, e]
    · simp (disch := omega) only [R_211_35, R_211_31, R_211_28, R_211_11, R_211_0, S_211, gd_t, bI_, bV_, bR_, and_self, and_true, true_and, ↓reduceIte, eq_self, oj_84, bI_1, bI_0, L0, L1, L7, L8, L84, L89, le_t, le_f, lt_t, lt_f, eq_t, eq_f, ncl, nI_add, nmul, nsub, ndiv, nrem, nrem', nrN, q2, h8]
/-- but for at, token and value -/
def Fr8 (h h' : Hp) : Prop := (∀ c, c ≠ 84 → h' c = h c) ∧ ∀ j, j ≠ 8 → j < 100 → h' 84 j = h 84 j
theorem Fr8.rf {h : Hp} : Fr8 h h := ⟨fun _ _ => rfl, fun _ _ _ => rfl⟩
theorem Fr8.tr {h h1 h2 : Hp} (a : Fr8 h h1) (b : Fr8 h1 h2) : Fr8 h h2 := ⟨fun c e => (b.1 c e).trans (a.1 c e), fun j e e2 => (b.2 j e e2).trans (a.2 j e e2)⟩
theorem Fr8.st {h : Hp} {v : Int64} {x : Int32} : Fr8 h (wr (wrL h 84 v) 84 8 x) := ⟨fun c e => by rw [wr_c e, wrL_c e], fun j e e2 => by rw [wr_k e, wrL_k e2]⟩
theorem Fr8.sv {h : Hp} {v : Int64} : Fr8 h (wrL h 84 v) := ⟨fun c e => by rw [wrL_c e], fun j e e2 => by rw [wrL_k e2]⟩
theorem l_210a {N b : Nat} {T : Nat → Nat} : ∀ (r p fu : Nat) (H : Hp), p + r = N → r < fu → b ≤ p → TpM H N T → H 84 8 = nI p → H 84 9 = nI b → rdL (H 84) = valL T b (p - b) → (∀ j, b ≤ j → j < p → isLet (T j)) → ∃ e H', H_210_86 fu H = some (nI 0, H') ∧ Fr8 H H' ∧ p ≤ e ∧ e ≤ N ∧ H' 84 8 = nI e ∧ rdL (H' 84) = valL T b (e - b) ∧ (∀ j, b ≤ j → j < e → isLet (T j)) ∧ (e = N ∨ ¬ isLet (T e)) := by
  intro r
  induction r with
  | zero =>
    intro p fu H hp hf hb q h8 h9 hv hl
    obtain ⟨fu, rfl⟩ : ∃ p, fu = p + 1 := ⟨fu - 1, by omega⟩
    have q1 := q.1
    have e := (s_211 q h8 (show p ≤ N by omega) (a := 97) (b := 122) (by decide) (by decide)).2 (fun w => by omega)
    by_cases c : p - b ≤ 7
    · refine ⟨p, wrL H 84 (valL T b (p - b)), by simp (disch := omega) only [H_210_206, H_210_86, H_210_0, R_210_306, R_210_296, R_210_290, R_210_276, R_210_257, R_210_231, R_210_217, R_210_214, R_210_206, R_210_201, R_210_198, R_210_190, R_210_180, R_210_174, R_210_159, R_210_140, R_210_112, R_210_97, R_210_94, R_210_86, R_210_81, R_210_78, R_210_70, R_210_62, R_210_38, R_210_25, R_210_11, R_210_0, S_210, gd_t, bI_, bV_, bR_, and_self, and_true, true_and, ↓reduceIte, eq_self, oj_84, bI_1, bI_0, L0, L1, L2, L3, L4, L7, L8, L9, L10, L27, L32, L48, L57, L84, L89, L97, L122, L100000, le_t, le_f, lt_t, lt_f, eq_t, eq_f, ncl, nI_add, nmul, nsub, ndiv, nrem, nrem', nrN, e, h8, h9, hv], Fr8.sv, by omega, by omega, by rw [wrL_k (by decide)]; exact h8, rdL_wrL, hl, Or.inl (by omega)⟩
    · refine ⟨p, wrL H 84 (-1), by simp (disch := omega) only [H_210_206, H_210_86, H_210_0, R_210_306, R_210_296, R_210_290, R_210_276, R_210_257, R_210_231, R_210_217, R_210_214, R_210_206, R_210_201, R_210_198, R_210_190, R_210_180, R_210_174, R_210_159, R_210_140, R_210_112, R_210_97, R_210_94, R_210_86, R_210_81, R_210_78, R_210_70, R_210_62, R_210_38, R_210_25, R_210_11, R_210_0, S_210, gd_t, bI_, bV_, bR_, and_self, and_true, true_and, ↓reduceIte, eq_self, oj_84, bI_1, bI_0, L0, L1, L2, L3, L4, L7, L8, L9, L10, L27, L32, L48, L57, L84, L89, L97, L122, L100000, le_t, le_f, lt_t, lt_f, eq_t, eq_f, ncl, nI_add, nmul, nsub, ndiv, nrem, nrem', nrN, e, h8, h9, hv] <;> rfl, Fr8.sv, by omega, by omega, by rw [wrL_k (by decide)]; exact h8, ?_, hl, Or.inl (by omega)⟩
      rw [rdL_wrL]
      unfold valL
      rw [if_neg c]
  | succ r ih =>
    intro p fu H hp hf hb q h8 h9 hv hl
    obtain ⟨fu, rfl⟩ : ∃ p, fu = p + 1 := ⟨fu - 1, by omega⟩
    have q1 := q.1
    have t := q.2.2 p (by omega)
    rcases dLet (T p) with cl | cl
    · have e := (s_211 q h8 (show p ≤ N by omega) (a := 97) (b := 122) (by decide) (by decide)).1 ⟨by omega, cl.1, cl.2⟩
      have nx : ∀ v, v = valL T b (p + 1 - b) → ∃ e H', H_210_86 fu (wr (wrL H 84 v) 84 8 (nI (p + 1))) = some (nI 0, H') ∧ Fr8 H H' ∧ p ≤ e ∧ e ≤ N ∧ H' 84 8 = nI e ∧ rdL (H' 84) = valL T b (e - b) ∧ (∀ j, b ≤ j → j < e → isLet (T j)) ∧ (e = N ∨ ¬ isLet (T e)) := by
        intro v hv2
        have f8 : Fr8 H (wr (wrL H 84 v) 84 8 (nI (p + 1))) := Fr8.st
        obtain ⟨e, H', g, a1, a2, a3, a4, a5, a6, a7⟩ := ih (p + 1) fu (wr (wrL H 84 v) 84 8 (nI (p + 1))) (by omega) (by omega) (by omega) (q.c (f8.2 7 (by decide) (by decide)) (f8.1 89 (by decide))) wr_self (by rw [f8.2 9 (by decide) (by decide)]; exact h9) (by rw [rdL_wr (by decide), rdL_wrL]; exact hv2) (fun j j1 j2 => by
          by_cases ej : j = p
          · rw [ej]; exact cl
          · exact hl j j1 (by omega))
        exact ⟨e, H', g, f8.tr a1, by omega, a3, a4, a5, a6, a7⟩
      by_cases c : p - b < 7
      · have ev : 27 * valL T b (p - b) + Int32.toInt64 (nI (T p)) - 97 + 1 = valL T b (p + 1 - b) := by
          unfold valL
          have cl1 := cl.1
          rw [if_pos (by omega), if_pos (by omega), lgN_i (by omega), lgN_27 cl1, show p + 1 - b = (p - b) + 1 by omega]
          show _ = lgN (27 * encG (fun j => T (b + j)) (p - b) + (T (b + (p - b)) - 96))
          rw [show b + (p - b) = p by omega]
        obtain ⟨e', H', g, a⟩ := nx _ rfl
        refine ⟨e', H', ?_, a⟩
        have i89 : IA 89 (nI p) = True := ia_89 (by omega)
        have e8 : ∀ v, wrL H 84 v 84 8 = nI p := fun v => by rw [wrL_k (by decide)]; exact h8
        simp (disch := omega) only [H_210_86, R_210_86, R_210_94, R_210_97, R_210_112, L97, L122, L7, gd_t, bI_, bV_, bR_, and_self, and_true, true_and, ↓reduceIte, eq_self, oj_84, bI_1, bI_0, L0, L1, le_t, le_f, lt_t, lt_f, eq_t, eq_f, ncl, nI_add, nmul, nsub, ndiv, nrem, nrem', nrN, e, h8, h9, hv, i89, t.2, ev, e8]
        exact g
      · have ev : (-1 : Int64) = valL T b (p + 1 - b) := by
          unfold valL
          rw [if_neg (by omega)]
        obtain ⟨e', H', g, a⟩ := nx _ ev
        refine ⟨e', H', ?_, a⟩
        have e8 : ∀ v, wrL H 84 v 84 8 = nI p := fun v => by rw [wrL_k (by decide)]; exact h8
        simp (disch := omega) only [H_210_86, R_210_86, R_210_94, R_210_97, R_210_140, L97, L122, L7, gd_t, bI_, bV_, bR_, and_self, and_true, true_and, ↓reduceIte, eq_self, oj_84, bI_1, bI_0, L0, L1, le_t, le_f, lt_t, lt_f, eq_t, eq_f, ncl, nI_add, nmul, nsub, ndiv, nrem, nrem', nrN, e, h8, h9, e8]
        exact g
    · have e := (s_211 q h8 (show p ≤ N by omega) (a := 97) (b := 122) (by decide) (by decide)).2 (fun w => cl ⟨w.2.1, w.2.2⟩)
      by_cases c : p - b ≤ 7
      · refine ⟨p, wrL H 84 (valL T b (p - b)), by simp (disch := omega) only [H_210_206, H_210_86, H_210_0, R_210_306, R_210_296, R_210_290, R_210_276, R_210_257, R_210_231, R_210_217, R_210_214, R_210_206, R_210_201, R_210_198, R_210_190, R_210_180, R_210_174, R_210_159, R_210_140, R_210_112, R_210_97, R_210_94, R_210_86, R_210_81, R_210_78, R_210_70, R_210_62, R_210_38, R_210_25, R_210_11, R_210_0, S_210, gd_t, bI_, bV_, bR_, and_self, and_true, true_and, ↓reduceIte, eq_self, oj_84, bI_1, bI_0, L0, L1, L2, L3, L4, L7, L8, L9, L10, L27, L32, L48, L57, L84, L89, L97, L122, L100000, le_t, le_f, lt_t, lt_f, eq_t, eq_f, ncl, nI_add, nmul, nsub, ndiv, nrem, nrem', nrN, e, h8, h9, hv], Fr8.sv, by omega, by omega, by rw [wrL_k (by decide)]; exact h8, rdL_wrL, hl, Or.inr cl⟩
      · refine ⟨p, wrL H 84 (-1), by simp (disch := omega) only [H_210_206, H_210_86, H_210_0, R_210_306, R_210_296, R_210_290, R_210_276, R_210_257, R_210_231, R_210_217, R_210_214, R_210_206, R_210_201, R_210_198, R_210_190, R_210_180, R_210_174, R_210_159, R_210_140, R_210_112, R_210_97, R_210_94, R_210_86, R_210_81, R_210_78, R_210_70, R_210_62, R_210_38, R_210_25, R_210_11, R_210_0, S_210, gd_t, bI_, bV_, bR_, and_self, and_true, true_and, ↓reduceIte, eq_self, oj_84, bI_1, bI_0, L0, L1, L2, L3, L4, L7, L8, L9, L10, L27, L32, L48, L57, L84, L89, L97, L122, L100000, le_t, le_f, lt_t, lt_f, eq_t, eq_f, ncl, nI_add, nmul, nsub, ndiv, nrem, nrem', nrN, e, h8, h9, hv] <;> rfl, Fr8.sv, by omega, by omega, by rw [wrL_k (by decide)]; exact h8, ?_, hl, Or.inr cl⟩
        rw [rdL_wrL]
        unfold valL
        rw [if_neg c]
theorem l_210b {N b : Nat} {T : Nat → Nat} : ∀ (r p fu : Nat) (H : Hp), p + r = N → r < fu → b ≤ p → TpM H N T → H 84 8 = nI p → H 84 9 = nI b → rdL (H 84) = valD T b (p - b) → (∀ j, b ≤ j → j < p → isDig (T j)) → ∃ e H', H_210_206 fu H = some (nI 0, H') ∧ Fr8 H H' ∧ p ≤ e ∧ e ≤ N ∧ H' 84 8 = nI e ∧ rdL (H' 84) = valD T b (e - b) ∧ (∀ j, b ≤ j → j < e → isDig (T j)) ∧ (e = N ∨ ¬ isDig (T e)) := by
  intro r
  induction r with
  | zero =>
    intro p fu H hp hf hb q h8 h9 hv hl
    obtain ⟨fu, rfl⟩ : ∃ p, fu = p + 1 := ⟨fu - 1, by omega⟩
    have q1 := q.1
    have e := (s_211 q h8 (show p ≤ N by omega) (a := 48) (b := 57) (by decide) (by decide)).2 (fun w => by omega)
    by_cases c : p - b ≤ 4
    · refine ⟨p, wrL H 84 (valD T b (p - b)), by simp (disch := omega) only [H_210_206, H_210_86, H_210_0, R_210_306, R_210_296, R_210_290, R_210_276, R_210_257, R_210_231, R_210_217, R_210_214, R_210_206, R_210_201, R_210_198, R_210_190, R_210_180, R_210_174, R_210_159, R_210_140, R_210_112, R_210_97, R_210_94, R_210_86, R_210_81, R_210_78, R_210_70, R_210_62, R_210_38, R_210_25, R_210_11, R_210_0, S_210, gd_t, bI_, bV_, bR_, and_self, and_true, true_and, ↓reduceIte, eq_self, oj_84, bI_1, bI_0, L0, L1, L2, L3, L4, L7, L8, L9, L10, L27, L32, L48, L57, L84, L89, L97, L122, L100000, le_t, le_f, lt_t, lt_f, eq_t, eq_f, ncl, nI_add, nmul, nsub, ndiv, nrem, nrem', nrN, e, h8, h9, hv], Fr8.sv, by omega, by omega, by rw [wrL_k (by decide)]; exact h8, rdL_wrL, hl, Or.inl (by omega)⟩
    · refine ⟨p, wrL H 84 100000, by simp (disch := omega) only [H_210_206, H_210_86, H_210_0, R_210_306, R_210_296, R_210_290, R_210_276, R_210_257, R_210_231, R_210_217, R_210_214, R_210_206, R_210_201, R_210_198, R_210_190, R_210_180, R_210_174, R_210_159, R_210_140, R_210_112, R_210_97, R_210_94, R_210_86, R_210_81, R_210_78, R_210_70, R_210_62, R_210_38, R_210_25, R_210_11, R_210_0, S_210, gd_t, bI_, bV_, bR_, and_self, and_true, true_and, ↓reduceIte, eq_self, oj_84, bI_1, bI_0, L0, L1, L2, L3, L4, L7, L8, L9, L10, L27, L32, L48, L57, L84, L89, L97, L122, L100000, le_t, le_f, lt_t, lt_f, eq_t, eq_f, ncl, nI_add, nmul, nsub, ndiv, nrem, nrem', nrN, e, h8, h9, hv] <;> rfl, Fr8.sv, by omega, by omega, by rw [wrL_k (by decide)]; exact h8, ?_, hl, Or.inl (by omega)⟩
      rw [rdL_wrL]
      unfold valD
      rw [if_neg c]
  | succ r ih =>
    intro p fu H hp hf hb q h8 h9 hv hl
    obtain ⟨fu, rfl⟩ : ∃ p, fu = p + 1 := ⟨fu - 1, by omega⟩
    have q1 := q.1
    have t := q.2.2 p (by omega)
    rcases dDig (T p) with cl | cl
    · have e := (s_211 q h8 (show p ≤ N by omega) (a := 48) (b := 57) (by decide) (by decide)).1 ⟨by omega, cl.1, cl.2⟩
      have nx : ∀ v, v = valD T b (p + 1 - b) → ∃ e H', H_210_206 fu (wr (wrL H 84 v) 84 8 (nI (p + 1))) = some (nI 0, H') ∧ Fr8 H H' ∧ p ≤ e ∧ e ≤ N ∧ H' 84 8 = nI e ∧ rdL (H' 84) = valD T b (e - b) ∧ (∀ j, b ≤ j → j < e → isDig (T j)) ∧ (e = N ∨ ¬ isDig (T e)) := by
        intro v hv2
        have f8 : Fr8 H (wr (wrL H 84 v) 84 8 (nI (p + 1))) := Fr8.st
        obtain ⟨e, H', g, a1, a2, a3, a4, a5, a6, a7⟩ := ih (p + 1) fu (wr (wrL H 84 v) 84 8 (nI (p + 1))) (by omega) (by omega) (by omega) (q.c (f8.2 7 (by decide) (by decide)) (f8.1 89 (by decide))) wr_self (by rw [f8.2 9 (by decide) (by decide)]; exact h9) (by rw [rdL_wr (by decide), rdL_wrL]; exact hv2) (fun j j1 j2 => by
          by_cases ej : j = p
          · rw [ej]; exact cl
          · exact hl j j1 (by omega))
        exact ⟨e, H', g, f8.tr a1, by omega, a3, a4, a5, a6, a7⟩
      by_cases c : p - b < 4
      · have ev : 10 * valD T b (p - b) + Int32.toInt64 (nI (T p)) - 48 = valD T b (p + 1 - b) := by
          unfold valD
          have cl1 := cl.1
          rw [if_pos (by omega), if_pos (by omega), lgN_i (by omega), lgN_10 cl1, show p + 1 - b = (p - b) + 1 by omega]
          show _ = lgN (numF T b (p - b) * 10 + T (b + (p - b)) - 48)
          rw [show b + (p - b) = p by omega]
        obtain ⟨e', H', g, a⟩ := nx _ rfl
        refine ⟨e', H', ?_, a⟩
        have i89 : IA 89 (nI p) = True := ia_89 (by omega)
        have e8 : ∀ v, wrL H 84 v 84 8 = nI p := fun v => by rw [wrL_k (by decide)]; exact h8
        simp (disch := omega) only [H_210_206, R_210_206, R_210_214, R_210_217, R_210_231, L48, L57, L4, gd_t, bI_, bV_, bR_, and_self, and_true, true_and, ↓reduceIte, eq_self, oj_84, bI_1, bI_0, L0, L1, le_t, le_f, lt_t, lt_f, eq_t, eq_f, ncl, nI_add, nmul, nsub, ndiv, nrem, nrem', nrN, e, h8, h9, hv, i89, t.2, ev, e8]
        exact g
      · have ev : (100000 : Int64) = valD T b (p + 1 - b) := by
          unfold valD
          rw [if_neg (by omega)]
        obtain ⟨e', H', g, a⟩ := nx _ ev
        refine ⟨e', H', ?_, a⟩
        have e8 : ∀ v, wrL H 84 v 84 8 = nI p := fun v => by rw [wrL_k (by decide)]; exact h8
        simp (disch := omega) only [H_210_206, R_210_206, R_210_214, R_210_217, R_210_257, L48, L57, L4, gd_t, bI_, bV_, bR_, and_self, and_true, true_and, ↓reduceIte, eq_self, oj_84, bI_1, bI_0, L0, L1, le_t, le_f, lt_t, lt_f, eq_t, eq_f, ncl, nI_add, nmul, nsub, ndiv, nrem, nrem', nrN, e, h8, h9, e8]
        exact g
    · have e := (s_211 q h8 (show p ≤ N by omega) (a := 48) (b := 57) (by decide) (by decide)).2 (fun w => cl ⟨w.2.1, w.2.2⟩)
      by_cases c : p - b ≤ 4
      · refine ⟨p, wrL H 84 (valD T b (p - b)), by simp (disch := omega) only [H_210_206, H_210_86, H_210_0, R_210_306, R_210_296, R_210_290, R_210_276, R_210_257, R_210_231, R_210_217, R_210_214, R_210_206, R_210_201, R_210_198, R_210_190, R_210_180, R_210_174, R_210_159, R_210_140, R_210_112, R_210_97, R_210_94, R_210_86, R_210_81, R_210_78, R_210_70, R_210_62, R_210_38, R_210_25, R_210_11, R_210_0, S_210, gd_t, bI_, bV_, bR_, and_self, and_true, true_and, ↓reduceIte, eq_self, oj_84, bI_1, bI_0, L0, L1, L2, L3, L4, L7, L8, L9, L10, L27, L32, L48, L57, L84, L89, L97, L122, L100000, le_t, le_f, lt_t, lt_f, eq_t, eq_f, ncl, nI_add, nmul, nsub, ndiv, nrem, nrem', nrN, e, h8, h9, hv], Fr8.sv, by omega, by omega, by rw [wrL_k (by decide)]; exact h8, rdL_wrL, hl, Or.inr cl⟩
      · refine ⟨p, wrL H 84 100000, by simp (disch := omega) only [H_210_206, H_210_86, H_210_0, R_210_306, R_210_296, R_210_290, R_210_276, R_210_257, R_210_231, R_210_217, R_210_214, R_210_206, R_210_201, R_210_198, R_210_190, R_210_180, R_210_174, R_210_159, R_210_140, R_210_112, R_210_97, R_210_94, R_210_86, R_210_81, R_210_78, R_210_70, R_210_62, R_210_38, R_210_25, R_210_11, R_210_0, S_210, gd_t, bI_, bV_, bR_, and_self, and_true, true_and, ↓reduceIte, eq_self, oj_84, bI_1, bI_0, L0, L1, L2, L3, L4, L7, L8, L9, L10, L27, L32, L48, L57, L84, L89, L97, L122, L100000, le_t, le_f, lt_t, lt_f, eq_t, eq_f, ncl, nI_add, nmul, nsub, ndiv, nrem, nrem', nrN, e, h8, h9, hv] <;> rfl, Fr8.sv, by omega, by omega, by rw [wrL_k (by decide)]; exact h8, ?_, hl, Or.inr cl⟩
        rw [rdL_wrL]
        unfold valD
        rw [if_neg c]
theorem lgN0 : lgN 0 = 0 := by decide +kernel
theorem valL0 {T : Nat → Nat} {b : Nat} : valL T b 0 = 0 := by
  unfold valL
  rw [if_pos (by decide)]
  exact lgN0
theorem valD0 {T : Nat → Nat} {b : Nat} : valD T b 0 = 0 := by
  unfold valD
  rw [if_pos (by decide)]
  exact lgN0
/-- but for at, begun, token and value -/
def Fr9 (h h' : Hp) : Prop := (∀ c, c ≠ 84 → h' c = h c) ∧ ∀ j, j ≠ 8 → j ≠ 9 → j ≠ 10 → j < 100 → h' 84 j = h 84 j
theorem Fr9.tr {h h1 h2 : Hp} (a : Fr9 h h1) (b : Fr9 h1 h2) : Fr9 h h2 := ⟨fun c e => (b.1 c e).trans (a.1 c e), fun j e e2 e3 e4 => (b.2 j e e2 e3 e4).trans (a.2 j e e2 e3 e4)⟩
theorem Fr8.f9 {h h' : Hp} (a : Fr8 h h') : Fr9 h h' := ⟨a.1, fun j e _ _ e4 => a.2 j e e4⟩
theorem n_70a {N ts e : Nat} {T : Nat → Nat} {H1 : Hp} (qq : TpM H1 N T) (a8 : H1 84 8 = nI ts) (a9 : H1 84 9 = nI ts) (ar : rdL (H1 84) = 0) (b1 : ts < N) (x1 : ts < e) (x2 : e ≤ N) (y1 : isLet (T ts)) (y2 : ∀ j, ts ≤ j → j < e → isLet (T j)) (y3 : e = N ∨ ¬ isLet (T e)) (v : Nat) : ∃ h', R_210_70 H1 = some (nI 0, h') ∧ Fr9 H1 h' ∧ h' 84 8 = nI e ∧ h' 84 9 = nI ts ∧ h' 84 10 = nI 1 ∧ MT 1 (rdL (h' 84)) (wcF T ts (e - ts), ts, v) := by
  have q1 := qq.1
  have s1 := s_211 qq a8 (show ts ≤ N by omega) (a := 97) (b := 122) (by decide) (by decide)
  have s := s1.1 ⟨b1, y1.1, y1.2⟩
  have f2 : Fr9 H1 (wr H1 84 10 (nI 1)) := ⟨fun c e => by rw [wr_c e], fun j _ _ e _ => by rw [wr_k e]⟩
  obtain ⟨e', H', g, g1, g2, g3, g4, g5, g6, g7⟩ := l_210a (b := ts) (T := T) (N - ts) ts fuL (wr H1 84 10 (nI 1)) (by omega) (fuL_gt (by omega)) (by omega) (qq.c (by rw [wr_k (by decide)]) (by rw [wr_c (by decide)])) (by rw [wr_k (by decide)]; exact a8) (by rw [wr_k (by decide)]; exact a9) (by rw [rdL_wr (by decide), ar, Nat.sub_self, valL0]) (fun j _ _ => by omega)
  have ee : e' = e := by
    rcases Nat.lt_trichotomy e' e with w | w | w
    · rcases g7 with g7 | g7
      · omega
      · exact absurd (y2 e' (by omega) w) g7
    · exact w
    · rcases y3 with y3 | y3
      · omega
      · exact absurd (g6 e (by omega) w) y3
  subst ee
  refine ⟨H', ?_, f2.tr g1.f9, g4, by rw [g1.2 9 (by decide) (by decide), wr_k (by decide)]; exact a9, by rw [g1.2 10 (by decide) (by decide), wr_self], ?_⟩
  · simp (disch := omega) only [R_210_70, R_210_78, R_210_81, L97, L122, gd_t, bI_, bV_, bR_, and_self, and_true, true_and, ↓reduceIte, eq_self, oj_84, bI_1, bI_0, L0, L1, le_t, le_f, lt_t, lt_f, eq_t, eq_f, ncl, nI_add, nmul, nsub, ndiv, nrem, nrem', nrN, s]
    exact g
  · rw [g5]
    exact MT.let_ (fun j hj => g6 (ts + j) (by omega) (by omega))
theorem g_70 {H1 : Hp} (sn : S_211 (nI 97) (nI 122) H1 = some (nI 0, H1)) : R_210_70 H1 = R_210_190 H1 := by
  have sn' : S_211 97 122 H1 = some (nI 0, H1) := sn
  unfold R_210_70
  rw [sn', bI_]
  unfold R_210_78
  exact if_pos rfl
theorem n_70b {N ts e : Nat} {T : Nat → Nat} {H1 : Hp} (qq : TpM H1 N T) (a8 : H1 84 8 = nI ts) (a9 : H1 84 9 = nI ts) (ar : rdL (H1 84) = 0) (b1 : ts < N) (x1 : ts < e) (x2 : e ≤ N) (y1 : isDig (T ts)) (y2 : ∀ j, ts ≤ j → j < e → isDig (T j)) (y3 : e = N ∨ ¬ isDig (T e)) (v : Nat) (y5 : e - ts ≤ 4 → v = numF T ts (e - ts)) : ∃ h', R_210_70 H1 = some (nI 0, h') ∧ Fr9 H1 h' ∧ h' 84 8 = nI e ∧ h' 84 9 = nI ts ∧ h' 84 10 = nI 2 ∧ MT 2 (rdL (h' 84)) (if e - ts ≤ 4 then 26 else 28, ts, v) := by
  have q1 := qq.1
  have s1 := s_211 qq a8 (show ts ≤ N by omega) (a := 97) (b := 122) (by decide) (by decide)
  have s2 := s_211 qq a8 (show ts ≤ N by omega) (a := 48) (b := 57) (by decide) (by decide)
  have sn := s1.2 (fun w => by unfold isDig at y1; omega)
  have s := s2.1 ⟨b1, y1.1, y1.2⟩
  have f2 : Fr9 H1 (wr H1 84 10 (nI 2)) := ⟨fun c e => by rw [wr_c e], fun j _ _ e _ => by rw [wr_k e]⟩
  obtain ⟨e', H', g, g1, g2, g3, g4, g5, g6, g7⟩ := l_210b (b := ts) (T := T) (N - ts) ts fuL (wr H1 84 10 (nI 2)) (by omega) (fuL_gt (by omega)) (by omega) (qq.c (by rw [wr_k (by decide)]) (by rw [wr_c (by decide)])) (by rw [wr_k (by decide)]; exact a8) (by rw [wr_k (by decide)]; exact a9) (by rw [rdL_wr (by decide), ar, Nat.sub_self, valD0]) (fun j _ _ => by omega)
  have ee : e' = e := by
    rcases Nat.lt_trichotomy e' e with w | w | w
    · rcases g7 with g7 | g7
      · omega
      · exact absurd (y2 e' (by omega) w) g7
    · exact w
    · rcases y3 with y3 | y3
      · omega
      · exact absurd (g6 e (by omega) w) y3
  subst ee
  refine ⟨H', ?_, f2.tr g1.f9, g4, by rw [g1.2 9 (by decide) (by decide), wr_k (by decide)]; exact a9, by rw [g1.2 10 (by decide) (by decide), wr_self], ?_⟩
  · rw [g_70 sn]
    simp (disch := omega) only [R_210_190, R_210_198, R_210_201, L48, L57, L2, gd_t, bI_, bV_, bR_, and_self, and_true, true_and, ↓reduceIte, eq_self, oj_84, bI_1, bI_0, L0, L1, le_t, le_f, lt_t, lt_f, eq_t, eq_f, ncl, nI_add, nmul, nsub, ndiv, nrem, nrem', nrN, s]
    exact g
  · rw [g5]
    exact MT.dig (fun j hj => g6 (ts + j) (by omega) (by omega)) y5
theorem n_70c {N ts : Nat} {T : Nat → Nat} {H1 : Hp} (qq : TpM H1 N T) (a8 : H1 84 8 = nI ts) (a9 : H1 84 9 = nI ts) (b1 : ts < N) (y1 : ¬ isLet (T ts)) (y2 : ¬ isDig (T ts)) (v : Nat) : ∃ h', R_210_70 H1 = some (nI 0, h') ∧ Fr9 H1 h' ∧ h' 84 8 = nI (ts + 1) ∧ h' 84 9 = nI ts ∧ h' 84 10 = nI 3 ∧ MT 3 (rdL (h' 84)) (byteC (T ts), ts, v) := by
  have q1 := qq.1
  have t3 := qq.2.2 ts b1
  have s1 := s_211 qq a8 (show ts ≤ N by omega) (a := 97) (b := 122) (by decide) (by decide)
  have s2 := s_211 qq a8 (show ts ≤ N by omega) (a := 48) (b := 57) (by decide) (by decide)
  have sn := s1.2 (fun w => y1 w.2)
  have s := s2.2 (fun w => y2 w.2)
  have i89 : IA 89 (nI ts) = True := ia_89 (by omega)
  have e8 : wr H1 84 10 (nI 3) 84 8 = nI ts := by rw [wr_k (by decide)]; exact a8
  have e89 : wr H1 84 10 (nI 3) 89 ts = nI (T ts) := by rw [wr_c (by decide)]; exact t3.2
  have e8' : ∀ v, wrL (wr H1 84 10 (nI 3)) 84 v 84 8 = nI ts := fun v => by rw [wrL_k (by decide)]; exact e8
  refine ⟨wr (wrL (wr H1 84 10 (nI 3)) 84 (Int32.toInt64 (nI (T ts)))) 84 8 (nI (ts + 1)), ?_, ⟨fun c e => by rw [wr_c e, wrL_c e, wr_c e], fun j e _ e3 e4 => by rw [wr_k e, wrL_k e4, wr_k e3]⟩, wr_self, by rw [wr_k (by decide), wrL_k (by decide), wr_k (by decide)]; exact a9, by rw [wr_k (by decide), wrL_k (by decide), wr_self], ?_⟩
  · rw [g_70 sn]
    simp (disch := omega) only [R_210_190, R_210_198, R_210_306, L48, L57, L3, gd_t, bI_, bV_, bR_, and_self, and_true, true_and, ↓reduceIte, eq_self, oj_84, bI_1, bI_0, L0, L1, le_t, le_f, lt_t, lt_f, eq_t, eq_f, ncl, nI_add, nmul, nsub, ndiv, nrem, nrem', nrN, s, e8, e89, e8', i89]
  · rw [rdL_wr (by decide), rdL_wrL, lgN_i (by omega)]
    exact MT.oth (by omega)
theorem go_38 {H H1 : Hp} {ts N : Nat} (h8 : H 84 8 = nI ts) (e1 : H1 = wrL (wr H 84 9 (nI ts)) 84 0) (a8 : H1 84 8 = nI ts) (a7 : H1 84 7 = nI N) : R_210_38 H = (if nI ts = nI N then R_210_62 H1 else R_210_70 H1) := by
  unfold R_210_38
  rw [h8, ← e1, a8, a7]
theorem n_38 {N p : Nat} {T : Nat → Nat} {t : Nat × Nat × Nat} {R : List (Nat × Nat × Nat)} {H : Hp} (q : TpM H N T) (h8 : H 84 8 = nI p) (hp : p ≤ N) (hs : t.2.1 = p) (hl : (p = N ∧ t.1 = 27 ∧ R = []) ∨ (p < N ∧ T p ≠ 32 ∧ ∃ e, Tk N T p e t.1 t.2.2 ∧ Lx N T e R)) : ∃ h' e tok, R_210_38 H = some (nI 0, h') ∧ Fr9 H h' ∧ h' 84 8 = nI e ∧ e ≤ N ∧ h' 84 9 = nI t.2.1 ∧ h' 84 10 = nI tok ∧ MT tok (rdL (h' 84)) t ∧ (t.1 ≠ 27 → Lx N T e R) := by
  obtain ⟨q1, q2, q3⟩ := id q
  obtain ⟨tc, ts, tv⟩ := t
  have hs : ts = p := hs
  subst hs
  obtain ⟨H1, e1⟩ : ∃ H1, H1 = wrL (wr H 84 9 (nI ts)) 84 0 := ⟨_, rfl⟩
  have f1 : Fr9 H H1 := ⟨fun c e => by rw [e1, wrL_c e, wr_c e], fun j a b c d => by rw [e1, wrL_k d, wr_k b]⟩
  have a8 : H1 84 8 = nI ts := by rw [e1, wrL_k (by decide), wr_k (by decide)]; exact h8
  have a9 : H1 84 9 = nI ts := by rw [e1, wrL_k (by decide), wr_self]
  have ar : rdL (H1 84) = 0 := by rw [e1, rdL_wrL]
  have a7 : H1 84 7 = nI N := by rw [f1.2 7 (by decide) (by decide) (by decide) (by decide)]; exact q2
  have qq : TpM H1 N T := q.c (f1.2 7 (by decide) (by decide) (by decide) (by decide)) (f1.1 89 (by decide))
  have go := go_38 h8 e1 a8 a7
  clear e1
  rcases hl with ⟨b1, b2, b3⟩ | ⟨b1, b2, e, b4, b5⟩
  · have b2 : tc = 27 := b2
    subst b2
    refine ⟨wr H1 84 10 (nI 0), ts, 0, ?_, f1.tr ⟨fun c e => by rw [wr_c e], fun j _ _ e _ => by rw [wr_k e]⟩, by rw [wr_k (by decide)]; exact a8, hp, by rw [wr_k (by decide)]; exact a9, wr_self, by rw [rdL_wr (by decide), ar]; exact MT.end_, fun w => absurd rfl w⟩
    rw [go, if_pos (by rw [b1])]
    simp (disch := omega) only [R_210_62, gd_t, bI_, bV_, bR_, and_self, and_true, true_and, ↓reduceIte, eq_self, oj_84, bI_1, bI_0, L0, L1, le_t, le_f, lt_t, lt_f, eq_t, eq_f, ncl, nI_add, nmul, nsub, ndiv, nrem, nrem', nrN]
  · have b6 : nI ts ≠ nI N := fun w => by
      have := (nI_eq (by omega) (by omega)).mp w
      omega
    obtain ⟨x1, x2, x3⟩ := b4
    rw [go, if_neg b6]
    rcases x3 with ⟨y1, y2, y3, y4⟩ | ⟨y1, y2, y3, y4, y5⟩ | ⟨y1, y2, y3, y4⟩
    · have y4 : tc = wcF T ts (e - ts) := y4
      obtain ⟨h', z1, z2, z3, z4, z5, z6⟩ := n_70a qq a8 a9 ar b1 x1 x2 y1 y2 y3 tv
      exact ⟨h', e, 1, z1, f1.tr z2, z3, x2, z4, z5, by rw [y4]; exact z6, fun _ => b5⟩
    · have y4 : tc = (if e - ts ≤ 4 then 26 else 28) := y4
      obtain ⟨h', z1, z2, z3, z4, z5, z6⟩ := n_70b qq a8 a9 ar b1 x1 x2 y1 y2 y3 tv y5
      exact ⟨h', e, 2, z1, f1.tr z2, z3, x2, z4, z5, by rw [y4]; exact z6, fun _ => b5⟩
    · have y4 : tc = byteC (T ts) := y4
      obtain ⟨h', z1, z2, z3, z4, z5, z6⟩ := n_70c qq a8 a9 b1 y1 y2 tv
      exact ⟨h', ts + 1, 3, z1, f1.tr z2, z3, by omega, z4, z5, by rw [y4]; exact z6, fun _ => by rw [y3] at b5; exact b5⟩
/-- next: the head of what is ahead becomes the token -/
theorem s_210 {N : Nat} {T : Nat → Nat} {t : Nat × Nat × Nat} {R : List (Nat × Nat × Nat)} : ∀ (r p fu : Nat) (H : Hp), p + r = N → r < fu → TpM H N T → H 84 8 = nI p → Lx N T p (t :: R) → ∃ h' e tok, H_210_0 fu H = some (nI 0, h') ∧ Fr9 H h' ∧ h' 84 8 = nI e ∧ e ≤ N ∧ h' 84 9 = nI t.2.1 ∧ h' 84 10 = nI tok ∧ MT tok (rdL (h' 84)) t ∧ (t.1 ≠ 27 → Lx N T e R) := by
  intro r
  induction r with
  | zero =>
    intro p fu H hp hf q h8 hl
    obtain ⟨fu, rfl⟩ : ∃ p, fu = p + 1 := ⟨fu - 1, by omega⟩
    obtain ⟨q1, q2, q3⟩ := id q
    obtain ⟨b, b1, b2, b3, b4, b5⟩ := hl
    have eb : b = p := by omega
    subst eb
    obtain ⟨h', e, tok, g, g'⟩ := n_38 q h8 (by omega) b4 b5
    refine ⟨h', e, tok, ?_, g'⟩
    simp (disch := omega) only [H_210_0, R_210_0, gd_t, bI_, bV_, bR_, and_self, and_true, true_and, ↓reduceIte, eq_self, oj_84, bI_1, bI_0, L0, L1, le_t, le_f, lt_t, lt_f, eq_t, eq_f, ncl, nI_add, nmul, nsub, ndiv, nrem, nrem', nrN, q2, h8]
    exact g
  | succ r ih =>
    intro p fu H hp hf q h8 hl
    obtain ⟨fu, rfl⟩ : ∃ p, fu = p + 1 := ⟨fu - 1, by omega⟩
    obtain ⟨q1, q2, q3⟩ := id q
    have t3 := q3 p (by omega)
    have i89 : IA 89 (nI p) = True := ia_89 (by omega)
    by_cases c : T p = 32
    · have f1 : Fr9 H (wr H 84 8 (nI (p + 1))) := ⟨fun c e => by rw [wr_c e], fun j e _ _ _ => by rw [wr_k e]⟩
      obtain ⟨h', e, tok, g, g0, g'⟩ := ih (p + 1) fu (wr H 84 8 (nI (p + 1))) (by omega) (by omega) (q.c (by rw [wr_k (by decide)]) (by rw [wr_c (by decide)])) wr_self (Lx_unblank c (by omega) hl)
      refine ⟨h', e, tok, ?_, f1.tr g0, g'⟩
      have t3' : H 89 p = nI 32 := by rw [t3.2, c]
      simp (disch := omega) only [H_210_0, R_210_0, R_210_11, R_210_25, L32, gd_t, bI_, bV_, bR_, and_self, and_true, true_and, ↓reduceIte, eq_self, oj_84, bI_1, bI_0, L0, L1, le_t, le_f, lt_t, lt_f, eq_t, eq_f, ncl, nI_add, nmul, nsub, ndiv, nrem, nrem', nrN, q2, h8, i89, t3']
      exact g
    · obtain ⟨b, b1, b2, b3, b4, b5⟩ := hl
      have eb : b = p := by
        rcases Nat.lt_or_ge p b with w | w
        · exact absurd (b3 p (by omega) w) c
        · omega
      subst eb
      obtain ⟨h', e, tok, g, g'⟩ := n_38 q h8 (by omega) b4 b5
      refine ⟨h', e, tok, ?_, g'⟩
      have cc : (nI (T b) = nI 32) = False := eq_f c (by omega) (by decide)
      simp (disch := omega) only [H_210_0, R_210_0, R_210_11, L32, gd_t, bI_, bV_, bR_, and_self, and_true, true_and, ↓reduceIte, eq_self, oj_84, bI_1, bI_0, L0, L1, le_t, le_f, lt_t, lt_f, eq_t, eq_f, ncl, nI_add, nmul, nsub, ndiv, nrem, nrem', nrN, q2, h8, i89, t3.2, cc]
      exact g
