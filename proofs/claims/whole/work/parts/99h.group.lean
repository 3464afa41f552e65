/-! part 99h: not, and, or; the group -/
theorem ev_all (P : Nat) (x y : Bool) : 2 * ((2 * (2 * P + x.toNat) + y.toNat) / 4) + ((2 * (2 * P + x.toNat) + y.toNat) / 2 % 2) * ((2 * (2 * P + x.toNat) + y.toNat) % 2) = 2 * P + (x && y).toNat := by
  cases x <;> cases y
  · show 2 * ((2 * (2 * P + 0) + 0) / 4) + ((2 * (2 * P + 0) + 0) / 2 % 2) * ((2 * (2 * P + 0) + 0) % 2) = 2 * P + 0
    rw [show (2 * (2 * P + 0) + 0) % 2 = 0 by omega]
    omega
  · show 2 * ((2 * (2 * P + 0) + 1) / 4) + ((2 * (2 * P + 0) + 1) / 2 % 2) * ((2 * (2 * P + 0) + 1) % 2) = 2 * P + 0
    rw [show (2 * (2 * P + 0) + 1) / 2 % 2 = 0 by omega]
    omega
  · show 2 * ((2 * (2 * P + 1) + 0) / 4) + ((2 * (2 * P + 1) + 0) / 2 % 2) * ((2 * (2 * P + 1) + 0) % 2) = 2 * P + 0
    rw [show (2 * (2 * P + 1) + 0) % 2 = 0 by omega]
    omega
  · show 2 * ((2 * (2 * P + 1) + 1) / 4) + ((2 * (2 * P + 1) + 1) / 2 % 2) * ((2 * (2 * P + 1) + 1) % 2) = 2 * P + 1
    rw [show (2 * (2 * P + 1) + 1) / 2 % 2 = 1 by omega, show (2 * (2 * P + 1) + 1) % 2 = 1 by omega]
    omega
theorem ev_cond (P : Nat) (x y : Bool) : 2 * ((2 * (2 * P + x.toNat) + y.toNat) / 4) + ((2 * (2 * P + x.toNat) + y.toNat) / 2 % 2 + (2 * (2 * P + x.toNat) + y.toNat) % 2 - ((2 * (2 * P + x.toNat) + y.toNat) / 2 % 2) * ((2 * (2 * P + x.toNat) + y.toNat) % 2)) = 2 * P + (x || y).toNat := by
  have a1 : (2 * (2 * P + x.toNat) + y.toNat) / 4 = P := by cases x <;> cases y <;> simp <;> omega
  have a2 : (2 * (2 * P + x.toNat) + y.toNat) / 2 % 2 = x.toNat := by cases x <;> cases y <;> simp <;> omega
  have a3 : (2 * (2 * P + x.toNat) + y.toNat) % 2 = y.toNat := by cases x <;> cases y <;> simp <;> omega
  rw [a1, a2, a3]
  cases x <;> cases y <;> rfl
theorem dn_all (x y : Bool) : dnM (20038 - 20000) x.toNat y.toNat = (x && y).toNat := by
  cases x <;> cases y <;> rfl
theorem dn_cond (x y : Bool) : dnM (20124 - 20000) x.toNat y.toNat = (x || y).toNat := by
  cases x <;> cases y <;> rfl
theorem nots_loop {N : Nat} {T : Nat → Nat} {o : Nat} {La Ma : List Nat} {a69 a70 a71 a72 c69 c70 c71 c72 : Int32 → Hp → Option (Int32 × Hp)} {b216 b217 b218 : Hp → Option (Int32 × Hp)} (hb : o < 3 → PX (o + 1) (2 * o + 2) (fun h => c69 (nI (o + 1)) h) b216) (hw : PWr b216) (ha : ∀ h, a72 (nI o) h = R_72_0 c69 c70 c71 c72 (nI o) h) (ho : o ≤ 3) : ∀ (r k fu fv : Nat) (t : Tok) (R : List Tok) (Hc Hm : Hp), R.length ≤ r → r < fu → r < fv → k + R.length ≤ 200 → St N T o t R La Ma Hc Hm → ∃ k' R0 b Hc0 Hm0 Hc' Hm', H_71_4 a69 a70 a71 a72 fu (nI o) (bI (decide (k % 2 = 1))) (nI k) Hc = R_71_54 a69 a70 a71 a72 (bI (decide (k' % 2 = 1))) (bI b) Hc' ∧ H_218_2 b216 b217 b218 fv (nI k) Hm = R_218_144 b216 b217 b218 (nI k') Hm' ∧ k ≤ k' ∧ R0.length + k' = R.length + k ∧ FrC Hc Hc0 ∧ FrM Hm Hm0 ∧ Rs N T o R0 La Ma (2 * o + 2) Hc0 Hm0 b Hc' Hm' := by
  intro r
  induction r with
  | zero =>
    intro k fu fv t R Hc Hm h1 hf hv hk S
    obtain ⟨fu, rfl⟩ : ∃ p, fu = p + 1 := ⟨fu - 1, by omega⟩
    obtain ⟨fv, rfl⟩ : ∃ p, fv = p + 1 := ⟨fv - 1, by omega⟩
    obtain ⟨cs, ms, -⟩ := id S
    have q8 := cs.tok
    have lt := cs.lt
    have c10 : t.1 ≠ 10 := fun w => by
      obtain ⟨t1, R1, rfl⟩ := ms.ne (by omega)
      simp only [List.length_cons] at h1
      omega
    have m10 := m_214f ms (w := 10) (by decide) c10
    obtain ⟨b, Hc', Hm', g1, g2, rs⟩ := body_ok (a69 := a69) (a70 := a70) (a71 := a71) (b217 := b217) (b218 := b218) hb hw ha ho S
    refine ⟨k, R, b, Hc, Hm, Hc', Hm', ?_, ?_, by omega, rfl, FrC.rf, FrM.rf, rs⟩
    · rw [← g1]
      by_cases c : 200 ≤ k
      · simp (disch := omega) only [H_71_4, R_71_4, gd_t, bI_, bV_, bR_, and_self, and_true, true_and, ↓reduceIte, eq_self, oj_84, bI_1, bI_0, L0, L1, L8, L10, L21, L23, L60, L200, le_t, le_f, lt_t, lt_f, eq_t, eq_f, ncl, nI_add, nmul, nsub, ndiv, nrem, nrem', nrN]
      · simp (disch := omega) only [H_71_4, R_71_4, R_71_11, gd_t, bI_, bV_, bR_, and_self, and_true, true_and, ↓reduceIte, eq_self, oj_84, bI_1, bI_0, L0, L1, L8, L10, L21, L23, L60, L200, le_t, le_f, lt_t, lt_f, eq_t, eq_f, ncl, nI_add, nmul, nsub, ndiv, nrem, nrem', nrN, q8]
    · rw [← g2]
      simp (disch := omega) only [H_218_2, R_218_2, R_218_9, gd_t, bI_, bV_, bR_, and_self, and_true, true_and, ↓reduceIte, eq_self, oj_84, bI_1, bI_0, L0, L1, le_t, le_f, lt_t, lt_f, eq_t, eq_f, ncl, nI_add, nmul, nsub, ndiv, nrem, nrem', nrN, Wd10, m10]
  | succ r ih =>
    intro k fu fv t R Hc Hm h1 hf hv hk S
    obtain ⟨fu, rfl⟩ : ∃ p, fu = p + 1 := ⟨fu - 1, by omega⟩
    obtain ⟨fv, rfl⟩ : ∃ p, fv = p + 1 := ⟨fv - 1, by omega⟩
    obtain ⟨cs, ms, s13, cc, cm, bc, bm⟩ := id S
    have q8 := cs.tok
    have lt := cs.lt
    by_cases c10 : t.1 = 10
    · have h27 : t.1 ≠ 27 := by omega
      obtain ⟨t1, R1, rfl⟩ := ms.ne h27
      simp only [List.length_cons] at h1 hk bc bm
      have m10 := m_214t ms (w := 10) (by decide) c10
      obtain ⟨C1, gc1, cs1, fc1⟩ := c_adv cs h27
      obtain ⟨M1, gm1, ms1, fm1⟩ := m_nx ms h27
      obtain ⟨k', R0, b, Hc0, Hm0, Hc', Hm', g1, g2, x1, x2, x3, x4, x5⟩ := ih (k + 1) fu fv t1 R1 C1 M1 (by omega) (by omega) (by omega) (by omega) ⟨cs1, ms1, by rw [fm1.2 13 (by decide) (by decide) (by decide) (by decide)]; exact s13, cc.a fc1, cm.a fm1, by omega, by omega⟩
      refine ⟨k', R0, b, Hc0, Hm0, Hc', Hm', ?_, ?_, by omega, by simp only [List.length_cons]; omega, fc1.c.tr x3, fm1.m.tr x4, x5⟩
      · rw [← g1]
        by_cases ck : k % 2 = 1
        · rw [decide_eq_true ck, decide_eq_false (show ¬ (k + 1) % 2 = 1 by omega)]
          simp (disch := omega) only [H_71_4, R_71_4, R_71_11, R_71_20, R_71_28, R_71_34, gd_t, bI_, bV_, bR_, and_self, and_true, true_and, ↓reduceIte, eq_self, oj_84, bI_1, bI_0, L0, L1, L8, L10, L21, L23, L60, L200, le_t, le_f, lt_t, lt_f, eq_t, eq_f, ncl, nI_add, nmul, nsub, ndiv, nrem, nrem', nrN, q8, c10, gc1]
        · rw [decide_eq_false ck, decide_eq_true (show (k + 1) % 2 = 1 by omega)]
          simp (disch := omega) only [H_71_4, R_71_4, R_71_11, R_71_20, R_71_24, R_71_34, gd_t, bI_, bV_, bR_, and_self, and_true, true_and, ↓reduceIte, eq_self, oj_84, bI_1, bI_0, L0, L1, L8, L10, L21, L23, L60, L200, le_t, le_f, lt_t, lt_f, eq_t, eq_f, ncl, nI_add, nmul, nsub, ndiv, nrem, nrem', nrN, q8, c10, gc1]
      · rw [← g2]
        simp (disch := omega) only [H_218_2, R_218_2, R_218_9, R_218_12, R_218_19, gd_t, bI_, bV_, bR_, and_self, and_true, true_and, ↓reduceIte, eq_self, oj_84, bI_1, bI_0, L0, L1, le_t, le_f, lt_t, lt_f, eq_t, eq_f, ncl, nI_add, nmul, nsub, ndiv, nrem, nrem', nrN, Wd10, m10, gm1]
    · have m10 := m_214f ms (w := 10) (by decide) c10
      obtain ⟨b, Hc', Hm', g1, g2, rs⟩ := body_ok (a69 := a69) (a70 := a70) (a71 := a71) (b217 := b217) (b218 := b218) hb hw ha ho S
      refine ⟨k, R, b, Hc, Hm, Hc', Hm', ?_, ?_, by omega, rfl, FrC.rf, FrM.rf, rs⟩
      · rw [← g1]
        by_cases c : 200 ≤ k
        · simp (disch := omega) only [H_71_4, R_71_4, gd_t, bI_, bV_, bR_, and_self, and_true, true_and, ↓reduceIte, eq_self, oj_84, bI_1, bI_0, L0, L1, L8, L10, L21, L23, L60, L200, le_t, le_f, lt_t, lt_f, eq_t, eq_f, ncl, nI_add, nmul, nsub, ndiv, nrem, nrem', nrN]
        · simp (disch := omega) only [H_71_4, R_71_4, R_71_11, gd_t, bI_, bV_, bR_, and_self, and_true, true_and, ↓reduceIte, eq_self, oj_84, bI_1, bI_0, L0, L1, L8, L10, L21, L23, L60, L200, le_t, le_f, lt_t, lt_f, eq_t, eq_f, ncl, nI_add, nmul, nsub, ndiv, nrem, nrem', nrN, q8]
      · rw [← g2]
        simp (disch := omega) only [H_218_2, R_218_2, R_218_9, gd_t, bI_, bV_, bR_, and_self, and_true, true_and, ↓reduceIte, eq_self, oj_84, bI_1, bI_0, L0, L1, le_t, le_f, lt_t, lt_f, eq_t, eq_f, ncl, nI_add, nmul, nsub, ndiv, nrem, nrem', nrN, Wd10, m10]
theorem lays_ok {b216 b217 b218 : Hp → Option (Int32 × Hp)} {k : Nat} (hk : k ≤ 200) : ∀ (r j fu : Nat) (H : Hp) (M : List Nat), j + r = k → r < fu → CoM H M → H 84 12 = nI 0 → M.length + r ≤ 240 → ∃ H', H_218_146 b216 b217 b218 fu (nI k) (nI j) H = some (nI 0, H') ∧ CoM H' (M ++ List.replicate r 20033) ∧ (∀ c, c ≠ 84 → c ≠ 90 → H' c = H c) ∧ ∀ i, i ≠ 15 → H' 84 i = H 84 i := by
  intro r
  induction r with
  | zero =>
    intro j fu H M hj hf cm q hl
    obtain ⟨fu, rfl⟩ : ∃ p, fu = p + 1 := ⟨fu - 1, by omega⟩
    exact ⟨H, by simp (disch := omega) only [H_218_146, R_218_146, R_218_164, gd_t, bI_, bV_, bR_, and_self, and_true, true_and, ↓reduceIte, eq_self, oj_84, bI_1, bI_0, L0, L1, le_t, le_f, lt_t, lt_f, eq_t, eq_f, ncl, nI_add, nmul, nsub, ndiv, nrem, nrem', nrN], by rw [List.replicate_zero, List.append_nil]; exact cm, fun _ _ _ => rfl, fun _ _ => rfl⟩
  | succ r ih =>
    intro j fu H M hj hf cm q hl
    obtain ⟨fu, rfl⟩ : ∃ p, fu = p + 1 := ⟨fu - 1, by omega⟩
    obtain ⟨H1, g1, cm1, f1, f2⟩ := m_lay q cm (by omega) (show 20033 < 30000 by decide)
    obtain ⟨H', g, cm', f3, f4⟩ := ih (j + 1) fu H1 (M ++ [20033]) (by omega) (by omega) cm1 (by rw [f2 12 (by decide)]; exact q) (by rw [List.length_append]; simp; omega)
    refine ⟨H', ?_, ?_, fun c e e2 => (f3 c e e2).trans (f1 c e e2), fun i e => (f4 i e).trans (f2 i e)⟩
    · have g1' : S_222 20033 H = some (nI 0, H1) := g1
      simp (disch := omega) only [H_218_146, R_218_146, R_218_151, R_218_158, L1, gd_t, bI_, bV_, bR_, and_self, and_true, true_and, ↓reduceIte, eq_self, oj_84, bI_1, bI_0, L0, L1, le_t, le_f, lt_t, lt_f, eq_t, eq_f, ncl, nI_add, nmul, nsub, ndiv, nrem, nrem', nrN, g1']
      exact g
    · rw [List.append_assoc] at cm'
      exact cm'
theorem lays_w {b216 b217 b218 : Hp → Option (Int32 × Hp)} {k : Nat} (hk : k ≤ 200) {H : Hp} (q : H 84 12 = nI 1) : ∀ (r j fu : Nat), j + r = k → r < fu → H_218_146 b216 b217 b218 fu (nI k) (nI j) H = some (nI 0, H) := by
  intro r
  induction r with
  | zero =>
    intro j fu hj hf
    obtain ⟨fu, rfl⟩ : ∃ p, fu = p + 1 := ⟨fu - 1, by omega⟩
    simp (disch := omega) only [H_218_146, R_218_146, R_218_164, gd_t, bI_, bV_, bR_, and_self, and_true, true_and, ↓reduceIte, eq_self, oj_84, bI_1, bI_0, L0, L1, le_t, le_f, lt_t, lt_f, eq_t, eq_f, ncl, nI_add, nmul, nsub, ndiv, nrem, nrem', nrN]
  | succ r ih =>
    intro j fu hj hf
    obtain ⟨fu, rfl⟩ : ∃ p, fu = p + 1 := ⟨fu - 1, by omega⟩
    have g1 := fun x => m_layw (v := x) q
    have g := ih (j + 1) fu (by omega) (by omega)
    simp (disch := omega) only [H_218_146, R_218_146, R_218_151, R_218_158, L1, gd_t, bI_, bV_, bR_, and_self, and_true, true_and, ↓reduceIte, eq_self, oj_84, bI_1, bI_0, L0, L1, le_t, le_f, lt_t, lt_f, eq_t, eq_f, ncl, nI_add, nmul, nsub, ndiv, nrem, nrem', nrN, g1]
    exact g
theorem evM_nots {f : Nat → Nat} : ∀ (r : Nat) (x : Nat) (st rest : List Nat), x ≤ 1 → evM f (List.replicate r 20033 ++ rest) (x :: st) = evM f rest ((if r % 2 = 1 then 1 - x else x) :: st) := by
  intro r
  induction r with
  | zero => exact fun x st rest _ => rfl
  | succ r ih =>
    intro x st rest hx
    rw [List.replicate_succ, List.cons_append, evM_n hx, ih (1 - x) st rest (by omega)]
    by_cases c : r % 2 = 1
    · rw [if_pos c, if_neg (by omega), show 1 - (1 - x) = x by omega]
    · rw [if_neg c, if_pos (by omega)]
theorem psh_nots {k n : Nat} {L M : List Nat} {c : (Nat → Nat) → Bool} (q : Psh k L M c) : Psh k (if n % 2 = 1 then L ++ [10] else L) (M ++ List.replicate n 20033) (fun f => if n % 2 = 1 then !(c f) else c f) := by
  obtain ⟨q1, q2, q3, q4⟩ := q
  have hc : ∀ f, (c f).toNat ≤ 1 := fun f => by cases c f <;> decide
  refine ⟨fun f P r hP => ?_, fun f st r => ?_, ?_, fun e => q4 (List.append_eq_nil_iff.mp e).1⟩
  · by_cases cn : n % 2 = 1
    · simp only [cn, if_true]
      rw [List.append_assoc, q1 f P _ hP]
      show evL f (10 :: r) _ = _
      rw [evL_n]
      congr 1
      cases c f <;> simp <;> omega
    · simp only [cn, if_false]
      exact q1 f P r hP
  · rw [List.append_assoc, q2, evM_nots n _ st r (hc f)]
    by_cases cn : n % 2 = 1
    · simp only [cn, if_true]
      cases c f <;> rfl
    · simp only [cn, if_false]
  · by_cases cn : n % 2 = 1
    · rw [if_pos cn]
      exact fun e => q3 (List.append_eq_nil_iff.mp e).1
    · rw [if_neg cn]
      exact q3
theorem one_ok {o : Nat} {a69 a70 a71 a72 c69 c70 c71 c72 : Int32 → Hp → Option (Int32 × Hp)} {b216 b217 b218 : Hp → Option (Int32 × Hp)} (hb : o < 3 → PX (o + 1) (2 * o + 2) (fun h => c69 (nI (o + 1)) h) b216) (hw : PWr b216) (ha : ∀ h, a72 (nI o) h = R_72_0 c69 c70 c71 c72 (nI o) h) (ho : o ≤ 3) : PX o (2 * o + 2) (fun h => R_71_0 a69 a70 a71 a72 (nI o) h) (fun h => R_218_0 b216 b217 b218 h) := by
  intro N T t R La Ma Hc Hm S
  have bc := S.2.2.2.2.2.1
  obtain ⟨k', R0, b, Hc0, Hm0, Hc', Hm', g1, g2, x1, x2, x3, x4, r1, r2, r3, r4⟩ := nots_loop (a69 := a69) (a70 := a70) (a71 := a71) (b217 := b217) (b218 := b218) hb hw ha ho R.length 0 fuL fuL t R Hc Hm (by omega) (fuL_gt (by omega)) (fuL_gt (by omega)) (by omega) S
  have eC : R_71_0 a69 a70 a71 a72 (nI o) Hc = R_71_54 a69 a70 a71 a72 (bI (decide (k' % 2 = 1))) (bI b) Hc' := g1
  have eM : R_218_0 b216 b217 b218 Hm = R_218_144 b216 b217 b218 (nI k') Hm' := g2
  have k200 : k' ≤ 200 := by omega
  cases b with
  | false =>
    obtain ⟨y1, y2⟩ := r3 rfl
    have lw := lays_w (b216 := b216) (b217 := b217) (b218 := b218) k200 y2 k' 0 fuL (by omega) (fuL_gt (by omega))
    refine ⟨false, Hc', Hm', ?_, ?_, x3.tr r1, x4.tr r2, fun _ => ⟨y1, y2⟩, (fun e => by cases e)⟩
    · show R_71_0 a69 a70 a71 a72 (nI o) Hc = _
      rw [eC]
      simp (disch := omega) only [R_71_54, R_71_79, gd_t, bI_, bV_, bR_, and_self, and_true, true_and, ↓reduceIte, eq_self, oj_84, bI_1, bI_0, L0, L1, le_t, le_f, lt_t, lt_f, eq_t, eq_f, ncl, nI_add, nmul, nsub, ndiv, nrem, nrem', nrN, tor]
    · show R_218_0 b216 b217 b218 Hm = _
      rw [eM]
      exact lw
  | true =>
    obtain ⟨t', R', L, M, c, y1, y0, ⟨cs, ms, s13, cc, cm, bc', bm'⟩, y3⟩ := r4 rfl
    rw [List.length_append] at bc' bm'
    have q12 := ms.2.1
    obtain ⟨Hm2, lg, cm2, f1, f2⟩ := lays_ok (b216 := b216) (b217 := b217) (b218 := b218) k200 k' 0 fuL Hm' (Ma ++ M) (by omega) (fuL_gt (by omega)) cm q12 (by rw [List.length_append]; have := S.2.2.2.2.2.2; omega)
    have bm0 := S.2.2.2.2.2.2
    have ms2 : MS N T Hm2 t' R' := ms.l f1 f2
    have s13' : Hm2 84 13 = nI o := by rw [f2 13 (by decide)]; exact s13
    have psh := psh_nots (n := k') y3
    have cm3 : CoM Hm2 (Ma ++ (M ++ List.replicate k' 20033)) := by rw [← List.append_assoc]; exact cm2
    have egM : R_218_0 b216 b217 b218 Hm = some (nI 0, Hm2) := by rw [eM]; exact lg
    have bmm : (Ma ++ (M ++ List.replicate k' 20033)).length + R'.length ≤ 200 := by
      rw [List.length_append, List.length_append, List.length_replicate]
      omega
    by_cases ck : k' % 2 = 1
    · rw [if_pos ck] at psh
      obtain ⟨C2, gc2, cc2, h1, h2⟩ := c_lay cc (by rw [List.length_append]; omega) (show 10 < 20000 by decide)
      refine ⟨true, C2, Hm2, ?_, egM, (x3.tr r1).tr (FrC.l h1 h2), (x4.tr r2).tr (FrM.l f1 f2), (fun e => by cases e), fun _ => ⟨t', R', _, _, _, by omega, ⟨by rw [List.length_append]; simp; omega, by rw [List.length_append, List.length_replicate]; omega⟩, ⟨cs.l h1, ms2, s13', by rw [← List.append_assoc]; exact cc2, cm3, by rw [List.length_append, List.length_append]; simp; omega, bmm⟩, psh⟩⟩
      show R_71_0 a69 a70 a71 a72 (nI o) Hc = _
      rw [eC, decide_eq_true ck]
      have gc2' : S_76 10 Hc' = some (nI 0, C2) := gc2
      simp (disch := omega) only [R_71_54, R_71_66, R_71_70, R_71_79, gd_t, bI_, bV_, bR_, and_self, and_true, true_and, ↓reduceIte, eq_self, oj_84, bI_1, bI_0, L0, L1, eq_f, gc2', or_true]
    · rw [if_neg ck] at psh
      refine ⟨true, Hc', Hm2, ?_, egM, x3.tr r1, (x4.tr r2).tr (FrM.l f1 f2), (fun e => by cases e), fun _ => ⟨t', R', _, _, _, by omega, ⟨by omega, by rw [List.length_append, List.length_replicate]; omega⟩, ⟨cs, ms2, s13', cc, cm3, by rw [List.length_append]; omega, bmm⟩, psh⟩⟩
      show R_71_0 a69 a70 a71 a72 (nI o) Hc = _
      rw [eC, decide_eq_false ck]
      simp (disch := omega) only [R_71_54, R_71_66, R_71_79, gd_t, bI_, bV_, bR_, and_self, and_true, true_and, ↓reduceIte, eq_self, oj_84, bI_1, bI_0, L0, L1, eq_f, or_true]
theorem one_w {b216 b217 b218 : Hp → Option (Int32 × Hp)} : PWr (fun h => R_218_0 b216 b217 b218 h) := by
  intro h q
  have e := fun x => m_214w (v := x) q
  have e2 := fun x => m_219w (v := x) q
  show H_218_2 b216 b217 b218 fuL 0 h = _
  obtain ⟨fu, hfu⟩ : ∃ p, fuL = p + 1 := ⟨fuL - 1, by have := fuL_gt (n := 5) (by decide); omega⟩
  have lw := lays_w (b216 := b216) (b217 := b217) (b218 := b218) (k := 0) (by decide) q 0 0 fuL rfl (fuL_gt (by decide))
  have t1 : R_218_144 b216 b217 b218 (nI 0) h = some (nI 0, h) := lw
  have t2 : R_218_85 b216 b217 b218 (nI 0) h = some (nI 0, h) := by
    unfold R_218_85
    rw [m_220w q, bV_, tail1w q]
    exact t1
  have t3 : H_218_2 b216 b217 b218 (fu + 1) (nI 0) h = some (nI 0, h) := by
    simp (disch := omega) only [H_218_2, R_218_2, R_218_9, R_218_22, R_218_28, gd_t, bI_, bV_, bR_, and_self, and_true, true_and, ↓reduceIte, eq_self, oj_84, bI_1, bI_0, L0, L1, le_t, le_f, lt_t, lt_f, eq_t, eq_f, ncl, nI_add, nmul, nsub, ndiv, nrem, nrem', nrN, e, e2]
    exact t2
  rw [hfu]
  exact t3
theorem psh_all {k : Nat} {L M Lb M1 : List Nat} {c c1 : (Nat → Nat) → Bool} (q : Psh k L M c) (p : Psh (k + 1) Lb M1 c1) : Psh k (L ++ (Lb ++ [11])) (M ++ (M1 ++ [20038])) (fun f => c f && c1 f) := by
  obtain ⟨q1, q2, q3, q4⟩ := q
  obtain ⟨p1, p2, p3, p4⟩ := p
  have hc : ∀ f, (c f).toNat ≤ 1 := fun f => by cases c f <;> decide
  have hc1 : ∀ f, (c1 f).toNat ≤ 1 := fun f => by cases c1 f <;> decide
  refine ⟨fun f P r hP => ?_, fun f st r => ?_, fun e => q3 (List.append_eq_nil_iff.mp e).1, fun e => q4 (List.append_eq_nil_iff.mp e).1⟩
  · have := hc f
    rw [List.append_assoc, q1 f P _ hP, List.append_assoc, p1 f _ _ (by rw [Nat.pow_succ]; omega)]
    show evL f (11 :: r) _ = _
    rw [evL_a, ev_all]
  · rw [List.append_assoc, q2, List.append_assoc, p2]
    show evM f (20038 :: r) _ = _
    rw [evM_c (by decide) (by decide) (Or.inr ⟨by decide, hc f, hc1 f⟩), dn_all]
theorem all_loop {N : Nat} {T : Nat → Nat} {o : Nat} {La Ma : List Nat} {a69 a70 a71 a72 : Int32 → Hp → Option (Int32 × Hp)} {b216 b217 b218 : Hp → Option (Int32 × Hp)} (h1 : PX o (2 * o + 2) (fun h => a71 (nI o) h) b218) : ∀ (r i fu fv : Nat) (t : Tok) (R : List Tok) (L M : List Nat) (c : (Nat → Nat) → Bool) (Hc Hm : Hp), R.length ≤ r → r < fu → r < fv → i + R.length ≤ 200 → St N T o t R (La ++ L) (Ma ++ M) Hc Hm → Psh (2 * o + 1) L M c → ∃ b Hc' Hm', H_70_12 a69 a70 a71 a72 fu (nI o) (nI i) Hc = some (bI b, Hc') ∧ H_217_4 b216 b217 b218 fv Hm = some (nI 0, Hm') ∧ FrC Hc Hc' ∧ FrM Hm Hm' ∧ (b = false → Hc' 21 3 = Hm' 84 9 ∧ Hm' 84 12 = nI 1) ∧ (b = true → ∃ t' R' L' M' c', R'.length ≤ R.length ∧ (L'.length + R'.length ≤ L.length + R.length ∧ M'.length + R'.length ≤ M.length + R.length) ∧ St N T o t' R' (La ++ L') (Ma ++ M') Hc' Hm' ∧ Psh (2 * o + 1) L' M' c') := by
  intro r
  induction r with
  | zero =>
    intro i fu fv t R L M c Hc Hm hr hf hv hi S p
    obtain ⟨fu, rfl⟩ : ∃ p, fu = p + 1 := ⟨fu - 1, by omega⟩
    obtain ⟨fv, rfl⟩ : ∃ p, fv = p + 1 := ⟨fv - 1, by omega⟩
    obtain ⟨cs, ms, -⟩ := id S
    have q8 := cs.tok
    have lt := cs.lt
    have cn : t.1 ≠ 11 := fun w => by
      obtain ⟨t1, R1, rfl⟩ := ms.ne (by omega)
      simp only [List.length_cons] at hr
      omega
    have mf := m_214f ms (w := 11) (by decide) cn
    refine ⟨true, Hc, Hm, ?_, ?_, FrC.rf, FrM.rf, (fun e => by cases e), fun _ => ⟨t, R, L, M, c, by omega, ⟨by omega, by omega⟩, S, p⟩⟩
    · by_cases ci : 200 ≤ i
      · simp (disch := omega) only [H_70_12, R_70_12, R_70_57, gd_t, bI_, bV_, bR_, and_self, and_true, true_and, ↓reduceIte, eq_self, oj_84, bI_1, bI_0, L0, L1, L8, L11, L21, L60, L200, le_t, le_f, lt_t, lt_f, eq_t, eq_f, ncl, nI_add, nmul, nsub, ndiv, nrem, nrem', nrN]
      · simp (disch := omega) only [H_70_12, R_70_12, R_70_19, R_70_57, gd_t, bI_, bV_, bR_, and_self, and_true, true_and, ↓reduceIte, eq_self, oj_84, bI_1, bI_0, L0, L1, L8, L11, L21, L60, L200, le_t, le_f, lt_t, lt_f, eq_t, eq_f, ncl, nI_add, nmul, nsub, ndiv, nrem, nrem', nrN, q8]
    · simp (disch := omega) only [H_217_4, R_217_4, R_217_11, R_217_32, gd_t, bI_, bV_, bR_, and_self, and_true, true_and, ↓reduceIte, eq_self, oj_84, bI_1, bI_0, L0, L1, le_t, le_f, lt_t, lt_f, eq_t, eq_f, ncl, nI_add, nmul, nsub, ndiv, nrem, nrem', nrN, Wd11, mf]
  | succ r ih =>
    intro i fu fv t R L M c Hc Hm hr hf hv hi S p
    obtain ⟨fu, rfl⟩ : ∃ p, fu = p + 1 := ⟨fu - 1, by omega⟩
    obtain ⟨fv, rfl⟩ : ∃ p, fv = p + 1 := ⟨fv - 1, by omega⟩
    obtain ⟨cs, ms, s13, cc, cm, bc, bm⟩ := id S
    have q8 := cs.tok
    have lt := cs.lt
    by_cases cn : t.1 = 11
    · have h27 : t.1 ≠ 27 := by omega
      obtain ⟨t1, R1, rfl⟩ := ms.ne h27
      simp only [List.length_cons] at hr hi bc bm
      have mt := m_214t ms (w := 11) (by decide) cn
      obtain ⟨C1, gc1, cs1, fc1⟩ := c_adv cs h27
      obtain ⟨M1, gm1, ms1, fm1⟩ := m_nx ms h27
      obtain ⟨b, C2, M2, g1, g2, r1, r2, r3, r4⟩ := h1 N T t1 R1 (La ++ L) (Ma ++ M) C1 M1 ⟨cs1, ms1, by rw [fm1.2 13 (by decide) (by decide) (by decide) (by decide)]; exact s13, cc.a fc1, cm.a fm1, by omega, by omega⟩
      have g1 : a71 (nI o) C1 = some (bI b, C2) := g1
      cases b with
      | false =>
        obtain ⟨y1, y2⟩ := r3 rfl
        obtain ⟨fw, rfl⟩ : ∃ p, fv = p + 1 := ⟨fv - 1, by omega⟩
        have lw := m_layw (v := nI 20038) y2
        have ww := m_214w (v := wV 11) y2
        refine ⟨false, C2, M2, ?_, ?_, fc1.c.tr r1, fm1.m.tr r2, fun _ => ⟨y1, y2⟩, (fun e => by cases e)⟩
        · simp (disch := omega) only [H_70_12, R_70_12, R_70_19, R_70_28, R_70_32, R_70_37, R_70_40, gd_t, bI_, bV_, bR_, and_self, and_true, true_and, ↓reduceIte, eq_self, oj_84, bI_1, bI_0, L0, L1, L8, L11, L21, L60, L200, le_t, le_f, lt_t, lt_f, eq_t, eq_f, ncl, nI_add, nmul, nsub, ndiv, nrem, nrem', nrN, q8, cn, gc1, g1]
        · have lw' : S_222 20038 M2 = some (nI 0, M2) := lw
          simp (disch := omega) only [H_217_4, R_217_4, R_217_11, R_217_14, R_217_18, R_217_22, R_217_29, R_217_32, gd_t, bI_, bV_, bR_, and_self, and_true, true_and, ↓reduceIte, eq_self, oj_84, bI_1, bI_0, L0, L1, le_t, le_f, lt_t, lt_f, eq_t, eq_f, ncl, nI_add, nmul, nsub, ndiv, nrem, nrem', nrN, Wd11, mt, gm1, g2, lw', ww]
      | true =>
        obtain ⟨t2, R2, Lb, M1', c1, y1, y0, ⟨cs2, ms2, z13, cc2, cm2, bc2, bm2⟩, y3⟩ := r4 rfl
        simp only [List.length_append] at bc2 bm2 bc bm
        obtain ⟨C3, gc3, cc3, k1, k2⟩ := c_lay cc2 (by simp only [List.length_append]; omega) (show 11 < 20000 by decide)
        obtain ⟨M3, gm3, cm3, l1, l2⟩ := m_lay ms2.2.1 cm2 (by simp only [List.length_append]; omega) (show 20038 < 30000 by decide)
        have hl : (La ++ L ++ Lb ++ [11]) = La ++ (L ++ (Lb ++ [11])) := by rw [List.append_assoc, List.append_assoc]
        have hl2 : (Ma ++ M ++ M1' ++ [20038]) = Ma ++ (M ++ (M1' ++ [20038])) := by rw [List.append_assoc, List.append_assoc]
        rw [hl] at cc3
        rw [hl2] at cm3
        obtain ⟨b, C4, M4, x1, x2, x3, x4, x5, x6⟩ := ih (i + 1) fu fv t2 R2 (L ++ (Lb ++ [11])) (M ++ (M1' ++ [20038])) (fun f => c f && c1 f) C3 M3 (by omega) (by omega) (by omega) (by omega) ⟨cs2.l k1, ms2.l l1 l2, by rw [l2 13 (by decide)]; exact z13, cc3, cm3, by simp only [List.length_append, List.length_cons, List.length_nil]; omega, by simp only [List.length_append, List.length_cons, List.length_nil]; omega⟩ (psh_all p (y3.le (by omega)))
        refine ⟨b, C4, M4, ?_, ?_, ((fc1.c.tr r1).tr (FrC.l k1 k2)).tr x3, ((fm1.m.tr r2).tr (FrM.l l1 l2)).tr x4, x5, fun e => ?_⟩
        · simp (disch := omega) only [H_70_12, R_70_12, R_70_19, R_70_28, R_70_32, R_70_37, R_70_42, R_70_51, gd_t, bI_, bV_, bR_, and_self, and_true, true_and, ↓reduceIte, eq_self, oj_84, bI_1, bI_0, L0, L1, L8, L11, L21, L60, L200, le_t, le_f, lt_t, lt_f, eq_t, eq_f, ncl, nI_add, nmul, nsub, ndiv, nrem, nrem', nrN, q8, cn, gc1, g1, gc3]
          exact x1
        · have gm3' : S_222 20038 M2 = some (nI 0, M3) := gm3
          simp (disch := omega) only [H_217_4, R_217_4, R_217_11, R_217_14, R_217_18, R_217_22, R_217_29, gd_t, bI_, bV_, bR_, and_self, and_true, true_and, ↓reduceIte, eq_self, oj_84, bI_1, bI_0, L0, L1, le_t, le_f, lt_t, lt_f, eq_t, eq_f, ncl, nI_add, nmul, nsub, ndiv, nrem, nrem', nrN, Wd11, mt, gm1, g2, gm3']
          exact x2
        · obtain ⟨t', R', L', M', c', z1, z0, z2⟩ := x6 e
          simp only [List.length_append, List.length_cons, List.length_nil] at z0
          exact ⟨t', R', L', M', c', by simp only [List.length_cons]; omega, by simp only [List.length_cons]; omega, z2⟩
    · have mf := m_214f ms (w := 11) (by decide) cn
      refine ⟨true, Hc, Hm, ?_, ?_, FrC.rf, FrM.rf, (fun e => by cases e), fun _ => ⟨t, R, L, M, c, by omega, ⟨by omega, by omega⟩, S, p⟩⟩
      · by_cases ci : 200 ≤ i
        · simp (disch := omega) only [H_70_12, R_70_12, R_70_57, gd_t, bI_, bV_, bR_, and_self, and_true, true_and, ↓reduceIte, eq_self, oj_84, bI_1, bI_0, L0, L1, L8, L11, L21, L60, L200, le_t, le_f, lt_t, lt_f, eq_t, eq_f, ncl, nI_add, nmul, nsub, ndiv, nrem, nrem', nrN]
        · simp (disch := omega) only [H_70_12, R_70_12, R_70_19, R_70_57, gd_t, bI_, bV_, bR_, and_self, and_true, true_and, ↓reduceIte, eq_self, oj_84, bI_1, bI_0, L0, L1, L8, L11, L21, L60, L200, le_t, le_f, lt_t, lt_f, eq_t, eq_f, ncl, nI_add, nmul, nsub, ndiv, nrem, nrem', nrN, q8]
      · simp (disch := omega) only [H_217_4, R_217_4, R_217_11, R_217_32, gd_t, bI_, bV_, bR_, and_self, and_true, true_and, ↓reduceIte, eq_self, oj_84, bI_1, bI_0, L0, L1, le_t, le_f, lt_t, lt_f, eq_t, eq_f, ncl, nI_add, nmul, nsub, ndiv, nrem, nrem', nrN, Wd11, mf]
theorem all_ok {o : Nat} {a69 a70 a71 a72 : Int32 → Hp → Option (Int32 × Hp)} {b216 b217 b218 : Hp → Option (Int32 × Hp)} (h1 : PX o (2 * o + 2) (fun h => a71 (nI o) h) b218) : PX o (2 * o + 1) (fun h => R_70_0 a69 a70 a71 a72 (nI o) h) (fun h => R_217_0 b216 b217 b218 h) := by
  intro N T t R La Ma Hc Hm S
  have bc := S.2.2.2.2.2.1
  have q12 := S.2.1.2.1
  obtain ⟨b, C1, M1, g1, g2, r1, r2, r3, r4⟩ := h1 N T t R La Ma Hc Hm S
  have g1 : a71 (nI o) Hc = some (bI b, C1) := g1
  obtain ⟨fu, hfu⟩ : ∃ p, fuL = p + 1 := ⟨fuL - 1, by have := fuL_gt (n := 5) (by decide); omega⟩
  cases b with
  | false =>
    obtain ⟨y1, y2⟩ := r3 rfl
    have ww := m_214w (v := wV 11) y2
    have hlp : H_217_4 b216 b217 b218 fuL M1 = some (nI 0, M1) := by
      rw [hfu]
      simp (disch := omega) only [H_217_4, R_217_4, R_217_11, R_217_32, gd_t, bI_, bV_, bR_, and_self, and_true, true_and, ↓reduceIte, eq_self, oj_84, bI_1, bI_0, L0, L1, le_t, le_f, lt_t, lt_f, eq_t, eq_f, ncl, nI_add, nmul, nsub, ndiv, nrem, nrem', nrN, Wd11, ww]
    refine ⟨false, C1, M1, ?_, ?_, r1, r2, r3, (fun e => by cases e)⟩
    · simp (disch := omega) only [R_70_0, R_70_5, R_70_8, gd_t, bI_, bV_, bR_, and_self, and_true, true_and, ↓reduceIte, eq_self, oj_84, bI_1, bI_0, L0, L1, le_t, le_f, lt_t, lt_f, eq_t, eq_f, ncl, nI_add, nmul, nsub, ndiv, nrem, nrem', nrN, g1]
    · simp (disch := omega) only [R_217_0, gd_t, bI_, bV_, bR_, and_self, and_true, true_and, ↓reduceIte, eq_self, oj_84, bI_1, bI_0, L0, L1, le_t, le_f, lt_t, lt_f, eq_t, eq_f, ncl, nI_add, nmul, nsub, ndiv, nrem, nrem', nrN, q12, g2, hlp]
  | true =>
    obtain ⟨t1, R1, Lb, M1', c1, y1, y0, S1, y3⟩ := r4 rfl
    obtain ⟨b, C4, M4, x1, x2, x3, x4, x5, x6⟩ := all_loop (La := La) (Ma := Ma) (a69 := a69) (a70 := a70) (a71 := a71) (a72 := a72) (b216 := b216) (b217 := b217) (b218 := b218) h1 R1.length 0 fuL fuL t1 R1 Lb M1' c1 C1 M1 (by omega) (fuL_gt (by omega)) (fuL_gt (by omega)) (by omega) S1 (y3.le (by omega))
    refine ⟨b, C4, M4, ?_, ?_, r1.tr x3, r2.tr x4, x5, fun e => ?_⟩
    · simp (disch := omega) only [R_70_0, R_70_5, R_70_10, gd_t, bI_, bV_, bR_, and_self, and_true, true_and, ↓reduceIte, eq_self, oj_84, bI_1, bI_0, L0, L1, le_t, le_f, lt_t, lt_f, eq_t, eq_f, ncl, nI_add, nmul, nsub, ndiv, nrem, nrem', nrN, g1]
      exact x1
    · simp (disch := omega) only [R_217_0, gd_t, bI_, bV_, bR_, and_self, and_true, true_and, ↓reduceIte, eq_self, oj_84, bI_1, bI_0, L0, L1, le_t, le_f, lt_t, lt_f, eq_t, eq_f, ncl, nI_add, nmul, nsub, ndiv, nrem, nrem', nrN, q12, g2]
      exact x2
    · obtain ⟨t', R', L', M', c', z1, z0, z2⟩ := x6 e
      exact ⟨t', R', L', M', c', by omega, by omega, z2⟩
theorem psh_cond {k : Nat} {L M Lb M1 : List Nat} {c c1 : (Nat → Nat) → Bool} (q : Psh k L M c) (p : Psh (k + 1) Lb M1 c1) : Psh k (L ++ (Lb ++ [12])) (M ++ (M1 ++ [20124])) (fun f => c f || c1 f) := by
  obtain ⟨q1, q2, q3, q4⟩ := q
  obtain ⟨p1, p2, p3, p4⟩ := p
  have hc : ∀ f, (c f).toNat ≤ 1 := fun f => by cases c f <;> decide
  have hc1 : ∀ f, (c1 f).toNat ≤ 1 := fun f => by cases c1 f <;> decide
  refine ⟨fun f P r hP => ?_, fun f st r => ?_, fun e => q3 (List.append_eq_nil_iff.mp e).1, fun e => q4 (List.append_eq_nil_iff.mp e).1⟩
  · have := hc f
    rw [List.append_assoc, q1 f P _ hP, List.append_assoc, p1 f _ _ (by rw [Nat.pow_succ]; omega)]
    show evL f (12 :: r) _ = _
    rw [evL_o, ev_cond]
  · rw [List.append_assoc, q2, List.append_assoc, p2]
    show evM f (20124 :: r) _ = _
    rw [evM_c (by decide) (by decide) (Or.inr ⟨by decide, hc f, hc1 f⟩), dn_cond]
theorem cond_loop {N : Nat} {T : Nat → Nat} {o : Nat} {La Ma : List Nat} {a69 a70 a71 a72 : Int32 → Hp → Option (Int32 × Hp)} {b216 b217 b218 : Hp → Option (Int32 × Hp)} (h1 : PX o (2 * o + 1) (fun h => a70 (nI o) h) b217) : ∀ (r i fu fv : Nat) (t : Tok) (R : List Tok) (L M : List Nat) (c : (Nat → Nat) → Bool) (Hc Hm : Hp), R.length ≤ r → r < fu → r < fv → i + R.length ≤ 200 → St N T o t R (La ++ L) (Ma ++ M) Hc Hm → Psh (2 * o) L M c → ∃ b Hc' Hm', H_69_12 a69 a70 a71 a72 fu (nI o) (nI i) Hc = some (bI b, Hc') ∧ H_216_12 b216 b217 b218 fv Hm = some (nI 0, Hm') ∧ FrC Hc Hc' ∧ FrM Hm Hm' ∧ (b = false → Hc' 21 3 = Hm' 84 9 ∧ Hm' 84 12 = nI 1) ∧ (b = true → ∃ t' R' L' M' c', R'.length ≤ R.length ∧ (L'.length + R'.length ≤ L.length + R.length ∧ M'.length + R'.length ≤ M.length + R.length) ∧ St N T o t' R' (La ++ L') (Ma ++ M') Hc' Hm' ∧ Psh (2 * o) L' M' c') := by
  intro r
  induction r with
  | zero =>
    intro i fu fv t R L M c Hc Hm hr hf hv hi S p
    obtain ⟨fu, rfl⟩ : ∃ p, fu = p + 1 := ⟨fu - 1, by omega⟩
    obtain ⟨fv, rfl⟩ : ∃ p, fv = p + 1 := ⟨fv - 1, by omega⟩
    obtain ⟨cs, ms, -⟩ := id S
    have q8 := cs.tok
    have lt := cs.lt
    have cn : t.1 ≠ 12 := fun w => by
      obtain ⟨t1, R1, rfl⟩ := ms.ne (by omega)
      simp only [List.length_cons] at hr
      omega
    have mf := m_214f ms (w := 12) (by decide) cn
    refine ⟨true, Hc, Hm, ?_, ?_, FrC.rf, FrM.rf, (fun e => by cases e), fun _ => ⟨t, R, L, M, c, by omega, ⟨by omega, by omega⟩, S, p⟩⟩
    · by_cases ci : 200 ≤ i
      · simp (disch := omega) only [H_69_12, R_69_12, R_69_57, gd_t, bI_, bV_, bR_, and_self, and_true, true_and, ↓reduceIte, eq_self, oj_84, bI_1, bI_0, L0, L1, L8, L12, L21, L60, L200, le_t, le_f, lt_t, lt_f, eq_t, eq_f, ncl, nI_add, nmul, nsub, ndiv, nrem, nrem', nrN]
      · simp (disch := omega) only [H_69_12, R_69_12, R_69_19, R_69_57, gd_t, bI_, bV_, bR_, and_self, and_true, true_and, ↓reduceIte, eq_self, oj_84, bI_1, bI_0, L0, L1, L8, L12, L21, L60, L200, le_t, le_f, lt_t, lt_f, eq_t, eq_f, ncl, nI_add, nmul, nsub, ndiv, nrem, nrem', nrN, q8]
    · simp (disch := omega) only [H_216_12, R_216_12, R_216_19, R_216_40, gd_t, bI_, bV_, bR_, and_self, and_true, true_and, ↓reduceIte, eq_self, oj_84, bI_1, bI_0, L0, L1, le_t, le_f, lt_t, lt_f, eq_t, eq_f, ncl, nI_add, nmul, nsub, ndiv, nrem, nrem', nrN, Wd12, mf]
  | succ r ih =>
    intro i fu fv t R L M c Hc Hm hr hf hv hi S p
    obtain ⟨fu, rfl⟩ : ∃ p, fu = p + 1 := ⟨fu - 1, by omega⟩
    obtain ⟨fv, rfl⟩ : ∃ p, fv = p + 1 := ⟨fv - 1, by omega⟩
    obtain ⟨cs, ms, s13, cc, cm, bc, bm⟩ := id S
    have q8 := cs.tok
    have lt := cs.lt
    by_cases cn : t.1 = 12
    · have h27 : t.1 ≠ 27 := by omega
      obtain ⟨t1, R1, rfl⟩ := ms.ne h27
      simp only [List.length_cons] at hr hi bc bm
      have mt := m_214t ms (w := 12) (by decide) cn
      obtain ⟨C1, gc1, cs1, fc1⟩ := c_adv cs h27
      obtain ⟨M1, gm1, ms1, fm1⟩ := m_nx ms h27
      obtain ⟨b, C2, M2, g1, g2, r1, r2, r3, r4⟩ := h1 N T t1 R1 (La ++ L) (Ma ++ M) C1 M1 ⟨cs1, ms1, by rw [fm1.2 13 (by decide) (by decide) (by decide) (by decide)]; exact s13, cc.a fc1, cm.a fm1, by omega, by omega⟩
      have g1 : a70 (nI o) C1 = some (bI b, C2) := g1
      cases b with
      | false =>
        obtain ⟨y1, y2⟩ := r3 rfl
        obtain ⟨fw, rfl⟩ : ∃ p, fv = p + 1 := ⟨fv - 1, by omega⟩
        have lw := m_layw (v := nI 20124) y2
        have ww := m_214w (v := wV 12) y2
        refine ⟨false, C2, M2, ?_, ?_, fc1.c.tr r1, fm1.m.tr r2, fun _ => ⟨y1, y2⟩, (fun e => by cases e)⟩
        · simp (disch := omega) only [H_69_12, R_69_12, R_69_19, R_69_28, R_69_32, R_69_37, R_69_40, gd_t, bI_, bV_, bR_, and_self, and_true, true_and, ↓reduceIte, eq_self, oj_84, bI_1, bI_0, L0, L1, L8, L12, L21, L60, L200, le_t, le_f, lt_t, lt_f, eq_t, eq_f, ncl, nI_add, nmul, nsub, ndiv, nrem, nrem', nrN, q8, cn, gc1, g1]
        · have lw' : S_222 20124 M2 = some (nI 0, M2) := lw
          simp (disch := omega) only [H_216_12, R_216_12, R_216_19, R_216_22, R_216_26, R_216_30, R_216_37, R_216_40, gd_t, bI_, bV_, bR_, and_self, and_true, true_and, ↓reduceIte, eq_self, oj_84, bI_1, bI_0, L0, L1, le_t, le_f, lt_t, lt_f, eq_t, eq_f, ncl, nI_add, nmul, nsub, ndiv, nrem, nrem', nrN, Wd12, mt, gm1, g2, lw', ww]
      | true =>
        obtain ⟨t2, R2, Lb, M1', c1, y1, y0, ⟨cs2, ms2, z13, cc2, cm2, bc2, bm2⟩, y3⟩ := r4 rfl
        simp only [List.length_append] at bc2 bm2 bc bm
        obtain ⟨C3, gc3, cc3, k1, k2⟩ := c_lay cc2 (by simp only [List.length_append]; omega) (show 12 < 20000 by decide)
        obtain ⟨M3, gm3, cm3, l1, l2⟩ := m_lay ms2.2.1 cm2 (by simp only [List.length_append]; omega) (show 20124 < 30000 by decide)
        have hl : (La ++ L ++ Lb ++ [12]) = La ++ (L ++ (Lb ++ [12])) := by rw [List.append_assoc, List.append_assoc]
        have hl2 : (Ma ++ M ++ M1' ++ [20124]) = Ma ++ (M ++ (M1' ++ [20124])) := by rw [List.append_assoc, List.append_assoc]
        rw [hl] at cc3
        rw [hl2] at cm3
        obtain ⟨b, C4, M4, x1, x2, x3, x4, x5, x6⟩ := ih (i + 1) fu fv t2 R2 (L ++ (Lb ++ [12])) (M ++ (M1' ++ [20124])) (fun f => c f || c1 f) C3 M3 (by omega) (by omega) (by omega) (by omega) ⟨cs2.l k1, ms2.l l1 l2, by rw [l2 13 (by decide)]; exact z13, cc3, cm3, by simp only [List.length_append, List.length_cons, List.length_nil]; omega, by simp only [List.length_append, List.length_cons, List.length_nil]; omega⟩ (psh_cond p (y3.le (by omega)))
        refine ⟨b, C4, M4, ?_, ?_, ((fc1.c.tr r1).tr (FrC.l k1 k2)).tr x3, ((fm1.m.tr r2).tr (FrM.l l1 l2)).tr x4, x5, fun e => ?_⟩
        · simp (disch := omega) only [H_69_12, R_69_12, R_69_19, R_69_28, R_69_32, R_69_37, R_69_42, R_69_51, gd_t, bI_, bV_, bR_, and_self, and_true, true_and, ↓reduceIte, eq_self, oj_84, bI_1, bI_0, L0, L1, L8, L12, L21, L60, L200, le_t, le_f, lt_t, lt_f, eq_t, eq_f, ncl, nI_add, nmul, nsub, ndiv, nrem, nrem', nrN, q8, cn, gc1, g1, gc3]
          exact x1
        · have gm3' : S_222 20124 M2 = some (nI 0, M3) := gm3
          simp (disch := omega) only [H_216_12, R_216_12, R_216_19, R_216_22, R_216_26, R_216_30, R_216_37, gd_t, bI_, bV_, bR_, and_self, and_true, true_and, ↓reduceIte, eq_self, oj_84, bI_1, bI_0, L0, L1, le_t, le_f, lt_t, lt_f, eq_t, eq_f, ncl, nI_add, nmul, nsub, ndiv, nrem, nrem', nrN, Wd12, mt, gm1, g2, gm3']
          exact x2
        · obtain ⟨t', R', L', M', c', z1, z0, z2⟩ := x6 e
          simp only [List.length_append, List.length_cons, List.length_nil] at z0
          exact ⟨t', R', L', M', c', by simp only [List.length_cons]; omega, by simp only [List.length_cons]; omega, z2⟩
    · have mf := m_214f ms (w := 12) (by decide) cn
      refine ⟨true, Hc, Hm, ?_, ?_, FrC.rf, FrM.rf, (fun e => by cases e), fun _ => ⟨t, R, L, M, c, by omega, ⟨by omega, by omega⟩, S, p⟩⟩
      · by_cases ci : 200 ≤ i
        · simp (disch := omega) only [H_69_12, R_69_12, R_69_57, gd_t, bI_, bV_, bR_, and_self, and_true, true_and, ↓reduceIte, eq_self, oj_84, bI_1, bI_0, L0, L1, L8, L12, L21, L60, L200, le_t, le_f, lt_t, lt_f, eq_t, eq_f, ncl, nI_add, nmul, nsub, ndiv, nrem, nrem', nrN]
        · simp (disch := omega) only [H_69_12, R_69_12, R_69_19, R_69_57, gd_t, bI_, bV_, bR_, and_self, and_true, true_and, ↓reduceIte, eq_self, oj_84, bI_1, bI_0, L0, L1, L8, L12, L21, L60, L200, le_t, le_f, lt_t, lt_f, eq_t, eq_f, ncl, nI_add, nmul, nsub, ndiv, nrem, nrem', nrN, q8]
      · simp (disch := omega) only [H_216_12, R_216_12, R_216_19, R_216_40, gd_t, bI_, bV_, bR_, and_self, and_true, true_and, ↓reduceIte, eq_self, oj_84, bI_1, bI_0, L0, L1, le_t, le_f, lt_t, lt_f, eq_t, eq_f, ncl, nI_add, nmul, nsub, ndiv, nrem, nrem', nrN, Wd12, mf]
theorem cond_ok {o : Nat} {a69 a70 a71 a72 : Int32 → Hp → Option (Int32 × Hp)} {b216 b217 b218 : Hp → Option (Int32 × Hp)} (h1 : PX o (2 * o + 1) (fun h => a70 (nI o) h) b217) : PX o (2 * o) (fun h => R_69_0 a69 a70 a71 a72 (nI o) h) (fun h => R_216_0 b216 b217 b218 h) := by
  intro N T t R La Ma Hc Hm S
  have bc := S.2.2.2.2.2.1
  have q12 := S.2.1.2.1
  obtain ⟨b, C1, M1, g1, g2, r1, r2, r3, r4⟩ := h1 N T t R La Ma Hc Hm S
  have g1 : a70 (nI o) Hc = some (bI b, C1) := g1
  obtain ⟨fu, hfu⟩ : ∃ p, fuL = p + 1 := ⟨fuL - 1, by have := fuL_gt (n := 5) (by decide); omega⟩
  cases b with
  | false =>
    obtain ⟨y1, y2⟩ := r3 rfl
    have ww := m_214w (v := wV 12) y2
    have hlp : H_216_12 b216 b217 b218 fuL M1 = some (nI 0, M1) := by
      rw [hfu]
      simp (disch := omega) only [H_216_12, R_216_12, R_216_19, R_216_40, gd_t, bI_, bV_, bR_, and_self, and_true, true_and, ↓reduceIte, eq_self, oj_84, bI_1, bI_0, L0, L1, le_t, le_f, lt_t, lt_f, eq_t, eq_f, ncl, nI_add, nmul, nsub, ndiv, nrem, nrem', nrN, Wd12, ww]
    refine ⟨false, C1, M1, ?_, ?_, r1, r2, r3, (fun e => by cases e)⟩
    · simp (disch := omega) only [R_69_0, R_69_5, R_69_8, gd_t, bI_, bV_, bR_, and_self, and_true, true_and, ↓reduceIte, eq_self, oj_84, bI_1, bI_0, L0, L1, le_t, le_f, lt_t, lt_f, eq_t, eq_f, ncl, nI_add, nmul, nsub, ndiv, nrem, nrem', nrN, g1]
    · simp (disch := omega) only [R_216_0, R_216_8, gd_t, bI_, bV_, bR_, and_self, and_true, true_and, ↓reduceIte, eq_self, oj_84, bI_1, bI_0, L0, L1, le_t, le_f, lt_t, lt_f, eq_t, eq_f, ncl, nI_add, nmul, nsub, ndiv, nrem, nrem', nrN, q12, g2, hlp]
  | true =>
    obtain ⟨t1, R1, Lb, M1', c1, y1, y0, S1, y3⟩ := r4 rfl
    obtain ⟨b, C4, M4, x1, x2, x3, x4, x5, x6⟩ := cond_loop (La := La) (Ma := Ma) (a69 := a69) (a70 := a70) (a71 := a71) (a72 := a72) (b216 := b216) (b217 := b217) (b218 := b218) h1 R1.length 0 fuL fuL t1 R1 Lb M1' c1 C1 M1 (by omega) (fuL_gt (by omega)) (fuL_gt (by omega)) (by omega) S1 (y3.le (by omega))
    refine ⟨b, C4, M4, ?_, ?_, r1.tr x3, r2.tr x4, x5, fun e => ?_⟩
    · simp (disch := omega) only [R_69_0, R_69_5, R_69_10, gd_t, bI_, bV_, bR_, and_self, and_true, true_and, ↓reduceIte, eq_self, oj_84, bI_1, bI_0, L0, L1, le_t, le_f, lt_t, lt_f, eq_t, eq_f, ncl, nI_add, nmul, nsub, ndiv, nrem, nrem', nrN, g1]
      exact x1
    · simp (disch := omega) only [R_216_0, R_216_8, gd_t, bI_, bV_, bR_, and_self, and_true, true_and, ↓reduceIte, eq_self, oj_84, bI_1, bI_0, L0, L1, le_t, le_f, lt_t, lt_f, eq_t, eq_f, ncl, nI_add, nmul, nsub, ndiv, nrem, nrem', nrN, q12, g2]
      exact x2
    · obtain ⟨t', R', L', M', c', z1, z0, z2⟩ := x6 e
      exact ⟨t', R', L', M', c', by omega, by omega, z2⟩
theorem both_w {b216 b217 b218 : Hp → Option (Int32 × Hp)} (h : PWr b218) : PWr (fun h => R_217_0 b216 b217 b218 h) := by
  intro H q
  obtain ⟨fu, hfu⟩ : ∃ p, fuL = p + 1 := ⟨fuL - 1, by have := fuL_gt (n := 5) (by decide); omega⟩
  have ww := m_214w (v := wV 11) q
  have g := h H q
  have hlp : H_217_4 b216 b217 b218 fuL H = some (nI 0, H) := by
    rw [hfu]
    simp (disch := omega) only [H_217_4, R_217_4, R_217_11, R_217_32, gd_t, bI_, bV_, bR_, and_self, and_true, true_and, ↓reduceIte, eq_self, oj_84, bI_1, bI_0, L0, L1, le_t, le_f, lt_t, lt_f, eq_t, eq_f, ncl, nI_add, nmul, nsub, ndiv, nrem, nrem', nrN, Wd11, ww]
  show R_217_0 b216 b217 b218 H = _
  simp (disch := omega) only [R_217_0, gd_t, bI_, bV_, bR_, and_self, and_true, true_and, ↓reduceIte, eq_self, oj_84, bI_1, bI_0, L0, L1, le_t, le_f, lt_t, lt_f, eq_t, eq_f, ncl, nI_add, nmul, nsub, ndiv, nrem, nrem', nrN, g, hlp]
theorem either_w {b216 b217 b218 : Hp → Option (Int32 × Hp)} : PWr (fun h => R_216_0 b216 b217 b218 h) := by
  intro H q
  show R_216_0 b216 b217 b218 H = _
  simp (disch := omega) only [R_216_0, R_216_7, gd_t, bI_, bV_, bR_, and_self, and_true, true_and, ↓reduceIte, eq_self, oj_84, bI_1, bI_0, L0, L1, le_t, le_f, lt_t, lt_f, eq_t, eq_f, ncl, nI_add, nmul, nsub, ndiv, nrem, nrem', nrN, q]
/-- conditions, class and model side by side -/
theorem cond_PX : ∀ (d o m M : Nat), o + d = 3 → PX o (2 * o) (fun h => (SG_69 (m + 4 * d + 4)).1 (nI o) h) (fun h => (SG_216 (M + 3 * d + 4)).1 h) := by
  intro d
  induction d with
  | zero =>
    intro o m M ho
    have h1 := one_ok (o := o) (a69 := (SG_69 (m + 1)).1) (a70 := (SG_69 (m + 1)).2.1) (a71 := (SG_69 (m + 1)).2.2.1) (a72 := (SG_69 (m + 1)).2.2.2) (c69 := (SG_69 m).1) (c70 := (SG_69 m).2.1) (c71 := (SG_69 m).2.2.1) (c72 := (SG_69 m).2.2.2) (b216 := (SG_216 (M + 1)).1) (b217 := (SG_216 (M + 1)).2.1) (b218 := (SG_216 (M + 1)).2.2) (fun w => by omega) either_w (fun _ => rfl) (by omega)
    have h2 := all_ok (a69 := (SG_69 (m + 2)).1) (a70 := (SG_69 (m + 2)).2.1) (a71 := (SG_69 (m + 2)).2.2.1) (a72 := (SG_69 (m + 2)).2.2.2) (b216 := (SG_216 (M + 2)).1) (b217 := (SG_216 (M + 2)).2.1) (b218 := (SG_216 (M + 2)).2.2) h1
    exact cond_ok (a69 := (SG_69 (m + 3)).1) (a70 := (SG_69 (m + 3)).2.1) (a71 := (SG_69 (m + 3)).2.2.1) (a72 := (SG_69 (m + 3)).2.2.2) (b216 := (SG_216 (M + 3)).1) (b217 := (SG_216 (M + 3)).2.1) (b218 := (SG_216 (M + 3)).2.2) h2
  | succ d ih =>
    intro o m M ho
    have i1 := ih (o + 1) m M (by omega)
    have h1 := one_ok (o := o) (a69 := (SG_69 (m + 4 * d + 4 + 1)).1) (a70 := (SG_69 (m + 4 * d + 4 + 1)).2.1) (a71 := (SG_69 (m + 4 * d + 4 + 1)).2.2.1) (a72 := (SG_69 (m + 4 * d + 4 + 1)).2.2.2) (c69 := (SG_69 (m + 4 * d + 4)).1) (c70 := (SG_69 (m + 4 * d + 4)).2.1) (c71 := (SG_69 (m + 4 * d + 4)).2.2.1) (c72 := (SG_69 (m + 4 * d + 4)).2.2.2) (b216 := (SG_216 (M + 3 * d + 4)).1) (b217 := (SG_216 (M + 3 * d + 4)).2.1) (b218 := (SG_216 (M + 3 * d + 4)).2.2) (fun _ => i1) either_w (fun _ => rfl) (by omega)
    have h2 := all_ok (a69 := (SG_69 (m + 4 * d + 4 + 2)).1) (a70 := (SG_69 (m + 4 * d + 4 + 2)).2.1) (a71 := (SG_69 (m + 4 * d + 4 + 2)).2.2.1) (a72 := (SG_69 (m + 4 * d + 4 + 2)).2.2.2) (b216 := (SG_216 (M + 3 * d + 4 + 1)).1) (b217 := (SG_216 (M + 3 * d + 4 + 1)).2.1) (b218 := (SG_216 (M + 3 * d + 4 + 1)).2.2) h1
    have h3 := cond_ok (a69 := (SG_69 (m + 4 * d + 4 + 3)).1) (a70 := (SG_69 (m + 4 * d + 4 + 3)).2.1) (a71 := (SG_69 (m + 4 * d + 4 + 3)).2.2.1) (a72 := (SG_69 (m + 4 * d + 4 + 3)).2.2.2) (b216 := (SG_216 (M + 3 * d + 4 + 2)).1) (b217 := (SG_216 (M + 3 * d + 4 + 2)).2.1) (b218 := (SG_216 (M + 3 * d + 4 + 2)).2.2) h2
    have e1 : m + 4 * (d + 1) + 4 = m + 4 * d + 4 + 4 := by omega
    have e2 : M + 3 * (d + 1) + 4 = M + 3 * d + 4 + 3 := by omega
    rw [e1, e2]
    exact h3
theorem S69_PX : PX 0 0 (fun h => S_69 (nI 0) h) S_216 := cond_PX 3 0 44 47 rfl
