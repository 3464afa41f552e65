/-! part 91: acts; class and model go side by side -/
def AtC (hc : Hp) (k : Nat) (n a : Int32) (H : Hp) (c : Nat) (tr : Nat → Int32) (p : Bool) : Prop := (∀ x, x ≠ 61 → x ≠ 62 → H x = hc x) ∧ H 61 1 = nI c ∧ c ≤ 30 ∧ (∀ j, j < c → H 62 j = tr j) ∧ H 61 2 = bI p ∧ H 61 3 = nI k ∧ H 61 4 = n ∧ H 61 5 = a
def AtM (hm : Hp) (H : Hp) (c : Nat) (tr : Nat → Int32) (p : Bool) : Prop := (∀ x, x ≠ 84 → x ≠ 100 → H x = hm x) ∧ (∀ j, j ≠ 35 → j ≠ 37 → H 84 j = hm 84 j) ∧ H 84 35 = nI c ∧ (∀ j, j < c → H 100 j = tr j) ∧ H 84 37 = bI p
def Sim (hc hm : Hp) (k : Nat) (n a : Int32) (f g : Hp → Option (Int32 × Hp)) : Prop := ∀ Hc Hm c tr p, AtC hc k n a Hc c tr p → AtM hm Hm c tr p → ∃ u v Hc' Hm' c' tr' p', f Hc = some (u, Hc') ∧ g Hm = some (v, Hm') ∧ AtC hc k n a Hc' c' tr' p' ∧ AtM hm Hm' c' tr' p' ∧ (p' = false → u = v) ∧ (p = true → p' = true ∧ c' = c ∧ tr' = tr)
theorem Sim.eq {hc hm : Hp} {k : Nat} {n a : Int32} {f g f' g' : Hp → Option (Int32 × Hp)} (S : Sim hc hm k n a f g) (e1 : ∀ H c tr p, AtC hc k n a H c tr p → f' H = f H) (e2 : ∀ H c tr p, AtM hm H c tr p → g' H = g H) : Sim hc hm k n a f' g' := by
  intro Hc Hm c tr p hC hM
  obtain ⟨u, v, Hc', Hm', c', tr', p', g1, g2, r⟩ := S Hc Hm c tr p hC hM
  exact ⟨u, v, Hc', Hm', c', tr', p', by rw [e1 Hc c tr p hC]; exact g1, by rw [e2 Hm c tr p hM]; exact g2, r⟩
theorem Sim.map {hc hm : Hp} {k : Nat} {n a : Int32} {f g : Hp → Option (Int32 × Hp)} (S : Sim hc hm k n a f g) (φ : Int32 → Int32) : Sim hc hm k n a (fun H => bndI (f H) (fun u H' => some (φ u, H'))) (fun H => bndI (g H) (fun u H' => some (φ u, H'))) := by
  intro Hc Hm c tr p hC hM
  obtain ⟨u, v, Hc', Hm', c', tr', p', g1, g2, r1, r2, r3, r4⟩ := S Hc Hm c tr p hC hM
  refine ⟨φ u, φ v, Hc', Hm', c', tr', p', ?_, ?_, r1, r2, fun e => by rw [r3 e], r4⟩
  · show bndI (f Hc) _ = _
    rw [g1]; rfl
  · show bndI (g Hm) _ = _
    rw [g2]; rfl
theorem Sim.two {hc hm : Hp} {k : Nat} {n a : Int32} {f1 g1 f2 g2 : Hp → Option (Int32 × Hp)} (S1 : Sim hc hm k n a f1 g1) (S2 : Sim hc hm k n a f2 g2) (φ : Int32 → Int32 → Int32) : Sim hc hm k n a (fun H => bndI (f1 H) (fun u H' => bndI (f2 H') (fun v H'' => some (φ u v, H'')))) (fun H => bndI (g1 H) (fun u H' => bndI (g2 H') (fun v H'' => some (φ u v, H'')))) := by
  intro Hc Hm c tr p hC hM
  obtain ⟨u, v, Hc1, Hm1, c1, tr1, p1, e1, e2, r1, r2, r3, r4⟩ := S1 Hc Hm c tr p hC hM
  obtain ⟨u', v', Hc2, Hm2, c2, tr2, p2, e3, e4, t1, t2, t3, t4⟩ := S2 Hc1 Hm1 c1 tr1 p1 r1 r2
  refine ⟨φ u u', φ v v', Hc2, Hm2, c2, tr2, p2, ?_, ?_, t1, t2, fun e => ?_, fun e => ?_⟩
  · show bndI (f1 Hc) _ = _
    rw [e1, bI_, e3, bI_]
  · show bndI (g1 Hm) _ = _
    rw [e2, bI_, e4, bI_]
  · have : p1 = false := by
      cases h : p1 with
      | false => rfl
      | true => have := (t4 h).1; rw [this] at e; cases e
    rw [r3 this, t3 e]
  · obtain ⟨x1, x2, x3⟩ := r4 e
    obtain ⟨y1, y2, y3⟩ := t4 x1
    exact ⟨y1, y2.trans x2, y3.trans x3⟩
theorem Sim.pure {hc hm : Hp} {k : Nat} {n a : Int32} (u : Int32) : Sim hc hm k n a (fun H => some (u, H)) (fun H => some (u, H)) := fun Hc Hm c tr p hC hM => ⟨u, u, Hc, Hm, c, tr, p, rfl, rfl, hC, hM, fun _ => rfl, fun e => ⟨e, rfl, rfl⟩⟩
def puT (tr : Nat → Int32) (c : Nat) (b : Int32) : Nat → Int32 := fun j => if j = c then b else tr j
theorem puT_s {tr : Nat → Int32} {c : Nat} {b : Int32} : puT tr c b c = b := if_pos rfl
theorem puT_k {tr : Nat → Int32} {c j : Nat} {b : Int32} (h : ¬ j = c) : puT tr c b j = tr j := if_neg h
/-- a body begins -/
theorem Sim.body {hc hm : Hp} {k : Nat} {n a x : Int32} {b d m : Nat} {g G : Hp → Option (Int32 × Hp)} (hb : b < 100) (hd : d ≤ 20) (eg : ∀ H, g H = bndV (S_287 (nI b) H) G) (S : Sim hc hm k n a (fun H => R_167_41 (SG_166 m).1 (SG_166 m).2 (nI b) x (nI d) H) G) : Sim hc hm k n a (fun H => (SG_166 (m + 1)).2 (nI b) x (nI d) H) g := by
  intro Hc Hm c tr p hC hM
  obtain ⟨c1, c2, c3, c4, c5, c6, c7, c8⟩ := id hC
  obtain ⟨m1, m2, m3, m4, m5⟩ := id hM
  have u0 : ∀ H, (SG_166 (m + 1)).2 (nI b) x (nI d) H = R_167_0 (SG_166 m).1 (SG_166 m).2 (nI b) x (nI d) H := fun _ => rfl
  cases p with
  | true =>
    obtain ⟨u, v, Hc', Hm', c', tr', p', g1, g2, r1, r2, r3, r4⟩ := S Hc Hm c tr true hC hM
    obtain ⟨x1, x2, x3⟩ := r4 rfl
    subst x1 x2 x3
    have e287 : S_287 (nI b) Hm = some (0, Hm) := by
      by_cases c30 : 30 ≤ c'
      · simp (disch := omega) only [R_287_36, R_287_16, R_287_9, R_287_0, S_287, gd_t, bI_, bV_, bR_, and_self, and_true, true_and, ↓reduceIte, eq_self, oj_84, bI_1, bI_0, L0, L1, L30, L35, L37, L84, L100, le_t, le_f, lt_t, lt_f, eq_t, eq_f, ncl, nI_add, nmul, nsub, ndiv, nrem, nrem', nrN, m3]
      · simp (disch := omega) only [R_287_36, R_287_16, R_287_9, R_287_0, S_287, gd_t, bI_, bV_, bR_, and_self, and_true, true_and, ↓reduceIte, eq_self, oj_84, bI_1, bI_0, L0, L1, L30, L35, L37, L84, L100, le_t, le_f, lt_t, lt_f, eq_t, eq_f, ncl, nI_add, nmul, nsub, ndiv, nrem, nrem', nrN, m3, m5]
    refine ⟨0, v, Hc, Hm', c', tr', true, ?_, ?_, hC, r2, (fun e => by cases e), fun _ => ⟨rfl, rfl, rfl⟩⟩
    · show (SG_166 (m + 1)).2 (nI b) x (nI d) Hc = _
      rw [u0]
      simp (disch := omega) only [R_167_0, R_167_13, gd_t, bI_, bV_, bR_, and_self, and_true, true_and, ↓reduceIte, eq_self, oj_84, bI_1, bI_0, L0, L1, le_t, le_f, lt_t, lt_f, eq_t, eq_f, ncl, nI_add, nmul, nsub, ndiv, nrem, nrem', nrN, c5]
    · rw [eg, e287]
      exact g2
  | false =>
    have e1 : R_167_0 (SG_166 m).1 (SG_166 m).2 (nI b) x (nI d) Hc = R_167_15 (SG_166 m).1 (SG_166 m).2 (nI b) x (nI d) Hc := by
      simp (disch := omega) only [R_167_0, R_167_7, L20, gd_t, bI_, bV_, bR_, and_self, and_true, true_and, ↓reduceIte, eq_self, oj_84, bI_1, bI_0, L0, L1, le_t, le_f, lt_t, lt_f, eq_t, eq_f, ncl, nI_add, nmul, nsub, ndiv, nrem, nrem', nrN, c5]
    by_cases c30 : 30 ≤ c
    · have e287 : S_287 (nI b) Hm = some (0, Hm) := by simp (disch := omega) only [R_287_36, R_287_16, R_287_9, R_287_0, S_287, gd_t, bI_, bV_, bR_, and_self, and_true, true_and, ↓reduceIte, eq_self, oj_84, bI_1, bI_0, L0, L1, L30, L35, L37, L84, L100, le_t, le_f, lt_t, lt_f, eq_t, eq_f, ncl, nI_add, nmul, nsub, ndiv, nrem, nrem', nrN, m3]
      have e2 : R_167_15 (SG_166 m).1 (SG_166 m).2 (nI b) x (nI d) Hc = R_167_41 (SG_166 m).1 (SG_166 m).2 (nI b) x (nI d) Hc := by
        simp (disch := omega) only [R_167_15, L30, gd_t, bI_, bV_, bR_, and_self, and_true, true_and, ↓reduceIte, eq_self, oj_84, bI_1, bI_0, L0, L1, le_t, le_f, lt_t, lt_f, eq_t, eq_f, ncl, nI_add, nmul, nsub, ndiv, nrem, nrem', nrN, c2]
      obtain ⟨u, v, Hc', Hm', c', tr', p', g1, g2, r⟩ := S Hc Hm c tr false hC hM
      refine ⟨u, v, Hc', Hm', c', tr', p', ?_, ?_, r⟩
      · show (SG_166 (m + 1)).2 (nI b) x (nI d) Hc = _
        rw [u0, e1, e2]
        exact g1
      · rw [eg, e287]
        exact g2
    · have e287 : S_287 (nI b) Hm = some (0, wr (wr Hm 100 c (nI b)) 84 35 (nI (c + 1))) := by
        simp (disch := omega) only [R_287_36, R_287_16, R_287_9, R_287_0, S_287, gd_t, bI_, bV_, bR_, and_self, and_true, true_and, ↓reduceIte, eq_self, oj_84, bI_1, bI_0, L0, L1, L30, L35, L37, L84, L100, le_t, le_f, lt_t, lt_f, eq_t, eq_f, ncl, nI_add, nmul, nsub, ndiv, nrem, nrem', nrN, m3, m5, ia_100, wr_c]
      have i62 : IA 62 (nI c) = True := ia_62 (by omega)
      have e2 : R_167_15 (SG_166 m).1 (SG_166 m).2 (nI b) x (nI d) Hc = R_167_41 (SG_166 m).1 (SG_166 m).2 (nI b) x (nI d) (wr (wr Hc 61 1 (nI (c + 1))) 62 c (nI b)) := by
        have c30' : (nI 30 ≤ nI c) = False := le_f (by omega) (by omega)
        have s1 : R_167_15 (SG_166 m).1 (SG_166 m).2 (nI b) x (nI d) Hc = R_167_24 (SG_166 m).1 (SG_166 m).2 (nI b) x (nI d) Hc := by
          simp (disch := omega) only [R_167_15, L30, gd_t, bI_, bV_, bR_, and_self, and_true, true_and, ↓reduceIte, eq_self, oj_84, bI_1, bI_0, L0, L1, c2, c30']
        rw [s1]
        have s2 : R_167_24 (SG_166 m).1 (SG_166 m).2 (nI b) x (nI d) Hc = gd (IA 62 (Hc 61 1)) (R_167_41 (SG_166 m).1 (SG_166 m).2 (nI b) x (nI d) (wr (wr Hc 61 1 (Hc 61 1 + 1)) 62 (Int32.toNatClampNeg (Hc 61 1)) (nI b))) := rfl
        rw [s2, c2, L1, nI_add, ncl (by omega), i62, gd_t]
      obtain ⟨u, v, Hc', Hm', c', tr', p', g1, g2, r1, r2, r3, r4⟩ := S (wr (wr Hc 61 1 (nI (c + 1))) 62 c (nI b)) (wr (wr Hm 100 c (nI b)) 84 35 (nI (c + 1))) (c + 1) (puT tr c (nI b)) false ⟨fun y y1 y2 => by rw [wr_c y2, wr_c y1]; exact c1 y y1 y2, by rw [wr_c (by decide), wr_self], by omega, fun j hj => by
        by_cases ej : j = c
        · rw [ej, wr_self, puT_s]
        · rw [wr_k ej, wr_c (by decide), puT_k ej]; exact c4 j (by omega), by rw [wr_c (by decide), wr_k (by decide)]; exact c5, by rw [wr_c (by decide), wr_k (by decide)]; exact c6, by rw [wr_c (by decide), wr_k (by decide)]; exact c7, by rw [wr_c (by decide), wr_k (by decide)]; exact c8⟩ ⟨fun y y1 y2 => by rw [wr_c y1, wr_c y2]; exact m1 y y1 y2, fun j j1 j2 => by rw [wr_k j1, wr_c (by decide)]; exact m2 j j1 j2, wr_self, fun j hj => by
        by_cases ej : j = c
        · rw [wr_c (by decide), ej, wr_self, puT_s]
        · rw [wr_c (by decide), wr_k ej, puT_k ej]; exact m4 j (by omega), by rw [wr_k (by decide), wr_c (by decide)]; exact m5⟩
      refine ⟨u, v, Hc', Hm', c', tr', p', ?_, ?_, r1, r2, r3, (fun e => by cases e)⟩
      · show (SG_166 (m + 1)).2 (nI b) x (nI d) Hc = _
        rw [u0, e1, e2]
        exact g1
      · rw [eg, e287]
        exact g2
