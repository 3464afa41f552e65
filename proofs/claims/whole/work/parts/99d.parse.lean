/-! part 99d: reading side by side: states, single steps -/
abbrev Tok : Type := Nat × Nat × Nat
theorem wr_id {h : Hp} {a k : Nat} {x : Int32} (e : h a k = x) : wr h a k x = h := by
  funext c j
  by_cases q : c = a ∧ j = k
  · rw [q.1, q.2, wr_self, e]
  · unfold wr
    rw [if_neg q]
def CS (h : Hp) (t : Tok) (R : List Tok) : Prop := ∃ i, i + R.length ≤ 200 ∧ h 21 7 = nI i ∧ h 21 8 = nI t.1 ∧ ArC h i (t :: R)
def MS (N : Nat) (T : Nat → Nat) (h : Hp) (t : Tok) (R : List Tok) : Prop := TpM h N T ∧ h 84 12 = nI 0 ∧ ∃ e tok, h 84 8 = nI e ∧ e ≤ N ∧ h 84 9 = nI t.2.1 ∧ h 84 10 = nI tok ∧ MT tok (rdL (h 84)) t ∧ (t.1 ≠ 27 → Lx N T e R)
def CoC (h : Hp) (L : List Nat) : Prop := h 23 4 = nI L.length ∧ ∀ j v, L[j]? = some v → h 27 j = nI v ∧ v < 20000
def CoM (h : Hp) (L : List Nat) : Prop := h 84 15 = nI L.length ∧ ∀ j v, L[j]? = some v → h 90 j = nI v ∧ v < 30000
/-- class and model read on at the same token -/
def St (N : Nat) (T : Nat → Nat) (o : Nat) (t : Tok) (R : List Tok) (La Ma : List Nat) (Hc Hm : Hp) : Prop := CS Hc t R ∧ MS N T Hm t R ∧ Hm 84 13 = nI o ∧ CoC Hc La ∧ CoM Hm Ma ∧ La.length + R.length ≤ 200 ∧ Ma.length + R.length ≤ 200
def FrC (h h' : Hp) : Prop := (∀ c, c ≠ 21 → c ≠ 23 → c ≠ 27 → h' c = h c) ∧ (∀ j, j ≠ 3 → j ≠ 7 → j ≠ 8 → h' 21 j = h 21 j) ∧ ∀ j, j ≠ 4 → h' 23 j = h 23 j
def FrM (h h' : Hp) : Prop := (∀ c, c ≠ 84 → c ≠ 90 → h' c = h c) ∧ ∀ j, (j < 8 ∨ (15 < j ∧ j < 100)) → h' 84 j = h 84 j
theorem FrC.rf {h : Hp} : FrC h h := ⟨fun _ _ _ _ => rfl, fun _ _ _ _ => rfl, fun _ _ => rfl⟩
theorem FrM.rf {h : Hp} : FrM h h := ⟨fun _ _ _ => rfl, fun _ _ => rfl⟩
theorem FrC.tr {h h1 h2 : Hp} (a : FrC h h1) (b : FrC h1 h2) : FrC h h2 := ⟨fun c e e2 e3 => (b.1 c e e2 e3).trans (a.1 c e e2 e3), fun j e e2 e3 => (b.2.1 j e e2 e3).trans (a.2.1 j e e2 e3), fun j e => (b.2.2 j e).trans (a.2.2 j e)⟩
theorem FrM.tr {h h1 h2 : Hp} (a : FrM h h1) (b : FrM h1 h2) : FrM h h2 := ⟨fun c e e2 => (b.1 c e e2).trans (a.1 c e e2), fun j e => (b.2 j e).trans (a.2 j e)⟩
theorem Fr9.m {h h' : Hp} (a : Fr9 h h') : FrM h h' := ⟨fun c e _ => a.1 c e, fun j e => a.2 j (by omega) (by omega) (by omega) (by omega)⟩
/-- the class advances -/
def FrA (h h' : Hp) : Prop := (∀ c, c ≠ 21 → h' c = h c) ∧ ∀ j, j ≠ 7 → j ≠ 8 → h' 21 j = h 21 j
theorem FrA.c {h h' : Hp} (a : FrA h h') : FrC h h' := ⟨fun c e _ _ => a.1 c e, fun j _ e2 e3 => a.2 j e2 e3, fun j _ => by rw [a.1 23 (by decide)]⟩
theorem CoC.a {h h' : Hp} {L : List Nat} (q : CoC h L) (a : FrA h h') : CoC h' L := by
  unfold CoC
  rw [a.1 23 (by decide), a.1 27 (by decide)]
  exact q
theorem CoM.a {h h' : Hp} {L : List Nat} (q : CoM h L) (a : Fr9 h h') : CoM h' L := by
  unfold CoM
  rw [a.2 15 (by decide) (by decide) (by decide) (by decide), a.1 90 (by decide)]
  exact q
theorem ArC.tl {h : Hp} {i : Nat} {t : Tok} {R : List Tok} (q : ArC h i (t :: R)) : ArC h (i + 1) R := fun j u hu => by
  have := q (j + 1) u (by simpa using hu)
  rwa [show i + (j + 1) = i + 1 + j by omega] at this
theorem ArC.c {h h' : Hp} {i : Nat} {R : List Tok} (q : ArC h i R) (a : h' 28 = h 28) (b : h' 29 = h 29) (c : h' 30 = h 30) : ArC h' i R := by
  unfold ArC
  rw [a, b, c]
  exact q
theorem CS.lt {h : Hp} {t : Tok} {R : List Tok} (q : CS h t R) : t.1 < 29 := by
  obtain ⟨i, -, -, -, q4⟩ := q
  exact (q4 0 t rfl).1
theorem CS.c {h h' : Hp} {t : Tok} {R : List Tok} (q : CS h t R) (a : ∀ c, c = 28 ∨ c = 29 ∨ c = 30 → h' c = h c) (b : h' 21 7 = h 21 7) (c : h' 21 8 = h 21 8) : CS h' t R := by
  obtain ⟨i, q1, q2, q3, q4⟩ := q
  exact ⟨i, q1, by rw [b]; exact q2, by rw [c]; exact q3, q4.c (a 28 (by decide)) (a 29 (by decide)) (a 30 (by decide))⟩
theorem CS.tok {h : Hp} {t : Tok} {R : List Tok} (q : CS h t R) : h 21 8 = nI t.1 := by
  obtain ⟨i, -, -, q3, -⟩ := q
  exact q3
theorem c_adv {h : Hp} {t t' : Tok} {R : List Tok} (q : CS h t (t' :: R)) (h27 : t.1 ≠ 27) : ∃ h', S_68 h = some (nI 0, h') ∧ CS h' t' R ∧ FrA h h' := by
  have lt := q.lt
  obtain ⟨i, q1, q2, q3, q4⟩ := q
  simp only [List.length_cons] at q1
  have q5 := q4.tl
  obtain ⟨u1, u2, u3, u4⟩ := q5 0 t' rfl
  rw [Nat.add_zero] at u2 u3 u4
  have i28 : IA 28 (nI (i + 1)) = True := ia_28 (by omega)
  have fa : FrA h (wr (wr h 21 7 (nI (i + 1))) 21 8 (nI t'.1)) := ⟨fun c e => by rw [wr_c e, wr_c e], fun j e e2 => by rw [wr_k e2, wr_k e]⟩
  have e1 : wr h 21 7 (nI (i + 1)) 21 7 = nI (i + 1) := wr_self
  have e2 : wr h 21 7 (nI (i + 1)) 28 (i + 1) = nI t'.1 := by rw [wr_c (by decide)]; exact u2
  have n27 : (nI t.1 = nI 27) = False := eq_f h27 (by omega) (by decide)
  refine ⟨_, ?_, ⟨i + 1, by omega, by rw [wr_k (by decide), wr_self], wr_self, q5.c (fa.1 28 (by decide)) (fa.1 29 (by decide)) (fa.1 30 (by decide))⟩, fa⟩
  simp (disch := omega) only [R_68_29, R_68_19, R_68_10, R_68_0, S_68, gd_t, bI_, bV_, bR_, and_self, and_true, true_and, ↓reduceIte, eq_self, oj_84, bI_1, bI_0, L0, L1, L7, L8, L21, L27, L28, L200, le_t, le_f, lt_t, lt_f, eq_t, eq_f, ncl, nI_add, nmul, nsub, ndiv, nrem, nrem', nrN, q2, q3, n27, i28, e1, e2]
theorem c_ref {h : Hp} {t : Tok} {R : List Tok} (q : CS h t R) : S_67 h = some (nI 0, wr h 21 3 (nI t.2.1)) := by
  obtain ⟨i, q1, q2, q3, q4⟩ := q
  obtain ⟨-, -, u3, -⟩ := q4 0 t rfl
  rw [Nat.add_zero] at u3
  have i29 : IA 29 (nI i) = True := ia_29 (by omega)
  simp (disch := omega) only [R_67_0, S_67, gd_t, bI_, bV_, bR_, and_self, and_true, true_and, ↓reduceIte, eq_self, oj_84, bI_1, bI_0, L0, L1, L3, L7, L21, L29, le_t, le_f, lt_t, lt_f, eq_t, eq_f, ncl, nI_add, nmul, nsub, ndiv, nrem, nrem', nrN, q2, i29, u3]
theorem FrC.ref {h : Hp} {x : Int32} : FrC h (wr h 21 3 x) := ⟨fun c e _ _ => by rw [wr_c e], fun j e _ _ => by rw [wr_k e], fun j _ => by rw [wr_c (by decide)]⟩
/-- a step more -/
theorem c_lay {h : Hp} {L : List Nat} {v : Nat} (q : CoC h L) (hl : L.length < 200) (hv : v < 20000) : ∃ h', S_76 (nI v) h = some (nI 0, h') ∧ CoC h' (L ++ [v]) ∧ (∀ c, c ≠ 23 → c ≠ 27 → h' c = h c) ∧ ∀ j, j ≠ 4 → h' 23 j = h 23 j := by
  obtain ⟨q1, q2⟩ := q
  have i27 : IA 27 (nI L.length) = True := ia_27 (by omega)
  refine ⟨wr (wr h 23 4 (nI (L.length + 1))) 27 L.length (nI v), ?_, ⟨?_, fun j w hw => ?_⟩, fun c e e2 => by rw [wr_c e2, wr_c e], fun j e => by rw [wr_c (by decide), wr_k e]⟩
  · simp (disch := omega) only [R_76_27, R_76_10, R_76_0, S_76, gd_t, bI_, bV_, bR_, and_self, and_true, true_and, ↓reduceIte, eq_self, oj_84, bI_1, bI_0, L0, L1, L4, L23, L27, L200, le_t, le_f, lt_t, lt_f, eq_t, eq_f, ncl, nI_add, nmul, nsub, ndiv, nrem, nrem', nrN, q1, i27]
  · rw [wr_c (by decide), wr_self, List.length_append]
    rfl
  · by_cases c : j < L.length
    · rw [List.getElem?_append_left c] at hw
      rw [wr_k (by omega), wr_c (by decide)]
      exact q2 j w hw
    · rw [List.getElem?_append_right (by omega)] at hw
      by_cases c2 : j = L.length
      · subst c2
        rw [Nat.sub_self] at hw
        have : v = w := Option.some.inj hw
        subst this
        exact ⟨wr_self, hv⟩
      · exfalso
        obtain ⟨k, hk⟩ : ∃ k, j - L.length = k + 1 := ⟨j - L.length - 1, by omega⟩
        rw [hk] at hw
        cases hw
theorem CS.l {h h' : Hp} {t : Tok} {R : List Tok} (q : CS h t R) (a : ∀ c, c ≠ 23 → c ≠ 27 → h' c = h c) : CS h' t R := q.c (fun c hc => a c (by omega) (by omega)) (by rw [a 21 (by decide) (by decide)]) (by rw [a 21 (by decide) (by decide)])
theorem MS.ne {N : Nat} {T : Nat → Nat} {h : Hp} {t : Tok} {R : List Tok} (q : MS N T h t R) (h27 : t.1 ≠ 27) : ∃ t' R', R = t' :: R' := by
  obtain ⟨-, -, e, tok, -, -, -, -, -, q6⟩ := q
  have := q6 h27
  cases R with
  | nil => exact absurd this (fun w => w)
  | cons t' R' => exact ⟨t', R', rfl⟩
theorem MS.c {N : Nat} {T : Nat → Nat} {h h' : Hp} {t : Tok} {R : List Tok} (q : MS N T h t R) (a : h' 89 = h 89) (b : ∀ j, j ≠ 13 → j ≠ 15 → h' 84 j = h 84 j) : MS N T h' t R := by
  obtain ⟨q1, q2, e, tok, q3, q4, q5, q6, q7, q8⟩ := q
  have er : rdL (h' 84) = rdL (h 84) := by
    unfold rdL
    rw [b 100 (by decide) (by decide), b 101 (by decide) (by decide)]
  exact ⟨q1.c (b 7 (by decide) (by decide)) a, by rw [b 12 (by decide) (by decide)]; exact q2, e, tok, by rw [b 8 (by decide) (by decide)]; exact q3, q4, by rw [b 9 (by decide) (by decide)]; exact q5, by rw [b 10 (by decide) (by decide)]; exact q6, by rw [er]; exact q7, q8⟩
theorem m_nx {N : Nat} {T : Nat → Nat} {h : Hp} {t t' : Tok} {R : List Tok} (q : MS N T h t (t' :: R)) (h27 : t.1 ≠ 27) : ∃ h', S_210 h = some (nI 0, h') ∧ MS N T h' t' R ∧ Fr9 h h' := by
  obtain ⟨q1, q2, e, tok, q3, q4, q5, q6, q7, q8⟩ := q
  have n200 := q1.1
  obtain ⟨h', e', tok', g, f, g1, g2, g3, g4, g5, g6⟩ := s_210 (N - e) e fuL h (by omega) (fuL_gt (by omega)) q1 q3 (q8 h27)
  exact ⟨h', g, ⟨q1.c (f.2 7 (by decide) (by decide) (by decide) (by decide)) (f.1 89 (by decide)), by rw [f.2 12 (by decide) (by decide) (by decide) (by decide)]; exact q2, e', tok', g1, g2, g3, g4, g5, g6⟩, f⟩
theorem m_go1 {N : Nat} {T : Nat → Nat} {h : Hp} {t t' : Tok} {R : List Tok} (q : MS N T h t (t' :: R)) (h27 : t.1 ≠ 27) : ∃ h', S_215 (nI 1) h = some (nI 0, h') ∧ MS N T h' t' R ∧ Fr9 h h' := by
  have q2 := q.2.1
  obtain ⟨h', g, a, b⟩ := m_nx q h27
  refine ⟨h', ?_, a, b⟩
  simp (disch := omega) only [S_215, R_215_0, R_215_8, R_215_16, R_215_27, R_215_31, gd_t, bI_, bV_, bR_, and_self, and_true, true_and, ↓reduceIte, eq_self, oj_84, bI_1, bI_0, L0, L1, le_t, le_f, lt_t, lt_f, eq_t, eq_f, ncl, nI_add, nmul, nsub, ndiv, nrem, nrem', nrN, q2, wr_id q2, g]
theorem m_go0 {h : Hp} (q : h 84 12 = nI 0) : S_215 (nI 0) h = some (nI 0, wr h 84 12 (nI 1)) := by
  simp (disch := omega) only [S_215, R_215_0, R_215_8, R_215_12, R_215_31, gd_t, bI_, bV_, bR_, and_self, and_true, true_and, ↓reduceIte, eq_self, oj_84, bI_1, bI_0, L0, L1, le_t, le_f, lt_t, lt_f, eq_t, eq_f, ncl, nI_add, nmul, nsub, ndiv, nrem, nrem', nrN, q, wr_self]
theorem m_gow {h : Hp} {x : Int32} (q : h 84 12 = nI 1) : S_215 x h = some (nI 0, h) := by
  simp (disch := omega) only [S_215, R_215_0, R_215_12, R_215_31, gd_t, bI_, bV_, bR_, and_self, and_true, true_and, ↓reduceIte, eq_self, oj_84, bI_1, bI_0, L0, L1, le_t, le_f, lt_t, lt_f, eq_t, eq_f, ncl, nI_add, nmul, nsub, ndiv, nrem, nrem', nrN, q, wr_id q]
theorem m_214 {N : Nat} {T : Nat → Nat} {h : Hp} {t : Tok} {R : List Tok} (q : MS N T h t R) {w : Nat} (hw : w < 18) : S_214 (wV w) h = some (bI (decide (t.1 = w)), h) := by
  obtain ⟨q1, q2, e, tok, q3, q4, q5, q6, q7, q8⟩ := q
  have k := q7.2.2.1 w hw
  have t3 := q7.1
  by_cases c : t.1 = w
  · obtain ⟨c1, c2⟩ := k.mpr c
    subst c1
    have e : (lg_cmp (rdL (h 84)) (wV w) = nI 0) = True := eq_true ((lg_cmp_eq _ _).mpr c2)
    rw [decide_eq_true c]
    simp (disch := omega) only [R_214_28, R_214_24, R_214_17, R_214_8, R_214_0, S_214, gd_t, bI_, bV_, bR_, and_self, and_true, true_and, ↓reduceIte, eq_self, oj_84, bI_1, bI_0, L0, L1, L10, L12, L84, le_t, le_f, lt_t, lt_f, eq_t, eq_f, ncl, nI_add, nmul, nsub, ndiv, nrem, nrem', nrN, q6, q2, e]
  · rw [decide_eq_false c]
    by_cases c1 : tok = 1
    · have c2 : ¬ rdL (h 84) = wV w := fun z => c (k.mp ⟨c1, z⟩)
      have e : (lg_cmp (rdL (h 84)) (wV w) = nI 0) = False := eq_false (fun z => c2 ((lg_cmp_eq _ _).mp z))
      subst c1
      simp (disch := omega) only [R_214_28, R_214_24, R_214_17, R_214_8, R_214_0, S_214, gd_t, bI_, bV_, bR_, and_self, and_true, true_and, ↓reduceIte, eq_self, oj_84, bI_1, bI_0, L0, L1, L10, L12, L84, le_t, le_f, lt_t, lt_f, eq_t, eq_f, ncl, nI_add, nmul, nsub, ndiv, nrem, nrem', nrN, q6, q2, e]
    · simp (disch := omega) only [R_214_28, R_214_24, R_214_17, R_214_8, R_214_0, S_214, gd_t, bI_, bV_, bR_, and_self, and_true, true_and, ↓reduceIte, eq_self, oj_84, bI_1, bI_0, L0, L1, L10, L12, L84, le_t, le_f, lt_t, lt_f, eq_t, eq_f, ncl, nI_add, nmul, nsub, ndiv, nrem, nrem', nrN, q6]
theorem m_214w {h : Hp} {v : Int64} (q : h 84 12 = nI 1) : S_214 v h = some (nI 0, h) := by
  by_cases c : h 84 10 = nI 1
  · have c' : (h 84 10 = nI 1) = True := eq_true c
    by_cases d : lg_cmp (rdL (h 84)) v = nI 0
    · simp (disch := omega) only [R_214_28, R_214_24, R_214_17, R_214_8, R_214_0, S_214, gd_t, bI_, bV_, bR_, and_self, and_true, true_and, ↓reduceIte, eq_self, oj_84, bI_1, bI_0, L0, L1, L10, L12, L84, eq_f, q, c', d]
    · simp (disch := omega) only [R_214_28, R_214_24, R_214_17, R_214_8, R_214_0, S_214, gd_t, bI_, bV_, bR_, and_self, and_true, true_and, ↓reduceIte, eq_self, oj_84, bI_1, bI_0, L0, L1, L10, L12, L84, eq_f, q, c', d]
  · simp (disch := omega) only [R_214_28, R_214_24, R_214_17, R_214_8, R_214_0, S_214, gd_t, bI_, bV_, bR_, and_self, and_true, true_and, ↓reduceIte, eq_self, oj_84, bI_1, bI_0, L0, L1, L10, L12, L84, eq_f, q, c]
theorem m_219 {N : Nat} {T : Nat → Nat} {h : Hp} {t : Tok} {R : List Tok} (q : MS N T h t R) {x : Nat} (hx : x = 40 ∨ x = 41 ∨ x = 59 ∨ x = 60 ∨ x = 61 ∨ x = 62) : S_219 (nI x) h = some (bI (decide (t.1 = byteC x)), h) := by
  obtain ⟨q1, q2, e, tok, q3, q4, q5, q6, q7, q8⟩ := q
  have k := q7.2.2.2.1 x hx
  have t3 := q7.1
  have ex : Int32.toInt64 (nI x) = lgN x := lgN_i (by omega)
  by_cases c : t.1 = byteC x
  · obtain ⟨c1, c2⟩ := k.mpr c
    subst c1
    have e : (lg_cmp (rdL (h 84)) (Int32.toInt64 (nI x)) = nI 0) = True := eq_true ((lg_cmp_eq _ _).mpr (by rw [ex]; exact c2))
    rw [decide_eq_true c]
    simp (disch := omega) only [R_219_29, R_219_25, R_219_18, R_219_8, R_219_0, S_219, gd_t, bI_, bV_, bR_, and_self, and_true, true_and, ↓reduceIte, eq_self, oj_84, bI_1, bI_0, L0, L1, L3, L10, L12, L84, le_t, le_f, lt_t, lt_f, eq_t, eq_f, ncl, nI_add, nmul, nsub, ndiv, nrem, nrem', nrN, q6, q2, e]
  · rw [decide_eq_false c]
    by_cases c1 : tok = 3
    · have c2 : ¬ rdL (h 84) = lgN x := fun z => c (k.mp ⟨c1, z⟩)
      have e : (lg_cmp (rdL (h 84)) (Int32.toInt64 (nI x)) = nI 0) = False := eq_false (fun z => c2 (by rw [← ex]; exact (lg_cmp_eq _ _).mp z))
      subst c1
      simp (disch := omega) only [R_219_29, R_219_25, R_219_18, R_219_8, R_219_0, S_219, gd_t, bI_, bV_, bR_, and_self, and_true, true_and, ↓reduceIte, eq_self, oj_84, bI_1, bI_0, L0, L1, L3, L10, L12, L84, le_t, le_f, lt_t, lt_f, eq_t, eq_f, ncl, nI_add, nmul, nsub, ndiv, nrem, nrem', nrN, q6, q2, e]
    · simp (disch := omega) only [R_219_29, R_219_25, R_219_18, R_219_8, R_219_0, S_219, gd_t, bI_, bV_, bR_, and_self, and_true, true_and, ↓reduceIte, eq_self, oj_84, bI_1, bI_0, L0, L1, L3, L10, L12, L84, le_t, le_f, lt_t, lt_f, eq_t, eq_f, ncl, nI_add, nmul, nsub, ndiv, nrem, nrem', nrN, q6]
theorem m_219w {h : Hp} {v : Int32} (q : h 84 12 = nI 1) : S_219 v h = some (nI 0, h) := by
  by_cases c : h 84 10 = nI 3
  · have c' : (h 84 10 = nI 3) = True := eq_true c
    by_cases d : lg_cmp (rdL (h 84)) (Int32.toInt64 v) = nI 0
    · simp (disch := omega) only [R_219_29, R_219_25, R_219_18, R_219_8, R_219_0, S_219, gd_t, bI_, bV_, bR_, and_self, and_true, true_and, ↓reduceIte, eq_self, oj_84, bI_1, bI_0, L0, L1, L3, L10, L12, L84, eq_f, q, c', d]
    · simp (disch := omega) only [R_219_29, R_219_25, R_219_18, R_219_8, R_219_0, S_219, gd_t, bI_, bV_, bR_, and_self, and_true, true_and, ↓reduceIte, eq_self, oj_84, bI_1, bI_0, L0, L1, L3, L10, L12, L84, eq_f, q, c', d]
  · simp (disch := omega) only [R_219_29, R_219_25, R_219_18, R_219_8, R_219_0, S_219, gd_t, bI_, bV_, bR_, and_self, and_true, true_and, ↓reduceIte, eq_self, oj_84, bI_1, bI_0, L0, L1, L3, L10, L12, L84, eq_f, q, c]
theorem m_lay {h : Hp} {L : List Nat} {v : Nat} (q2 : h 84 12 = nI 0) (q : CoM h L) (hl : L.length < 240) (hv : v < 30000) : ∃ h', S_222 (nI v) h = some (nI 0, h') ∧ CoM h' (L ++ [v]) ∧ (∀ c, c ≠ 84 → c ≠ 90 → h' c = h c) ∧ ∀ j, j ≠ 15 → h' 84 j = h 84 j := by
  obtain ⟨q1, q3⟩ := q
  have i90 : IA 90 (nI L.length) = True := ia_90 (by omega)
  refine ⟨wr (wr h 90 L.length (nI v)) 84 15 (nI (L.length + 1)), ?_, ⟨?_, fun j w hw => ?_⟩, fun c e e2 => by rw [wr_c e, wr_c e2], fun j e => by rw [wr_k e, wr_c (by decide)]⟩
  · have e1 : wr h 90 L.length (nI v) 84 15 = nI L.length := by rw [wr_c (by decide)]; exact q1
    simp (disch := omega) only [R_222_27, R_222_7, R_222_0, S_222, gd_t, bI_, bV_, bR_, and_self, and_true, true_and, ↓reduceIte, eq_self, oj_84, bI_1, bI_0, L0, L1, L12, L15, L84, L90, le_t, le_f, lt_t, lt_f, eq_t, eq_f, ncl, nI_add, nmul, nsub, ndiv, nrem, nrem', nrN, q1, q2, i90, e1]
  · rw [wr_self, List.length_append]
    rfl
  · rw [wr_c (by decide)]
    by_cases c : j < L.length
    · rw [List.getElem?_append_left c] at hw
      rw [wr_k (by omega)]
      exact q3 j w hw
    · rw [List.getElem?_append_right (by omega)] at hw
      by_cases c2 : j = L.length
      · subst c2
        rw [Nat.sub_self] at hw
        have : v = w := Option.some.inj hw
        subst this
        exact ⟨wr_self, hv⟩
      · exfalso
        obtain ⟨k, hk⟩ : ∃ k, j - L.length = k + 1 := ⟨j - L.length - 1, by omega⟩
        rw [hk] at hw
        cases hw
theorem m_layw {h : Hp} {v : Int32} (q : h 84 12 = nI 1) : S_222 v h = some (nI 0, h) := by
  simp (disch := omega) only [R_222_27, R_222_7, R_222_0, S_222, gd_t, bI_, bV_, bR_, and_self, and_true, true_and, ↓reduceIte, eq_self, oj_84, bI_1, bI_0, L0, L1, L12, L15, L84, L90, le_t, le_f, lt_t, lt_f, eq_t, eq_f, ncl, nI_add, nmul, nsub, ndiv, nrem, nrem', nrN, q]
theorem MS.l {N : Nat} {T : Nat → Nat} {h h' : Hp} {t : Tok} {R : List Tok} (q : MS N T h t R) (a : ∀ c, c ≠ 84 → c ≠ 90 → h' c = h c) (b : ∀ j, j ≠ 15 → h' 84 j = h 84 j) : MS N T h' t R := q.c (a 89 (by decide) (by decide)) (fun j _ e => b j e)
theorem FrM.l {h h' : Hp} (a : ∀ c, c ≠ 84 → c ≠ 90 → h' c = h c) (b : ∀ j, j ≠ 15 → h' 84 j = h 84 j) : FrM h h' := ⟨a, fun j e => b j (by omega)⟩
theorem FrC.l {h h' : Hp} (a : ∀ c, c ≠ 23 → c ≠ 27 → h' c = h c) (b : ∀ j, j ≠ 4 → h' 23 j = h 23 j) : FrC h h' := ⟨fun c _ e e2 => a c e e2, fun j _ _ _ => by rw [a 21 (by decide) (by decide)], b⟩
theorem FrM.w {h : Hp} {x : Int32} : FrM h (wr h 84 12 x) := ⟨fun c e _ => by rw [wr_c e], fun j e => by rw [wr_k (by omega)]⟩
