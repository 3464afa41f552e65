/-! part 99e: values and comparisons -/
theorem Wd0 : (10160456 : Int64) = wV 0 := by decide +kernel
theorem Wd1 : (10989714 : Int64) = wV 1 := by decide +kernel
theorem Wd2 : (94196 : Int64) = wV 2 := by decide +kernel
theorem Wd3 : (284079062 : Int64) = wV 3 := by decide +kernel
theorem Wd4 : (1960177 : Int64) = wV 4 := by decide +kernel
theorem Wd5 : (6943085 : Int64) = wV 5 := by decide +kernel
theorem Wd6 : (259906 : Int64) = wV 6 := by decide +kernel
theorem Wd7 : (220309 : Int64) = wV 7 := by decide +kernel
theorem Wd8 : (407038 : Int64) = wV 8 := by decide +kernel
theorem Wd9 : (249 : Int64) = wV 9 := by decide +kernel
theorem Wd10 : (10631 : Int64) = wV 10 := by decide +kernel
theorem Wd11 : (1111 : Int64) = wV 11 := by decide +kernel
theorem Wd12 : (423 : Int64) = wV 12 := by decide +kernel
theorem Wd13 : (7622660 : Int64) = wV 13 := by decide +kernel
theorem Wd14 : (10998971 : Int64) = wV 14 := by decide +kernel
theorem Wd15 : (239262010 : Int64) = wV 15 := by decide +kernel
theorem Wd16 : (355278 : Int64) = wV 16 := by decide +kernel
theorem Wd17 : (212302449 : Int64) = wV 17 := by decide +kernel
theorem m_214t {N : Nat} {T : Nat → Nat} {h : Hp} {t : Tok} {R : List Tok} (q : MS N T h t R) {w : Nat} (hw : w < 18) (e : t.1 = w) : S_214 (wV w) h = some (nI 1, h) := by
  rw [m_214 q hw, decide_eq_true e]
  rfl
theorem m_214f {N : Nat} {T : Nat → Nat} {h : Hp} {t : Tok} {R : List Tok} (q : MS N T h t R) {w : Nat} (hw : w < 18) (e : ¬ t.1 = w) : S_214 (wV w) h = some (nI 0, h) := by
  rw [m_214 q hw, decide_eq_false e]
  rfl
def isVl (c : Nat) : Prop := c = 26 ∨ (13 ≤ c ∧ c ≤ 17)
def vlN (t : Tok) : Nat := if t.1 = 26 then t.2.2 else 10000 + (t.1 - 13)
theorem dVl (c : Nat) : isVl c ∨ ¬ isVl c := by unfold isVl; omega
theorem s_74 {h : Hp} {t : Tok} {R : List Tok} (q : CS h t R) : (isVl t.1 → S_74 h = some (nI 1, h)) ∧ (¬ isVl t.1 → S_74 h = some (nI 0, h)) := by
  have q8 := q.tok
  have lt := q.lt
  unfold isVl
  constructor
  · intro c
    by_cases c1 : t.1 = 26
    · simp (disch := omega) only [R_74_27, R_74_31, R_74_18, R_74_9, R_74_0, S_74, gd_t, bI_, bV_, bR_, and_self, and_true, true_and, ↓reduceIte, eq_self, oj_84, bI_1, bI_0, L0, L1, L8, L13, L17, L21, L26, le_t, le_f, lt_t, lt_f, eq_t, eq_f, ncl, nI_add, nmul, nsub, ndiv, nrem, nrem', nrN, q8]
    · simp (disch := omega) only [R_74_27, R_74_31, R_74_18, R_74_9, R_74_0, S_74, gd_t, bI_, bV_, bR_, and_self, and_true, true_and, ↓reduceIte, eq_self, oj_84, bI_1, bI_0, L0, L1, L8, L13, L17, L21, L26, le_t, le_f, lt_t, lt_f, eq_t, eq_f, ncl, nI_add, nmul, nsub, ndiv, nrem, nrem', nrN, q8]
  · intro c
    by_cases c1 : t.1 < 13
    · simp (disch := omega) only [R_74_27, R_74_31, R_74_18, R_74_9, R_74_0, S_74, gd_t, bI_, bV_, bR_, and_self, and_true, true_and, ↓reduceIte, eq_self, oj_84, bI_1, bI_0, L0, L1, L8, L13, L17, L21, L26, le_t, le_f, lt_t, lt_f, eq_t, eq_f, ncl, nI_add, nmul, nsub, ndiv, nrem, nrem', nrN, q8]
    · simp (disch := omega) only [R_74_27, R_74_31, R_74_18, R_74_9, R_74_0, S_74, gd_t, bI_, bV_, bR_, and_self, and_true, true_and, ↓reduceIte, eq_self, oj_84, bI_1, bI_0, L0, L1, L8, L13, L17, L21, L26, le_t, le_f, lt_t, lt_f, eq_t, eq_f, ncl, nI_add, nmul, nsub, ndiv, nrem, nrem', nrN, q8]
theorem s_75 {h : Hp} {t : Tok} {R : List Tok} (q : CS h t R) (hv : isVl t.1) : S_75 h = some (nI (vlN t), h) := by
  have q8 := q.tok
  have lt := q.lt
  obtain ⟨i, q1, q2, q3, q4⟩ := q
  obtain ⟨-, -, -, u4⟩ := q4 0 t rfl
  rw [Nat.add_zero] at u4
  unfold isVl at hv
  unfold vlN
  by_cases c1 : t.1 = 26
  · have i30 : IA 30 (nI i) = True := ia_30 (by omega)
    rw [if_pos c1]
    simp (disch := omega) only [R_75_21, R_75_9, R_75_0, S_75, gd_t, bI_, bV_, bR_, and_self, and_true, true_and, ↓reduceIte, eq_self, oj_84, bI_1, bI_0, L0, L1, L7, L8, L13, L21, L26, L30, L10000, le_t, le_f, lt_t, lt_f, eq_t, eq_f, ncl, nI_add, nmul, nsub, ndiv, nrem, nrem', nrN, q8, q2, i30, u4 c1]
  · rw [if_neg c1, show 10000 + (t.1 - 13) = 10000 + t.1 - 13 by omega]
    simp (disch := omega) only [R_75_21, R_75_9, R_75_0, S_75, gd_t, bI_, bV_, bR_, and_self, and_true, true_and, ↓reduceIte, eq_self, oj_84, bI_1, bI_0, L0, L1, L7, L8, L13, L21, L26, L30, L10000, le_t, le_f, lt_t, lt_f, eq_t, eq_f, ncl, nI_add, nmul, nsub, ndiv, nrem, nrem', nrN, q8]
theorem s_221 {N : Nat} {T : Nat → Nat} {h : Hp} {t : Tok} {R : List Tok} (q : MS N T h t R) : (13 ≤ t.1 ∧ t.1 ≤ 17 → S_221 h = some (nI (t.1 - 13), h)) ∧ (¬ (13 ≤ t.1 ∧ t.1 ≤ 17) → S_221 h = some (-nI 1, h)) := by
  constructor
  · intro c
    rcases (show t.1 = 13 ∨ t.1 = 14 ∨ t.1 = 15 ∨ t.1 = 16 ∨ t.1 = 17 by omega) with e | e | e | e | e
    · rw [show t.1 - 13 = 0 by omega]
      simp (disch := omega) only [R_221_70, R_221_66, R_221_63, R_221_56, R_221_52, R_221_49, R_221_42, R_221_38, R_221_35, R_221_28, R_221_24, R_221_21, R_221_14, R_221_10, R_221_7, R_221_0, S_221, gd_t, bI_, bV_, bR_, and_self, and_true, true_and, ↓reduceIte, eq_self, oj_84, bI_1, bI_0, L0, L1, L2, L3, L4, L355278, L7622660, L10998971, L212302449, L239262010, le_t, le_f, lt_t, lt_f, eq_t, eq_f, ncl, nI_add, nmul, nsub, ndiv, nrem, nrem', nrN, Wd13, Wd14, Wd15, Wd16, Wd17, m_214t q, m_214f q]
    · rw [show t.1 - 13 = 1 by omega]
      simp (disch := omega) only [R_221_70, R_221_66, R_221_63, R_221_56, R_221_52, R_221_49, R_221_42, R_221_38, R_221_35, R_221_28, R_221_24, R_221_21, R_221_14, R_221_10, R_221_7, R_221_0, S_221, gd_t, bI_, bV_, bR_, and_self, and_true, true_and, ↓reduceIte, eq_self, oj_84, bI_1, bI_0, L0, L1, L2, L3, L4, L355278, L7622660, L10998971, L212302449, L239262010, le_t, le_f, lt_t, lt_f, eq_t, eq_f, ncl, nI_add, nmul, nsub, ndiv, nrem, nrem', nrN, Wd13, Wd14, Wd15, Wd16, Wd17, m_214t q, m_214f q]
    · rw [show t.1 - 13 = 2 by omega]
      simp (disch := omega) only [R_221_70, R_221_66, R_221_63, R_221_56, R_221_52, R_221_49, R_221_42, R_221_38, R_221_35, R_221_28, R_221_24, R_221_21, R_221_14, R_221_10, R_221_7, R_221_0, S_221, gd_t, bI_, bV_, bR_, and_self, and_true, true_and, ↓reduceIte, eq_self, oj_84, bI_1, bI_0, L0, L1, L2, L3, L4, L355278, L7622660, L10998971, L212302449, L239262010, le_t, le_f, lt_t, lt_f, eq_t, eq_f, ncl, nI_add, nmul, nsub, ndiv, nrem, nrem', nrN, Wd13, Wd14, Wd15, Wd16, Wd17, m_214t q, m_214f q]
    · rw [show t.1 - 13 = 3 by omega]
      simp (disch := omega) only [R_221_70, R_221_66, R_221_63, R_221_56, R_221_52, R_221_49, R_221_42, R_221_38, R_221_35, R_221_28, R_221_24, R_221_21, R_221_14, R_221_10, R_221_7, R_221_0, S_221, gd_t, bI_, bV_, bR_, and_self, and_true, true_and, ↓reduceIte, eq_self, oj_84, bI_1, bI_0, L0, L1, L2, L3, L4, L355278, L7622660, L10998971, L212302449, L239262010, le_t, le_f, lt_t, lt_f, eq_t, eq_f, ncl, nI_add, nmul, nsub, ndiv, nrem, nrem', nrN, Wd13, Wd14, Wd15, Wd16, Wd17, m_214t q, m_214f q]
    · rw [show t.1 - 13 = 4 by omega]
      simp (disch := omega) only [R_221_70, R_221_66, R_221_63, R_221_56, R_221_52, R_221_49, R_221_42, R_221_38, R_221_35, R_221_28, R_221_24, R_221_21, R_221_14, R_221_10, R_221_7, R_221_0, S_221, gd_t, bI_, bV_, bR_, and_self, and_true, true_and, ↓reduceIte, eq_self, oj_84, bI_1, bI_0, L0, L1, L2, L3, L4, L355278, L7622660, L10998971, L212302449, L239262010, le_t, le_f, lt_t, lt_f, eq_t, eq_f, ncl, nI_add, nmul, nsub, ndiv, nrem, nrem', nrN, Wd13, Wd14, Wd15, Wd16, Wd17, m_214t q, m_214f q]
  · intro c
    simp (disch := omega) only [R_221_70, R_221_66, R_221_63, R_221_56, R_221_52, R_221_49, R_221_42, R_221_38, R_221_35, R_221_28, R_221_24, R_221_21, R_221_14, R_221_10, R_221_7, R_221_0, S_221, gd_t, bI_, bV_, bR_, and_self, and_true, true_and, ↓reduceIte, eq_self, oj_84, bI_1, bI_0, L0, L1, L2, L3, L4, L355278, L7622660, L10998971, L212302449, L239262010, le_t, le_f, lt_t, lt_f, eq_t, eq_f, ncl, nI_add, nmul, nsub, ndiv, nrem, nrem', nrN, Wd13, Wd14, Wd15, Wd16, Wd17, m_214t q, m_214f q]
theorem s_221w {h : Hp} (q : h 84 12 = nI 1) : S_221 h = some (-nI 1, h) := by
  simp (disch := omega) only [R_221_70, R_221_66, R_221_63, R_221_56, R_221_52, R_221_49, R_221_42, R_221_38, R_221_35, R_221_28, R_221_24, R_221_21, R_221_14, R_221_10, R_221_7, R_221_0, S_221, gd_t, bI_, bV_, bR_, and_self, and_true, true_and, ↓reduceIte, eq_self, oj_84, bI_1, bI_0, L0, L1, L2, L3, L4, L355278, L7622660, L10998971, L212302449, L239262010, le_t, le_f, lt_t, lt_f, eq_t, eq_f, ncl, nI_add, nmul, nsub, ndiv, nrem, nrem', nrN, m_214w q]
theorem lgN_32 {n : Nat} (h : n < 2147483648) : Int64.toInt32 (lgN n) = nI n := by
  rw [← lgN_i h]
  exact Int32.toInt32_toInt64 _
theorem neg1lt : (-nI 1 < nI 0) = True := neg_lt (by decide) (by decide)
theorem neg1le : (nI 0 ≤ -nI 1) = False := neg_le (by decide) (by decide)
theorem o84 : (sh 84 = (1, 9) ∧ True) = True := by rw [and_true]; exact oj_84
/-- the model's value, good -/
theorem m_220 {N : Nat} {T : Nat → Nat} {h : Hp} {t t' : Tok} {R : List Tok} {M : List Nat} (q : MS N T h t (t' :: R)) (hv : isVl t.1) (cm : CoM h M) (hl : M.length < 240) : ∃ h', S_220 h = some (nI 0, h') ∧ MS N T h' t' R ∧ CoM h' (M ++ [vlN t]) ∧ FrM h h' ∧ h' 84 13 = h 84 13 ∧ vlN t < 10005 := by
  have q2 := q.2.1
  have h27 : t.1 ≠ 27 := by unfold isVl at hv; omega
  by_cases c : t.1 = 26
  · obtain ⟨-, -, e, tok, -, -, -, q6, q7, -⟩ := id q
    obtain ⟨m1, m2⟩ := q7.2.2.2.2.1.mpr c
    obtain ⟨m3, m4⟩ := q7.2.2.2.2.2.1 c
    subst m1
    have ev : vlN t = t.2.2 := by unfold vlN; rw [if_pos c]
    have m2' : (nI 0 ≤ lg_cmp (lgN t.2.2) 100000) = False := by rw [← m3]; exact eq_false m2
    obtain ⟨h1, g1, cm1, f1, f2⟩ := m_lay q2 cm hl (show t.2.2 < 30000 by omega)
    obtain ⟨h2, g2, ms2, f3⟩ := m_go1 (q.l f1 f2) h27
    refine ⟨h2, ?_, ms2, by rw [ev]; exact cm1.a f3, (FrM.l f1 f2).tr f3.m, by rw [f3.2 13 (by decide) (by decide) (by decide) (by decide), f2 13 (by decide)], by omega⟩
    have e1 := (s_221 q).2 (by omega)
    have e32 : Int64.toInt32 (lgN t.2.2) = nI t.2.2 := lgN_32 (by omega)
    simp (disch := omega) only [S_220, R_220_0, R_220_4, R_220_13, R_220_24, R_220_43, R_220_47, R_220_59, R_220_64, R_220_68, R_220_76, L2, gd_t, bI_, bV_, bR_, and_self, and_true, true_and, ↓reduceIte, eq_self, oj_84, bI_1, bI_0, L0, L1, le_t, le_f, lt_t, lt_f, eq_t, eq_f, ncl, nI_add, nmul, nsub, ndiv, nrem, nrem', nrN, e1, q6, m3, m2', neg1lt, neg1le, e32, g1, g2]
  · have c1 : 13 ≤ t.1 ∧ t.1 ≤ 17 := by unfold isVl at hv; omega
    obtain ⟨-, -, e, tok, -, -, -, q6, q7, -⟩ := id q
    have m1 : tok = 1 := by
      have := q7.2.2.1 t.1 (by omega)
      exact (this.mpr rfl).1
    subst m1
    have ev : vlN t = 10000 + (t.1 - 13) := by unfold vlN; rw [if_neg c]
    obtain ⟨h1, g1, cm1, f1, f2⟩ := m_lay q2 cm hl (show 10000 + (t.1 - 13) < 30000 by omega)
    obtain ⟨h2, g2, ms2, f3⟩ := m_go1 (q.l f1 f2) h27
    refine ⟨h2, ?_, ms2, by rw [ev]; exact cm1.a f3, (FrM.l f1 f2).tr f3.m, by rw [f3.2 13 (by decide) (by decide) (by decide) (by decide), f2 13 (by decide)], by omega⟩
    have e1 := (s_221 q).1 c1
    simp (disch := omega) only [S_220, R_220_0, R_220_4, R_220_28, R_220_35, R_220_59, R_220_68, R_220_76, L2, L10000, gd_t, bI_, bV_, bR_, and_self, and_true, true_and, ↓reduceIte, eq_self, oj_84, bI_1, bI_0, L0, L1, le_t, le_f, lt_t, lt_f, eq_t, eq_f, ncl, nI_add, nmul, nsub, ndiv, nrem, nrem', nrN, e1, q6, g1, g2]
theorem m_220n {N : Nat} {T : Nat → Nat} {h : Hp} {t : Tok} {R : List Tok} {M : List Nat} (q : MS N T h t R) (hv : ¬ isVl t.1) (cm : CoM h M) (hl : M.length < 240) : ∃ h', S_220 h = some (nI 0, h') ∧ h' 84 12 = nI 1 ∧ h' 84 9 = nI t.2.1 ∧ FrM h h' := by
  have q2 := q.2.1
  have hv2 : ¬ t.1 = 26 ∧ ¬ (13 ≤ t.1 ∧ t.1 ≤ 17) := by unfold isVl at hv; omega
  obtain ⟨-, -, e, tok, -, -, q5, q6, q7, -⟩ := id q
  obtain ⟨h1, g1, cm1, f1, f2⟩ := m_lay q2 cm hl (show 0 < 30000 by decide)
  have g2 := m_go0 (h := h1) (by rw [f2 12 (by decide)]; exact q2)
  refine ⟨wr h1 84 12 (nI 1), ?_, wr_self, by rw [wr_k (by decide), f2 9 (by decide)]; exact q5, (FrM.l f1 f2).tr FrM.w⟩
  have e1 := (s_221 q).2 hv2.2
  have t3 := q7.1
  by_cases c : tok = 2
  · have m2 : (nI 0 ≤ lg_cmp (rdL (h 84)) 100000) = True := by
      refine eq_true ?_
      by_cases z : 0 ≤ lg_cmp (rdL (h 84)) 100000
      · exact z
      · exact absurd (q7.2.2.2.2.1.mp ⟨c, z⟩) hv2.1
    subst c
    simp (disch := omega) only [S_220, R_220_0, R_220_4, R_220_13, R_220_28, R_220_43, R_220_55, R_220_59, R_220_64, R_220_72, R_220_76, L2, gd_t, bI_, bV_, bR_, and_self, and_true, true_and, ↓reduceIte, eq_self, oj_84, bI_1, bI_0, L0, L1, le_t, le_f, lt_t, lt_f, eq_t, eq_f, ncl, nI_add, nmul, nsub, ndiv, nrem, nrem', nrN, e1, q6, m2, neg1lt, neg1le, g1, g2]
  · simp (disch := omega) only [S_220, R_220_0, R_220_4, R_220_28, R_220_43, R_220_55, R_220_59, R_220_64, R_220_72, R_220_76, L2, gd_t, bI_, bV_, bR_, and_self, and_true, true_and, ↓reduceIte, eq_self, oj_84, bI_1, bI_0, L0, L1, le_t, le_f, lt_t, lt_f, eq_t, eq_f, ncl, nI_add, nmul, nsub, ndiv, nrem, nrem', nrN, e1, q6, neg1lt, neg1le, g1, g2]
theorem m_220w {h : Hp} (q : h 84 12 = nI 1) : S_220 h = some (nI 0, h) := by
  have e1 := s_221w q
  have a1 := fun x => m_layw (v := x) q
  have a2 := fun x => m_gow (x := x) q
  by_cases c : h 84 10 = nI 2
  · have c' : (h 84 10 = nI 2) = True := eq_true c
    by_cases d : nI 0 ≤ lg_cmp (rdL (h 84)) 100000
    · have d' : (nI 0 ≤ lg_cmp (rdL (h 84)) 100000) = True := eq_true d
      simp (disch := omega) only [S_220, R_220_0, R_220_4, R_220_13, R_220_28, R_220_43, R_220_55, R_220_59, R_220_64, R_220_72, R_220_76, L2, gd_t, bI_, bV_, bR_, and_self, and_true, true_and, ↓reduceIte, eq_self, oj_84, bI_1, bI_0, L0, L1, le_t, le_f, lt_t, lt_f, eq_t, eq_f, ncl, nI_add, nmul, nsub, ndiv, nrem, nrem', nrN, e1, c', d', neg1lt, neg1le, a1, a2]
    · have d' : (nI 0 ≤ lg_cmp (rdL (h 84)) 100000) = False := eq_false d
      simp (disch := omega) only [S_220, R_220_0, R_220_4, R_220_13, R_220_24, R_220_43, R_220_47, R_220_59, R_220_64, R_220_68, R_220_76, L2, gd_t, bI_, bV_, bR_, and_self, and_true, true_and, ↓reduceIte, eq_self, oj_84, bI_1, bI_0, L0, L1, le_t, le_f, lt_t, lt_f, eq_t, eq_f, ncl, nI_add, nmul, nsub, ndiv, nrem, nrem', nrN, e1, c', d', neg1lt, neg1le, a1, a2]
  · have c' : (h 84 10 = nI 2) = False := eq_false c
    simp (disch := omega) only [S_220, R_220_0, R_220_4, R_220_28, R_220_43, R_220_55, R_220_59, R_220_64, R_220_72, R_220_76, L2, gd_t, bI_, bV_, bR_, and_self, and_true, true_and, ↓reduceIte, eq_self, oj_84, bI_1, bI_0, L0, L1, le_t, le_f, lt_t, lt_f, eq_t, eq_f, ncl, nI_add, nmul, nsub, ndiv, nrem, nrem', nrN, e1, c', neg1lt, neg1le, a1, a2]
