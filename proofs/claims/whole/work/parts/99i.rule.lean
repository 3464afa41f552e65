/-! part 99i: one rule read -/
theorem gt_lt {α : Type} {l : List α} {i : Nat} {v : α} (h : l[i]? = some v) : i < l.length := by
  rcases Nat.lt_or_ge i l.length with c | c
  · exact c
  · rw [List.getElem?_eq_none c] at h
    cases h
theorem gt_app {α : Type} {l l' : List α} {i : Nat} {v : α} (h : l[i]? = some v) : (l ++ l')[i]? = some v := by
  rw [List.getElem?_append_left (gt_lt h)]
  exact h
theorem gt_new {α : Type} {l : List α} {i : Nat} {v q : α} (h : (l ++ [q])[i]? = some v) : (i < l.length ∧ l[i]? = some v) ∨ (i = l.length ∧ v = q) := by
  rcases Nat.lt_or_ge i l.length with c | c
  · rw [List.getElem?_append_left c] at h
    exact Or.inl ⟨c, h⟩
  · have hl := gt_lt h
    rw [List.length_append] at hl
    simp only [List.length_cons, List.length_nil] at hl
    have e : i = l.length := by omega
    rw [List.getElem?_append_right c, e, Nat.sub_self] at h
    exact Or.inr ⟨e, (Option.some.inj h).symm⟩
abbrev Ru : Type := Nat × Nat × ((Nat → Nat) → Bool)
/-- the rules read so far: the class's draft -/
def RuC (h : Hp) (rl : List Ru) (La : List Nat) : Prop := h 23 5 = nI rl.length ∧ rl.length ≤ 8 ∧ ∃ (b : Nat → Nat) (Ls : Nat → List Nat), b 0 = 0 ∧ b rl.length = La.length ∧ ∀ i q, rl[i]? = some q → h 24 i = nI q.1 ∧ q.1 ≤ 5 ∧ h 25 i = nI q.2.1 ∧ q.2.1 ≤ 2 ∧ b (i + 1) = b i + (Ls i).length ∧ b (i + 1) ≤ La.length ∧ h 26 i = nI (b (i + 1)) ∧ (∀ j v, (Ls i)[j]? = some v → La[b i + j]? = some v) ∧ CdL (Ls i) q.2.2
/-- the rules read so far: what the model was told -/
def RuM (h : Hp) (rl : List Ru) (Ma : List Nat) : Prop := h 84 17 = nI rl.length ∧ ∃ (b : Nat → Nat) (Ls : Nat → List Nat), ∀ i q, rl[i]? = some q → h 91 (4 * i) = nI q.1 ∧ h 91 (4 * i + 1) = nI q.2.1 ∧ h 91 (4 * i + 2) = nI (b i) ∧ h 91 (4 * i + 3) = nI (b i + (Ls i).length) ∧ b i + (Ls i).length ≤ Ma.length ∧ (∀ j v, (Ls i)[j]? = some v → Ma[b i + j]? = some v) ∧ CdM (Ls i) q.2.2
theorem RuC.c {h h' : Hp} {rl : List Ru} {La : List Nat} (q : RuC h rl La) (a : FrC h h') : RuC h' rl La := by
  unfold RuC
  rw [a.2.2 5 (by decide), a.1 24 (by decide) (by decide) (by decide), a.1 25 (by decide) (by decide) (by decide), a.1 26 (by decide) (by decide) (by decide)]
  exact q
theorem RuM.c {h h' : Hp} {rl : List Ru} {Ma : List Nat} (q : RuM h rl Ma) (a : FrM h h') : RuM h' rl Ma := by
  unfold RuM
  rw [a.2 17 (by decide), a.1 91 (by decide) (by decide)]
  exact q
theorem RuC.add {h h' : Hp} {rl : List Ru} {La L : List Nat} {k d : Nat} {c : (Nat → Nat) → Bool} (q : RuC h rl La) (hk : k ≤ 5) (hd : d ≤ 2) (hc : CdL L c) (hn : rl.length < 8) (e : h' = wr (wr (wr (wr h 24 rl.length (nI k)) 25 rl.length (nI d)) 26 rl.length (nI (La ++ L).length)) 23 5 (nI (rl.length + 1))) : RuC h' (rl ++ [(k, d, c)]) (La ++ L) := by
  obtain ⟨q1, q2, b, Ls, b0, bn, q3⟩ := q
  subst e
  refine ⟨by rw [wr_self, List.length_append]; rfl, by rw [List.length_append]; simp; omega, fun i => if i ≤ rl.length then b i else (La ++ L).length, fun i => if i = rl.length then L else Ls i, ?_, ?_, fun i q hi => ?_⟩
  · show (if 0 ≤ rl.length then b 0 else _) = 0
    rw [if_pos (Nat.zero_le _), b0]
  · show (if (rl ++ [(k, d, c)]).length ≤ rl.length then _ else _) = _
    rw [if_neg (by rw [List.length_append]; simp)]
  · rcases gt_new hi with ⟨il, iq⟩ | ⟨il, iq⟩
    · obtain ⟨x1, x2, x3, x4, x5, x6, x7, x8, x9⟩ := q3 i q iq
      have ne : i ≠ rl.length := by omega
      show _ ∧ _ ∧ _ ∧ _ ∧ (if i + 1 ≤ rl.length then b (i + 1) else _) = (if i ≤ rl.length then b i else _) + (if i = rl.length then L else Ls i).length ∧ (if i + 1 ≤ rl.length then b (i + 1) else _) ≤ _ ∧ _ = nI (if i + 1 ≤ rl.length then b (i + 1) else _) ∧ (∀ j v, (if i = rl.length then L else Ls i)[j]? = some v → (La ++ L)[(if i ≤ rl.length then b i else _) + j]? = some v) ∧ CdL (if i = rl.length then L else Ls i) _
      rw [if_pos (show i + 1 ≤ rl.length by omega), if_pos (show i ≤ rl.length by omega), if_neg ne]
      refine ⟨by rw [wr_c (by decide), wr_c (by decide), wr_c (by decide), wr_k ne]; exact x1, x2, by rw [wr_c (by decide), wr_c (by decide), wr_k ne, wr_c (by decide)]; exact x3, x4, x5, by rw [List.length_append]; omega, by rw [wr_c (by decide), wr_k ne, wr_c (by decide), wr_c (by decide)]; exact x7, fun j v hv => gt_app (x8 j v hv), x9⟩
    · subst il iq
      show _ ∧ _ ∧ _ ∧ _ ∧ (if rl.length + 1 ≤ rl.length then b (rl.length + 1) else _) = (if rl.length ≤ rl.length then b rl.length else _) + (if rl.length = rl.length then L else Ls rl.length).length ∧ (if rl.length + 1 ≤ rl.length then b (rl.length + 1) else _) ≤ _ ∧ _ = nI (if rl.length + 1 ≤ rl.length then b (rl.length + 1) else _) ∧ (∀ j v, (if rl.length = rl.length then L else Ls rl.length)[j]? = some v → (La ++ L)[(if rl.length ≤ rl.length then b rl.length else _) + j]? = some v) ∧ CdL (if rl.length = rl.length then L else Ls rl.length) _
      rw [if_neg (show ¬ rl.length + 1 ≤ rl.length by omega), if_pos (Nat.le_refl rl.length), if_pos rfl]
      refine ⟨by rw [wr_c (by decide), wr_c (by decide), wr_c (by decide), wr_self], hk, by rw [wr_c (by decide), wr_c (by decide), wr_self], hd, by rw [List.length_append, bn], Nat.le_refl _, by rw [wr_c (by decide), wr_self], fun j v hv => ?_, hc⟩
      rw [bn, List.getElem?_append_right (by omega), show La.length + j - La.length = j by omega]
      exact hv
theorem RuM.add {h h' : Hp} {rl : List Ru} {Ma M : List Nat} {k d : Nat} {c : (Nat → Nat) → Bool} (q : RuM h rl Ma) (hc : CdM M c) (e : h' = wr (wr (wr (wr (wr h 91 (4 * rl.length) (nI k)) 91 (4 * rl.length + 1) (nI d)) 91 (4 * rl.length + 2) (nI Ma.length)) 91 (4 * rl.length + 3) (nI (Ma ++ M).length)) 84 17 (nI (rl.length + 1))) : RuM h' (rl ++ [(k, d, c)]) (Ma ++ M) := by
  obtain ⟨q1, b, Ls, q3⟩ := q
  subst e
  refine ⟨by rw [wr_self, List.length_append]; rfl, fun i => if i = rl.length then Ma.length else b i, fun i => if i = rl.length then M else Ls i, fun i q hi => ?_⟩
  rcases gt_new hi with ⟨il, iq⟩ | ⟨il, iq⟩
  · obtain ⟨x1, x2, x3, x4, x5, x6, x7⟩ := q3 i q iq
    have ne : i ≠ rl.length := by omega
    show _ ∧ _ ∧ _ = nI (if i = rl.length then Ma.length else b i) ∧ _ = nI ((if i = rl.length then Ma.length else b i) + (if i = rl.length then M else Ls i).length) ∧ (if i = rl.length then Ma.length else b i) + (if i = rl.length then M else Ls i).length ≤ _ ∧ (∀ j v, (if i = rl.length then M else Ls i)[j]? = some v → (Ma ++ M)[(if i = rl.length then Ma.length else b i) + j]? = some v) ∧ CdM (if i = rl.length then M else Ls i) _
    rw [if_neg ne, if_neg ne]
    have w : ∀ j, j < 4 → wr (wr (wr (wr (wr h 91 (4 * rl.length) (nI k)) 91 (4 * rl.length + 1) (nI d)) 91 (4 * rl.length + 2) (nI Ma.length)) 91 (4 * rl.length + 3) (nI (Ma ++ M).length)) 84 17 (nI (rl.length + 1)) 91 (4 * i + j) = h 91 (4 * i + j) := fun j hj => by
      rw [wr_c (by decide), wr_k (by omega), wr_k (by omega), wr_k (by omega), wr_k (by omega)]
    have w0 := w 0 (by decide)
    refine ⟨w0.trans x1, by rw [w 1 (by decide)]; exact x2, by rw [w 2 (by decide)]; exact x3, by rw [w 3 (by decide)]; exact x4, by rw [List.length_append]; omega, fun j v hv => gt_app (x6 j v hv), x7⟩
  · subst il iq
    show _ ∧ _ ∧ _ = nI (if rl.length = rl.length then Ma.length else b rl.length) ∧ _ = nI ((if rl.length = rl.length then Ma.length else b rl.length) + (if rl.length = rl.length then M else Ls rl.length).length) ∧ (if rl.length = rl.length then Ma.length else b rl.length) + (if rl.length = rl.length then M else Ls rl.length).length ≤ _ ∧ (∀ j v, (if rl.length = rl.length then M else Ls rl.length)[j]? = some v → (Ma ++ M)[(if rl.length = rl.length then Ma.length else b rl.length) + j]? = some v) ∧ CdM (if rl.length = rl.length then M else Ls rl.length) _
    rw [if_pos rfl, if_pos rfl]
    refine ⟨by rw [wr_c (by decide), wr_k (by omega), wr_k (by omega), wr_k (by omega), wr_self], by rw [wr_c (by decide), wr_k (by omega), wr_k (by omega), wr_self], by rw [wr_c (by decide), wr_k (by omega), wr_self], by rw [wr_c (by decide), wr_self, List.length_append], by rw [List.length_append]; exact Nat.le_refl _, fun j v hv => ?_, hc⟩
    rw [List.getElem?_append_right (by omega), show Ma.length + j - Ma.length = j by omega]
    exact hv
def FrC2 (h h' : Hp) : Prop := (∀ c, c ≠ 21 → ¬ (23 ≤ c ∧ c ≤ 27) → h' c = h c) ∧ ∀ j, j ≠ 3 → j ≠ 7 → j ≠ 8 → h' 21 j = h 21 j
def FrM2 (h h' : Hp) : Prop := (∀ c, c ≠ 84 → c ≠ 90 → c ≠ 91 → h' c = h c) ∧ ∀ j, (j < 8 ∨ (17 < j ∧ j < 100)) → h' 84 j = h 84 j
theorem FrC2.tr {h h1 h2 : Hp} (a : FrC2 h h1) (b : FrC2 h1 h2) : FrC2 h h2 := ⟨fun c e e2 => (b.1 c e e2).trans (a.1 c e e2), fun j e e2 e3 => (b.2 j e e2 e3).trans (a.2 j e e2 e3)⟩
theorem FrM2.tr {h h1 h2 : Hp} (a : FrM2 h h1) (b : FrM2 h1 h2) : FrM2 h h2 := ⟨fun c e e2 e3 => (b.1 c e e2 e3).trans (a.1 c e e2 e3), fun j e => (b.2 j e).trans (a.2 j e)⟩
theorem FrC.x {h h' : Hp} (a : FrC h h') : FrC2 h h' := ⟨fun c e e2 => a.1 c e (by omega) (by omega), a.2.1⟩
theorem FrM.x {h h' : Hp} (a : FrM h h') : FrM2 h h' := ⟨fun c e e2 _ => a.1 c e e2, fun j e => a.2 j (by omega)⟩
theorem s_213 {N : Nat} {T : Nat → Nat} {h : Hp} {t : Tok} {R : List Tok} (q : MS N T h t R) : (t.1 ≤ 5 → S_213 h = some (nI t.1, h)) ∧ (¬ t.1 ≤ 5 → S_213 h = some (-nI 1, h)) := by
  constructor
  · intro c
    rcases (show t.1 = 0 ∨ t.1 = 1 ∨ t.1 = 2 ∨ t.1 = 3 ∨ t.1 = 4 ∨ t.1 = 5 by omega) with e | e | e | e | e | e
    all_goals
      rw [e]
      simp (disch := omega) only [R_213_84, R_213_80, R_213_77, R_213_70, R_213_66, R_213_63, R_213_56, R_213_52, R_213_49, R_213_42, R_213_38, R_213_35, R_213_28, R_213_24, R_213_21, R_213_14, R_213_10, R_213_7, R_213_0, S_213, gd_t, bI_, bV_, bR_, and_self, and_true, true_and, ↓reduceIte, eq_self, oj_84, bI_1, bI_0, L0, L1, L2, L3, L4, L5, L94196, L1960177, L6943085, L10160456, L10989714, L284079062, le_t, le_f, lt_t, lt_f, eq_t, eq_f, ncl, nI_add, nmul, nsub, ndiv, nrem, nrem', nrN, Wd0, Wd1, Wd2, Wd3, Wd4, Wd5, m_214t q, m_214f q]
  · intro c
    simp (disch := omega) only [R_213_84, R_213_80, R_213_77, R_213_70, R_213_66, R_213_63, R_213_56, R_213_52, R_213_49, R_213_42, R_213_38, R_213_35, R_213_28, R_213_24, R_213_21, R_213_14, R_213_10, R_213_7, R_213_0, S_213, gd_t, bI_, bV_, bR_, and_self, and_true, true_and, ↓reduceIte, eq_self, oj_84, bI_1, bI_0, L0, L1, L2, L3, L4, L5, L94196, L1960177, L6943085, L10160456, L10989714, L284079062, le_t, le_f, lt_t, lt_f, eq_t, eq_f, ncl, nI_add, nmul, nsub, ndiv, nrem, nrem', nrN, Wd0, Wd1, Wd2, Wd3, Wd4, Wd5, m_214t q, m_214f q]
theorem s_223 {N : Nat} {T : Nat → Nat} {h : Hp} {t : Tok} {R : List Tok} (q : MS N T h t R) : (6 ≤ t.1 ∧ t.1 ≤ 8 → S_223 h = some (nI (t.1 - 6), h)) ∧ (¬ (6 ≤ t.1 ∧ t.1 ≤ 8) → S_223 h = some (-nI 1, h)) := by
  constructor
  · intro c
    rcases (show t.1 = 6 ∨ t.1 = 7 ∨ t.1 = 8 by omega) with e | e | e
    · rw [show t.1 - 6 = 0 by omega]
      simp (disch := omega) only [R_223_42, R_223_38, R_223_35, R_223_28, R_223_24, R_223_21, R_223_14, R_223_10, R_223_7, R_223_0, S_223, gd_t, bI_, bV_, bR_, and_self, and_true, true_and, ↓reduceIte, eq_self, oj_84, bI_1, bI_0, L0, L1, L2, L220309, L259906, L407038, le_t, le_f, lt_t, lt_f, eq_t, eq_f, ncl, nI_add, nmul, nsub, ndiv, nrem, nrem', nrN, Wd6, Wd7, Wd8, m_214t q, m_214f q]
    · rw [show t.1 - 6 = 1 by omega]
      simp (disch := omega) only [R_223_42, R_223_38, R_223_35, R_223_28, R_223_24, R_223_21, R_223_14, R_223_10, R_223_7, R_223_0, S_223, gd_t, bI_, bV_, bR_, and_self, and_true, true_and, ↓reduceIte, eq_self, oj_84, bI_1, bI_0, L0, L1, L2, L220309, L259906, L407038, le_t, le_f, lt_t, lt_f, eq_t, eq_f, ncl, nI_add, nmul, nsub, ndiv, nrem, nrem', nrN, Wd6, Wd7, Wd8, m_214t q, m_214f q]
    · rw [show t.1 - 6 = 2 by omega]
      simp (disch := omega) only [R_223_42, R_223_38, R_223_35, R_223_28, R_223_24, R_223_21, R_223_14, R_223_10, R_223_7, R_223_0, S_223, gd_t, bI_, bV_, bR_, and_self, and_true, true_and, ↓reduceIte, eq_self, oj_84, bI_1, bI_0, L0, L1, L2, L220309, L259906, L407038, le_t, le_f, lt_t, lt_f, eq_t, eq_f, ncl, nI_add, nmul, nsub, ndiv, nrem, nrem', nrN, Wd6, Wd7, Wd8, m_214t q, m_214f q]
  · intro c
    simp (disch := omega) only [R_223_42, R_223_38, R_223_35, R_223_28, R_223_24, R_223_21, R_223_14, R_223_10, R_223_7, R_223_0, S_223, gd_t, bI_, bV_, bR_, and_self, and_true, true_and, ↓reduceIte, eq_self, oj_84, bI_1, bI_0, L0, L1, L2, L220309, L259906, L407038, le_t, le_f, lt_t, lt_f, eq_t, eq_f, ncl, nI_add, nmul, nsub, ndiv, nrem, nrem', nrN, Wd6, Wd7, Wd8, m_214t q, m_214f q]
theorem s_223w {h : Hp} (q : h 84 12 = nI 1) : S_223 h = some (-nI 1, h) := by
  simp (disch := omega) only [R_223_42, R_223_38, R_223_35, R_223_28, R_223_24, R_223_21, R_223_14, R_223_10, R_223_7, R_223_0, S_223, gd_t, bI_, bV_, bR_, and_self, and_true, true_and, ↓reduceIte, eq_self, oj_84, bI_1, bI_0, L0, L1, L2, L220309, L259906, L407038, le_t, le_f, lt_t, lt_f, eq_t, eq_f, ncl, nI_add, nmul, nsub, ndiv, nrem, nrem', nrN, m_214w q]
theorem w_50 {h : Hp} {v1 v2 : Int32} (q : h 84 12 = nI 1) : R_212_50 v1 v2 h = some (nI 0, h) := by
  have e := fun x => m_gow (x := x) q
  simp (disch := omega) only [R_212_50, R_212_54, R_212_64, R_212_68, R_212_89, R_212_167, gd_t, bI_, bV_, bR_, and_self, and_true, true_and, ↓reduceIte, eq_self, oj_84, bI_1, bI_0, L0, L1, le_t, le_f, lt_t, lt_f, eq_t, eq_f, ncl, nI_add, nmul, nsub, ndiv, nrem, nrem', nrN, s_223w q, neg1lt, e, q]
theorem w_27 {h : Hp} {v1 : Int32} (q : h 84 12 = nI 1) : R_212_27 v1 h = some (nI 0, h) := by
  have e := fun x => m_214w (v := x) q
  simp (disch := omega) only [R_212_27, R_212_39, gd_t, bI_, bV_, bR_, and_self, and_true, true_and, ↓reduceIte, eq_self, oj_84, bI_1, bI_0, L0, L1, le_t, le_f, lt_t, lt_f, eq_t, eq_f, ncl, nI_add, nmul, nsub, ndiv, nrem, nrem', nrN, e, w_50 q]
