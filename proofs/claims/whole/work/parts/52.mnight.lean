/-! part 52: will, isMendable, actOfRest, does, nightGoes of the model -/
theorem MdAt.f0 {f : Nat → Int32} {s : Sg} {m : Mo} (q : MdAt f s m) {k : Nat} (hk : k < sN s) : f (35 + 5 * k + 0) = nI (sKind s k) := (q.2.2.2.2.2.2.2 k hk).1
theorem MdAt.f1 {f : Nat → Int32} {s : Sg} {m : Mo} (q : MdAt f s m) {k : Nat} (hk : k < sN s) : f (35 + 5 * k + 1) = nI (mTruth m k) := (q.2.2.2.2.2.2.2 k hk).2.1
theorem MdAt.f2 {f : Nat → Int32} {s : Sg} {m : Mo} (q : MdAt f s m) {k : Nat} (hk : k < sN s) : f (35 + 5 * k + 2) = nI (mPretty m k) := (q.2.2.2.2.2.2.2 k hk).2.2.1
theorem MdAt.f3 {f : Nat → Int32} {s : Sg} {m : Mo} (q : MdAt f s m) {k : Nat} (hk : k < sN s) : f (35 + 5 * k + 3) = nI (sPlace s k) := (q.2.2.2.2.2.2.2 k hk).2.2.2.1
theorem MdAt.f4 {f : Nat → Int32} {s : Sg} {m : Mo} (q : MdAt f s m) {k : Nat} (hk : k < sN s) : f (35 + 5 * k + 4) = nI (stB m k) := (q.2.2.2.2.2.2.2 k hk).2.2.2.2
/-- the model holds stage and moment, rules too -/
def SMd (h : Hp) (s : Sg) (m : Mo) : Prop := MdAt (h 85) s m ∧ RulesM (h 85) (sRules s)
/-- what going by of nights leaves as it was in the model -/
def MFr (h h' : Hp) : Prop := (∀ c, c ≠ 85 → c ≠ 88 → h' c = h c) ∧ ∀ j, (j = 0 ∨ j = 2 ∨ (5 ≤ j ∧ j < 35) ∨ 65 ≤ j) → h' 85 j = h 85 j
theorem MFr.rf {h : Hp} : MFr h h := ⟨fun _ _ _ => rfl, fun _ _ => rfl⟩
theorem MFr.tr {h h1 h2 : Hp} (a : MFr h h1) (b : MFr h1 h2) : MFr h h2 := ⟨fun c x y => (b.1 c x y).trans (a.1 c x y), fun j x => (b.2 j x).trans (a.2 j x)⟩
theorem MFr.of88 {h h' : Hp} (a : Same [88] h h') : MFr h h' := ⟨fun c _ y => a c (by simpa using y), fun j _ => by rw [a 85 (by decide)]⟩
theorem MFr.wr {h h' : Hp} {i : Nat} {x : Int32} (a : MFr h h') (hi : i = 1 ∨ i = 3 ∨ i = 4 ∨ (35 ≤ i ∧ i < 65)) : MFr h (wr h' 85 i x) := ⟨fun c e1 e2 => by rw [wr_c e1]; exact a.1 c e1 e2, fun j hj => by rw [wr_k (by omega)]; exact a.2 j hj⟩
theorem RulesM.congr {f f' : Nat → Int32} {rl : Rl} (a : RulesM f rl) (e : ∀ j, (j = 5 ∨ 89 ≤ j) → f' j = f j) : RulesM f' rl := by
  obtain ⟨h5, h8, b, Ls, hr⟩ := a
  refine ⟨by rw [e 5 (Or.inl rfl)]; exact h5, h8, b, Ls, fun i q hq => ?_⟩
  obtain ⟨r1, r2, r3, r4, r5, r6, r7, r8, r9⟩ := hr i q hq
  refine ⟨by rw [e _ (by omega)]; exact r1, r2, by rw [e _ (by omega)]; exact r3, r4, by rw [e _ (by omega)]; exact r5, by rw [e _ (by omega)]; exact r6, r7, fun j v hv => ?_, r9⟩
  rw [e _ (by omega)]
  exact r8 j v hv
theorem SMd.rules {h h' : Hp} {s : Sg} {m : Mo} (q : SMd h s m) (a : MFr h h') : RulesM (h' 85) (sRules s) := q.2.congr (fun j hj => a.2 j (by omega))
theorem SMd.same {h h' : Hp} {s : Sg} {m : Mo} (q : SMd h s m) (a : Same [88] h h') : SMd h' s m := by
  unfold SMd
  rw [a 85 (by decide)]
  exact q
theorem MdAt.sc {f f' : Nat → Int32} {s : Sg} {m m' : Mo} (q : MdAt f s m) (h35 : ∀ j, j < 35 → f' j = f j) (hk : ∀ k, k < sN s → f' (35 + 5 * k + 0) = f (35 + 5 * k + 0) ∧ f' (35 + 5 * k + 3) = f (35 + 5 * k + 3)) (h1 : ∀ k, k < sN s → f' (35 + 5 * k + 1) = nI (mTruth m' k) ∧ f' (35 + 5 * k + 2) = nI (mPretty m' k) ∧ f' (35 + 5 * k + 4) = nI (stB m' k)) (e1 : mNight m' = mNight m) (e2 : mScore m' = mScore m) (e3 : mSeed m' = mSeed m) : MdAt f' s m' := by
  obtain ⟨a0, a1, a2, a3, a4, a5, a6, a7⟩ := q
  refine ⟨by rw [h35 _ (by omega)]; exact a0, by rw [h35 _ (by omega), e1]; exact a1, by rw [h35 _ (by omega)]; exact a2, by rw [h35 _ (by omega), e2]; exact a3, by rw [h35 _ (by omega), e3]; exact a4, fun t ht => by rw [h35 _ (by omega)]; exact a5 t ht, fun t ht => by rw [h35 _ (by omega), h35 _ (by omega)]; exact a6 t ht, fun k hk' => ?_⟩
  obtain ⟨b1, b2⟩ := hk k hk'
  obtain ⟨c1, c2, c3⟩ := h1 k hk'
  exact ⟨by rw [b1]; exact (a7 k hk').1, c1, c2, by rw [b2]; exact (a7 k hk').2.2.2.1, c3⟩
theorem s_192 {h : Hp} {a : Nat} (ha : a < 2147483648) : S_192 (nI a) h = some (nI (if a = 3 then 2 else if a = 5 then 4 else 0), h) := by
  by_cases c : a = 3
  · subst c; simp (disch := omega) only [R_192_18, R_192_14, R_192_9, R_192_5, R_192_0, S_192, gd_t, bI_, bV_, bR_, and_self, and_true, true_and, ↓reduceIte, eq_self, oj_84, bI_1, bI_0, L0, L1, L2, L3, L4, L5, le_t, le_f, lt_t, lt_f, eq_t, eq_f, ncl, nI_add, nmul, nsub, ndiv, nrem, nrem', nrN] <;> rfl
  · by_cases c2 : a = 5
    · subst c2; simp (disch := omega) only [R_192_18, R_192_14, R_192_9, R_192_5, R_192_0, S_192, gd_t, bI_, bV_, bR_, and_self, and_true, true_and, ↓reduceIte, eq_self, oj_84, bI_1, bI_0, L0, L1, L2, L3, L4, L5, le_t, le_f, lt_t, lt_f, eq_t, eq_f, ncl, nI_add, nmul, nsub, ndiv, nrem, nrem', nrN] <;> rfl
    · rw [if_neg c, if_neg c2]
      simp (disch := omega) only [R_192_18, R_192_14, R_192_9, R_192_5, R_192_0, S_192, gd_t, bI_, bV_, bR_, and_self, and_true, true_and, ↓reduceIte, eq_self, oj_84, bI_1, bI_0, L0, L1, L2, L3, L4, L5, le_t, le_f, lt_t, lt_f, eq_t, eq_f, ncl, nI_add, nmul, nsub, ndiv, nrem, nrem', nrN]
theorem isAs_iff : ∀ a, a < 6 → ∀ b, b < 6 → (isAsS a b = true ↔ (b = 0 ∨ b = a ∨ b = (if a = 3 then 2 else if a = 5 then 4 else 0))) := by decide +kernel
set_option maxRecDepth 100000 in
theorem s_191 {h : Hp} {s : Sg} {m : Mo} {k : Nat} (so : SgOk s) (mo : MoOk s m) (q : SMd h s m) (hk : k < sN s) : ∃ h', S_191 (nI k) h = some (nI (willS s m k), h') ∧ Same [88] h h' := by
  have hn := so.1
  obtain ⟨hk1, hk5, -⟩ := so.2.1 k hk
  obtain ⟨h5, h8, b, Ls, hr⟩ := q.2
  have loop : ∀ j r n : Nat, r + j = (sRules s).length → j < n → ∀ H, Same [88] h H → ∃ h', H_191_2 n (nI k) (nI r) H = some (nI (willR (sKind s k) (factsS s m k) ((sRules s).drop r)), h') ∧ Same [88] h h' := by
    intro j
    induction j with
    | zero =>
      intro r n e hj H sH
      obtain ⟨n, rfl⟩ : ∃ p, n = p + 1 := ⟨n - 1, by omega⟩
      have e85 : H 85 = h 85 := sH 85 (by decide)
      refine ⟨H, ?_, sH⟩
      rw [List.drop_eq_nil_of_le (by omega)]
      have er : r = (sRules s).length := by omega
      simp (disch := omega) only [H_191_2, R_191_105, R_191_99, R_191_85, R_191_82, R_191_51, R_191_48, R_191_45, R_191_38, R_191_35, R_191_28, R_191_12, R_191_2, R_191_0, S_191, gd_t, bI_, bV_, bR_, and_self, and_true, true_and, ↓reduceIte, eq_self, oj_84, bI_1, bI_0, L0, L1, L2, L3, L4, L5, L85, L89, le_t, le_f, lt_t, lt_f, eq_t, eq_f, ncl, nI_add, nmul, nsub, ndiv, nrem, nrem', nrN, ia_85, e85, h5, er]
      rfl
    | succ j ih =>
      intro r n e hj H sH
      obtain ⟨n, rfl⟩ : ∃ p, n = p + 1 := ⟨n - 1, by omega⟩
      have e85 : H 85 = h 85 := sH 85 (by decide)
      have hlt : r < (sRules s).length := by omega
      have qH := q.same sH
      have ed : (sRules s).drop r = (sRules s)[r] :: (sRules s).drop (r + 1) := List.drop_eq_getElem_cons hlt
      have hrr := hr r (sRules s)[r] (List.getElem?_eq_getElem hlt)
      rw [ed]
      generalize (sRules s)[r] = w at hrr
      obtain ⟨w1, w2, w3⟩ := w
      obtain ⟨r1, r2, r3, r4, r5, r6, r7, r8, r9⟩ := hrr
      dsimp only at r1 r2 r3 r4 r9
      have hia := isAs_iff (sKind s k) (by omega) w1 (by omega)
      have hab : (if sKind s k = 3 then 2 else if sKind s k = 5 then 4 else 0) < 5 := by (repeat' split) <;> omega
      have hof := s_192 (h := H) (a := sKind s k) (by omega)
      have ew : willR (sKind s k) (factsS s m k) ((w1, w2, w3) :: (sRules s).drop (r + 1)) = if isAsS (sKind s k) w1 && w3 (factsS s m k) then w2 else willR (sKind s k) (factsS s m k) ((sRules s).drop (r + 1)) := rfl
      rw [ew]
      generalize (if sKind s k = 3 then 2 else if sKind s k = 5 then 4 else 0) = ab at hab hof hia
      obtain ⟨H2, g1, g2⟩ := s_193 (h := H) so mo qH.1 hk r7 (by rw [e85]; exact r8) r9
      have nx := ih (r + 1) n (by omega) (by omega) H sH
      have nx2 := ih (r + 1) n (by omega) (by omega) H2 (sH.tr g2)
      have key : (w1 = 0 ∨ w1 = sKind s k ∨ w1 = ab) → ∃ h', bndI (S_193 (nI (b r)) (nI (b r + (Ls r).length)) (nI k) H) (R_191_82 (H_191_2 n) (nI k) (nI r)) = some (nI (if isAsS (sKind s k) w1 && w3 (factsS s m k) then w2 else willR (sKind s k) (factsS s m k) ((sRules s).drop (r + 1))), h') ∧ Same [88] h h' := by
        intro hh
        have e2 : H2 85 = h 85 := (sH.tr g2) 85 (by decide)
        rw [hia.mpr hh]
        cases hc : w3 (factsS s m k) with
        | true =>
          rw [hc] at g1
          refine ⟨H2, ?_, sH.tr g2⟩
          simp (disch := omega) only [g1, R_191_105, R_191_99, R_191_85, R_191_82, R_191_51, R_191_48, R_191_45, R_191_38, R_191_35, R_191_28, R_191_12, R_191_2, R_191_0, S_191, gd_t, bI_, bV_, bR_, and_self, and_true, true_and, ↓reduceIte, eq_self, oj_84, bI_1, bI_0, L0, L1, L2, L3, L4, L5, L85, L89, le_t, le_f, lt_t, lt_f, eq_t, eq_f, ncl, nI_add, nmul, nsub, ndiv, nrem, nrem', nrN, ia_85, e2, r3]
          rfl
        | false =>
          rw [hc] at g1
          simp (disch := omega) only [g1, R_191_105, R_191_99, R_191_85, R_191_82, R_191_51, R_191_48, R_191_45, R_191_38, R_191_35, R_191_28, R_191_12, R_191_2, R_191_0, S_191, gd_t, bI_, bV_, bR_, and_self, and_true, true_and, ↓reduceIte, eq_self, oj_84, bI_1, bI_0, L0, L1, L2, L3, L4, L5, L85, L89, le_t, le_f, lt_t, lt_f, eq_t, eq_f, ncl, nI_add, nmul, nsub, ndiv, nrem, nrem', nrN, ia_85, e2, r3]
          exact nx2
      by_cases c0 : w1 = 0
      · have key := key (Or.inl c0)
        simp (disch := omega) only [H_191_2, R_191_2, R_191_12, R_191_51, gd_t, bI_, bV_, bR_, and_self, and_true, true_and, ↓reduceIte, eq_self, oj_84, bI_1, bI_0, L0, L1, L2, L3, L4, L5, L85, L89, le_t, le_f, lt_t, lt_f, eq_t, eq_f, ncl, nI_add, nmul, nsub, ndiv, nrem, nrem', nrN, ia_85, e85, h5, r1, r5, r6]
        exact key
      · by_cases c1 : w1 = sKind s k
        · have key := key (Or.inr (Or.inl c1))
          simp (disch := omega) only [H_191_2, R_191_2, R_191_12, R_191_28, R_191_35, R_191_51, gd_t, bI_, bV_, bR_, and_self, and_true, true_and, ↓reduceIte, eq_self, oj_84, bI_1, bI_0, L0, L1, L2, L3, L4, L5, L85, L89, le_t, le_f, lt_t, lt_f, eq_t, eq_f, ncl, nI_add, nmul, nsub, ndiv, nrem, nrem', nrN, ia_85, e85, h5, r1, r5, r6, of0 qH.1 so]
          exact key
        · by_cases c2 : w1 = ab
          · have key := key (Or.inr (Or.inr c2))
            simp (disch := omega) only [H_191_2, R_191_2, R_191_12, R_191_28, R_191_35, R_191_38, R_191_45, R_191_48, R_191_51, gd_t, bI_, bV_, bR_, and_self, and_true, true_and, ↓reduceIte, eq_self, oj_84, bI_1, bI_0, L0, L1, L2, L3, L4, L5, L85, L89, le_t, le_f, lt_t, lt_f, eq_t, eq_f, ncl, nI_add, nmul, nsub, ndiv, nrem, nrem', nrN, ia_85, e85, h5, r1, r5, r6, of0 qH.1 so, hof]
            exact key
          · have hf : isAsS (sKind s k) w1 = false := by
              rw [← Bool.not_eq_true]
              intro hh
              rcases hia.mp hh with w | w | w
              · exact c0 w
              · exact c1 w
              · exact c2 w
            rw [hf]
            simp (disch := omega) only [H_191_2, R_191_105, R_191_99, R_191_85, R_191_82, R_191_51, R_191_48, R_191_45, R_191_38, R_191_35, R_191_28, R_191_12, R_191_2, R_191_0, S_191, gd_t, bI_, bV_, bR_, and_self, and_true, true_and, ↓reduceIte, eq_self, oj_84, bI_1, bI_0, L0, L1, L2, L3, L4, L5, L85, L89, le_t, le_f, lt_t, lt_f, eq_t, eq_f, ncl, nI_add, nmul, nsub, ndiv, nrem, nrem', nrN, ia_85, e85, h5, r1, r5, r6, of0 qH.1 so, hof]
            exact nx
  obtain ⟨h', g1, g2⟩ := loop (sRules s).length 0 fuL (by omega) (fuL_gt (by omega)) h Same.rf
  refine ⟨h', ?_, g2⟩
  simp (disch := omega) only [R_191_105, R_191_99, R_191_85, R_191_82, R_191_51, R_191_48, R_191_45, R_191_38, R_191_35, R_191_28, R_191_12, R_191_2, R_191_0, S_191, gd_t, bI_, bV_, bR_, and_self, and_true, true_and, ↓reduceIte, eq_self, oj_84, bI_1, bI_0, L0, L1, L2, L3, L4, L5, L85, L89, le_t, le_f, lt_t, lt_f, eq_t, eq_f, ncl, nI_add, nmul, nsub, ndiv, nrem, nrem', nrN]
  exact g1
theorem willS_le {s : Sg} {m : Mo} {k : Nat} {σ : Nat → Int32} (q : RulesM σ (sRules s)) : willS s m k ≤ 2 := willR_le (fun i q' hq => by
  obtain ⟨-, -, b, Ls, hrow⟩ := q
  exact (hrow i q' hq).2.2.2.1)
theorem s_190 {h : Hp} {s : Sg} {m : Mo} {k : Nat} (so : SgOk s) (mo : MoOk s m) (q : SMd h s m) (hk : k < sN s) : ∃ h', S_190 (nI k) h = some (bI (mayS s m k), h') ∧ Same [88] h h' := by
  have hn := so.1
  obtain ⟨h1, g1, s1⟩ := s_191 so mo q hk
  have hw := willS_le (m := m) (k := k) q.2
  have hl := learnsS_le so mo hk
  have q1 := q.same s1
  unfold mayS
  cases hb : (mSet m).testBit k with
  | true =>
    refine ⟨h, ?_, Same.rf⟩
    have hs : stB m k = 1 := by unfold stB; rw [hb]; rfl
    simp (disch := omega) only [R_190_29, R_190_25, R_190_22, R_190_17, R_190_14, R_190_9, R_190_6, R_190_0, S_190, gd_t, bI_, bV_, bR_, and_self, and_true, true_and, ↓reduceIte, eq_self, oj_84, bI_1, bI_0, L0, L1, L4, le_t, le_f, lt_t, lt_f, eq_t, eq_f, ncl, nI_add, nmul, nsub, ndiv, nrem, nrem', nrN, of4 q.1 so, hs]
    rfl
  | false =>
    refine ⟨h1, ?_, s1⟩
    have hs : stB m k = 0 := by unfold stB; rw [hb]; rfl
    by_cases c : willS s m k = 0
    · by_cases c2 : 0 < learnsS s m k
      · simp (disch := omega) only [R_190_29, R_190_25, R_190_22, R_190_17, R_190_14, R_190_9, R_190_6, R_190_0, S_190, gd_t, bI_, bV_, bR_, and_self, and_true, true_and, ↓reduceIte, eq_self, oj_84, bI_1, bI_0, L0, L1, L4, le_t, le_f, lt_t, lt_f, eq_t, eq_f, ncl, nI_add, nmul, nsub, ndiv, nrem, nrem', nrN, of4 q.1 so, hs, g1, c, s_181 so mo q1.1, decide_true]
        simp [c2, bI]; rfl
      · simp (disch := omega) only [R_190_29, R_190_25, R_190_22, R_190_17, R_190_14, R_190_9, R_190_6, R_190_0, S_190, gd_t, bI_, bV_, bR_, and_self, and_true, true_and, ↓reduceIte, eq_self, oj_84, bI_1, bI_0, L0, L1, L4, le_t, le_f, lt_t, lt_f, eq_t, eq_f, ncl, nI_add, nmul, nsub, ndiv, nrem, nrem', nrN, of4 q.1 so, hs, g1, c, s_181 so mo q1.1]
        simp [c2, bI]; rfl
    · simp (disch := omega) only [R_190_29, R_190_25, R_190_22, R_190_17, R_190_14, R_190_9, R_190_6, R_190_0, S_190, gd_t, bI_, bV_, bR_, and_self, and_true, true_and, ↓reduceIte, eq_self, oj_84, bI_1, bI_0, L0, L1, L4, le_t, le_f, lt_t, lt_f, eq_t, eq_f, ncl, nI_add, nmul, nsub, ndiv, nrem, nrem', nrN, of4 q.1 so, hs, g1]
      simp [c, bI]; rfl
theorem s_225 {h : Hp} {s : Sg} {m : Mo} (so : SgOk s) (mo : MoOk s m) (q : SMd h s m) : ∃ h', S_225 h = some (nI (actS s m), h') ∧ Same [88] h h' := by
  have hn := so.1
  have loop : ∀ j i n : Nat, i + j = sN s → j < n → ∀ H, Same [88] h H → ∃ h', H_225_2 n (nI i) H = some (nI (actF s m j i), h') ∧ Same [88] h h' := by
    intro j
    induction j with
    | zero =>
      intro i n e hj H sH
      obtain ⟨n, rfl⟩ : ∃ p, n = p + 1 := ⟨n - 1, by omega⟩
      refine ⟨H, ?_, sH⟩
      have := (q.same sH).1.n
      have e2 : i = sN s := by omega
      simp (disch := omega) only [H_225_2, R_225_30, R_225_24, R_225_20, R_225_17, R_225_12, R_225_2, R_225_0, S_225, gd_t, bI_, bV_, bR_, and_self, and_true, true_and, ↓reduceIte, eq_self, oj_84, bI_1, bI_0, L0, L1, L85, le_t, le_f, lt_t, lt_f, eq_t, eq_f, ncl, nI_add, nmul, nsub, ndiv, nrem, nrem', nrN, ia_85, this, e2]
      rfl
    | succ j ih =>
      intro i n e hj H sH
      obtain ⟨n, rfl⟩ : ∃ p, n = p + 1 := ⟨n - 1, by omega⟩
      have qH := q.same sH
      obtain ⟨H2, g1, g2⟩ := s_190 so mo qH (k := i) (by omega)
      have ea : actF s m (j + 1) i = if mayS s m i then i + 1 else actF s m j (i + 1) := rfl
      rw [ea]
      cases hy : mayS s m i with
      | true =>
        rw [hy] at g1
        refine ⟨H2, ?_, sH.tr g2⟩
        simp (disch := omega) only [H_225_2, R_225_30, R_225_24, R_225_20, R_225_17, R_225_12, R_225_2, R_225_0, S_225, gd_t, bI_, bV_, bR_, and_self, and_true, true_and, ↓reduceIte, eq_self, oj_84, bI_1, bI_0, L0, L1, L85, le_t, le_f, lt_t, lt_f, eq_t, eq_f, ncl, nI_add, nmul, nsub, ndiv, nrem, nrem', nrN, ia_85, qH.1.n, g1, if_true]
      | false =>
        rw [hy] at g1
        simp (disch := omega) only [H_225_2, R_225_30, R_225_24, R_225_20, R_225_17, R_225_12, R_225_2, R_225_0, S_225, gd_t, bI_, bV_, bR_, and_self, and_true, true_and, ↓reduceIte, eq_self, oj_84, bI_1, bI_0, L0, L1, L85, le_t, le_f, lt_t, lt_f, eq_t, eq_f, ncl, nI_add, nmul, nsub, ndiv, nrem, nrem', nrN, ia_85, qH.1.n, g1]
        exact ih (i + 1) n (by omega) (by omega) H2 (sH.tr g2)
  obtain ⟨h', g1, g2⟩ := loop (sN s) 0 fuL (by omega) (fuL_gt (by omega)) h Same.rf
  refine ⟨h', ?_, g2⟩
  simp (disch := omega) only [R_225_30, R_225_24, R_225_20, R_225_17, R_225_12, R_225_2, R_225_0, S_225, gd_t, bI_, bV_, bR_, and_self, and_true, true_and, ↓reduceIte, eq_self, oj_84, bI_1, bI_0, L0, L1, L85, le_t, le_f, lt_t, lt_f, eq_t, eq_f, ncl, nI_add, nmul, nsub, ndiv, nrem, nrem', nrN]
  exact g1
