/-! part 50: the model's row of numbers; what of, houseOf, learns .. of the model answer -/
def stB (m : Mo) (k : Nat) : Nat := ((mSet m).testBit k).toNat
/-- the model's row holds stage and moment (rules and reports apart) -/
def MdAt (f : Nat → Int32) (s : Sg) (m : Mo) : Prop := f 0 = nI (sN s) ∧ f 1 = nI (mNight m) ∧ f 2 = nI (sEnd s) ∧ f 3 = mScore m ∧ f 4 = mSeed m ∧ (∀ t, t < 16 → f (7 + t) = nI (sHouse s t)) ∧ (∀ i, i < 6 → f (23 + i) = nI (sLight s i) ∧ f (29 + i) = nI (sNoise s i)) ∧ (∀ k, k < sN s → f (35 + 5 * k + 0) = nI (sKind s k) ∧ f (35 + 5 * k + 1) = nI (mTruth m k) ∧ f (35 + 5 * k + 2) = nI (mPretty m k) ∧ f (35 + 5 * k + 3) = nI (sPlace s k) ∧ f (35 + 5 * k + 4) = nI (stB m k))
theorem MdAt.n {f : Nat → Int32} {s : Sg} {m : Mo} (q : MdAt f s m) : f 0 = nI (sN s) := q.1
theorem MdAt.night {f : Nat → Int32} {s : Sg} {m : Mo} (q : MdAt f s m) : f 1 = nI (mNight m) := q.2.1
theorem MdAt.end_ {f : Nat → Int32} {s : Sg} {m : Mo} (q : MdAt f s m) : f 2 = nI (sEnd s) := q.2.2.1
theorem MdAt.score {f : Nat → Int32} {s : Sg} {m : Mo} (q : MdAt f s m) : f 3 = mScore m := q.2.2.2.1
theorem MdAt.seed {f : Nat → Int32} {s : Sg} {m : Mo} (q : MdAt f s m) : f 4 = mSeed m := q.2.2.2.2.1
theorem MdAt.house {f : Nat → Int32} {s : Sg} {m : Mo} (q : MdAt f s m) {t : Nat} (h : t < 16) : f (7 + t) = nI (sHouse s t) := q.2.2.2.2.2.1 t h
theorem MdAt.light {f : Nat → Int32} {s : Sg} {m : Mo} (q : MdAt f s m) {t : Nat} (h : t < 6) : f (23 + t) = nI (sLight s t) := (q.2.2.2.2.2.2.1 t h).1
theorem MdAt.noise {f : Nat → Int32} {s : Sg} {m : Mo} (q : MdAt f s m) {t : Nat} (h : t < 6) : f (29 + t) = nI (sNoise s t) := (q.2.2.2.2.2.2.1 t h).2
theorem s_182 {h : Hp} {k w : Nat} (hk : k < 6) (hw : w < 5) : S_182 (nI k) (nI w) h = some (h 85 (35 + 5 * k + w), h) := by
  simp (disch := omega) only [R_182_0, S_182, gd_t, bI_, bV_, bR_, and_self, and_true, true_and, ↓reduceIte, eq_self, oj_84, bI_1, bI_0, L0, L1, L5, L35, L85, le_t, le_f, lt_t, lt_f, eq_t, eq_f, ncl, nI_add, nmul, nsub, ndiv, nrem, nrem', nrN, ia_85]
theorem of0 {h : Hp} {s : Sg} {m : Mo} (q : MdAt (h 85) s m) (so : SgOk s) {k : Nat} (hk : k < sN s) : S_182 (nI k) (nI 0) h = some (nI (sKind s k), h) := by
  have hn := so.1
  rw [s_182 (by omega) (by omega), (q.2.2.2.2.2.2.2 k hk).1]
theorem of1 {h : Hp} {s : Sg} {m : Mo} (q : MdAt (h 85) s m) (so : SgOk s) {k : Nat} (hk : k < sN s) : S_182 (nI k) (nI 1) h = some (nI (mTruth m k), h) := by
  have hn := so.1
  rw [s_182 (by omega) (by omega), (q.2.2.2.2.2.2.2 k hk).2.1]
theorem of2 {h : Hp} {s : Sg} {m : Mo} (q : MdAt (h 85) s m) (so : SgOk s) {k : Nat} (hk : k < sN s) : S_182 (nI k) (nI 2) h = some (nI (mPretty m k), h) := by
  have hn := so.1
  rw [s_182 (by omega) (by omega), (q.2.2.2.2.2.2.2 k hk).2.2.1]
theorem of3 {h : Hp} {s : Sg} {m : Mo} (q : MdAt (h 85) s m) (so : SgOk s) {k : Nat} (hk : k < sN s) : S_182 (nI k) (nI 3) h = some (nI (sPlace s k), h) := by
  have hn := so.1
  rw [s_182 (by omega) (by omega), (q.2.2.2.2.2.2.2 k hk).2.2.2.1]
theorem of4 {h : Hp} {s : Sg} {m : Mo} (q : MdAt (h 85) s m) (so : SgOk s) {k : Nat} (hk : k < sN s) : S_182 (nI k) (nI 4) h = some (nI (stB m k), h) := by
  have hn := so.1
  rw [s_182 (by omega) (by omega), (q.2.2.2.2.2.2.2 k hk).2.2.2.2]
theorem stB_le (m : Mo) (k : Nat) : stB m k ≤ 1 := by
  unfold stB
  cases (mSet m).testBit k <;> decide
theorem s_184 {h : Hp} {s : Sg} {m : Mo} {t : Nat} (q : MdAt (h 85) s m) (ht : t ≤ 16) : S_184 (nI t) h = some (nI (houseS s t), h) := by
  unfold houseS
  by_cases c : t < 16
  · simp (disch := omega) only [R_184_18, R_184_6, R_184_0, S_184, gd_t, bI_, bV_, bR_, and_self, and_true, true_and, ↓reduceIte, eq_self, oj_84, bI_1, bI_0, L0, L1, L7, L16, L85, le_t, le_f, lt_t, lt_f, eq_t, eq_f, ncl, nI_add, nmul, nsub, ndiv, nrem, nrem', nrN, ia_85, q.house, c]
  · simp (disch := omega) only [R_184_18, R_184_6, R_184_0, S_184, gd_t, bI_, bV_, bR_, and_self, and_true, true_and, ↓reduceIte, eq_self, oj_84, bI_1, bI_0, L0, L1, L7, L16, L85, le_t, le_f, lt_t, lt_f, eq_t, eq_f, ncl, nI_add, nmul, nsub, ndiv, nrem, nrem', nrN, ia_85, c]
theorem s_183 {h : Hp} {s : Sg} {m : Mo} (so : SgOk s) (mo : MoOk s m) (q : MdAt (h 85) s m) : S_183 h = some (nI (railS s (mNight m)), h) := by
  have hh := houseS_le so (mNight m)
  have ht := mo.2.2
  simp (disch := omega) only [R_183_10, R_183_0, S_183, gd_t, bI_, bV_, bR_, and_self, and_true, true_and, ↓reduceIte, eq_self, oj_84, bI_1, bI_0, L0, L1, L4, L85, le_t, le_f, lt_t, lt_f, eq_t, eq_f, ncl, nI_add, nmul, nsub, ndiv, nrem, nrem', nrN, ia_85, q.night, s_184 q, railS]
theorem s_186 {h : Hp} {a b : Nat} (ha : a < 2147483648) (hb : b < 2147483648) : S_186 (nI a) (nI 0) (nI b) h = some (nI (min a b), h) := by
  by_cases c : a ≤ b
  · simp (disch := omega) only [R_186_18, R_186_14, R_186_9, R_186_5, R_186_0, S_186, gd_t, bI_, bV_, bR_, and_self, and_true, true_and, ↓reduceIte, eq_self, oj_84, bI_1, bI_0, L0, L1, le_t, le_f, lt_t, lt_f, eq_t, eq_f, ncl, nI_add, nmul, nsub, ndiv, nrem, nrem', nrN, c, Nat.min_eq_left]
  · simp (disch := omega) only [R_186_18, R_186_14, R_186_9, R_186_5, R_186_0, S_186, gd_t, bI_, bV_, bR_, and_self, and_true, true_and, ↓reduceIte, eq_self, oj_84, bI_1, bI_0, L0, L1, le_t, le_f, lt_t, lt_f, eq_t, eq_f, ncl, nI_add, nmul, nsub, ndiv, nrem, nrem', nrN, c, Nat.min_eq_right]
theorem s_186' {h : Hp} {a c b : Nat} (ha : a < 1073741824) (hc : c < 1073741824) (hb : b < 1073741824) : S_186 (nI a - nI c) (nI 0) (nI b) h = some (nI (min (a - c) b), h) := by
  by_cases q : c ≤ a
  · rw [nsub q, s_186 (by omega) (by omega)]
  · have e1 : ¬ nI 0 ≤ nI a - nI c := by
      rw [Int32.le_iff_toInt_le, pk_sub_toInt ha hc]
      show ¬ (0 : Int) ≤ _
      omega
    have e2 : min (a - c) b = 0 := by omega
    simp (disch := omega) only [R_186_18, R_186_14, R_186_9, R_186_5, R_186_0, S_186, gd_t, bI_, bV_, bR_, and_self, and_true, true_and, ↓reduceIte, eq_self, oj_84, bI_1, bI_0, L0, L1, le_t, le_f, lt_t, lt_f, eq_t, eq_f, ncl, nI_add, nmul, nsub, ndiv, nrem, nrem', nrN, e1, e2]
theorem s_185 {h : Hp} {k r t n : Nat} (hk : 1 ≤ k) (hk5 : k ≤ 5) (hr : r ≤ 3) (ht : t ≤ 99) (hn : n ≤ 16) : S_185 (nI k) (nI r) (nI t) (nI n) h = some (nI (learnsK k r t n), h) := by
  have hm1 : min (8 * r - 3) 99 = 8 * r - 3 := by omega
  have hm2 : min (4 * r - 3) 99 = 4 * r - 3 := by omega
  rcases (show k = 1 ∨ k = 2 ∨ k = 3 ∨ k = 4 ∨ k = 5 by omega) with rfl | rfl | rfl | rfl | rfl <;> by_cases h4 : t ≤ 40 <;> by_cases h5 : n % 2 = 1 <;> (simp (disch := omega) only [R_185_52, R_185_62, R_185_75, R_185_65, R_185_76, R_185_93, R_185_89, R_185_82, R_185_99, R_185_12, R_185_6, R_185_0, S_185, gd_t, bI_, bV_, bR_, and_self, and_true, true_and, ↓reduceIte, eq_self, oj_84, bI_1, bI_0, L0, L1, L2, L3, L4, L5, L8, L10, L40, L99, le_t, le_f, lt_t, lt_f, eq_t, eq_f, ncl, nI_add, nmul, nsub, ndiv, nrem, nrem', nrN, s_186', learnsK, h4, h5, hm1, hm2]) <;> rfl
theorem leansS_s (s : Sg) (m : Mo) (k i : Nat) : leansS s m k (i + 1) = leansS s m k i + (if (mSet m).testBit i ∧ sPlace s i + 1 = sPlace s k then 1 else 0) := rfl
theorem drawnS_s (s : Sg) (m : Mo) (i : Nat) : drawnS s m (i + 1) = drawnS s m i + drawsS s m i := rfl
theorem s_187 {h : Hp} {s : Sg} {m : Mo} {k : Nat} (so : SgOk s) (q : MdAt (h 85) s m) (hk : k < sN s) : S_187 (nI k) h = some (nI (leansS s m k (sN s)), h) := by
  have hn := so.1
  have hpk := (so.2.1 k hk).2.2
  have loop : ∀ j i n : Nat, i + j = sN s → j < n → H_187_4 n (nI k) (nI (leansS s m k i)) (nI i) h = some (nI (leansS s m k (sN s)), h) := by
    intro j
    induction j with
    | zero =>
      intro i n e hj
      obtain ⟨n, rfl⟩ : ∃ p, n = p + 1 := ⟨n - 1, by omega⟩
      have : i = sN s := by omega
      simp (disch := omega) only [H_187_4, R_187_55, R_187_46, R_187_42, R_187_37, R_187_31, R_187_25, R_187_21, R_187_14, R_187_4, R_187_0, S_187, gd_t, bI_, bV_, bR_, and_self, and_true, true_and, ↓reduceIte, eq_self, oj_84, bI_1, bI_0, L0, L1, L3, L4, L85, le_t, le_f, lt_t, lt_f, eq_t, eq_f, ncl, nI_add, nmul, nsub, ndiv, nrem, nrem', nrN, ia_85, q.n, this]
    | succ j ih =>
      intro i n e hj
      obtain ⟨n, rfl⟩ : ∃ p, n = p + 1 := ⟨n - 1, by omega⟩
      have hi : i < sN s := by omega
      have hpi := (so.2.1 i hi).2.2
      have := ih (i + 1) n (by omega) (by omega)
      rw [leansS_s] at this
      by_cases c : (mSet m).testBit i = true
      · have c1 : stB m i = 1 := by unfold stB; rw [c]; rfl
        by_cases c2 : sPlace s i + 1 = sPlace s k
        · rw [if_pos ⟨c, c2⟩] at this
          simp (disch := omega) only [H_187_4, R_187_55, R_187_46, R_187_42, R_187_37, R_187_31, R_187_25, R_187_21, R_187_14, R_187_4, R_187_0, S_187, gd_t, bI_, bV_, bR_, and_self, and_true, true_and, ↓reduceIte, eq_self, oj_84, bI_1, bI_0, L0, L1, L3, L4, L85, le_t, le_f, lt_t, lt_f, eq_t, eq_f, ncl, nI_add, nmul, nsub, ndiv, nrem, nrem', nrN, ia_85, q.n, of4 q so, of3 q so, c1]
          exact this
        · rw [if_neg (fun w => c2 w.2)] at this
          have c3 : ¬ nI (sPlace s i) = nI (sPlace s k) - nI 1 := fun w => c2 ((nI_eq (by omega) (by omega)).mp (by rw [← nI_1, w]; exact Int32.sub_add_cancel _ _))
          simp (disch := omega) only [H_187_4, R_187_55, R_187_46, R_187_42, R_187_37, R_187_31, R_187_25, R_187_21, R_187_14, R_187_4, R_187_0, S_187, gd_t, bI_, ↓reduceIte, L0, L1, L3, L4, le_f, eq_t, ncl, ia_85, q.n, of4 q so, of3 q so, c1, c3, nI_add]
          exact this
      · have c1 : stB m i = 0 := by unfold stB; rw [Bool.not_eq_true] at c; rw [c]; rfl
        rw [if_neg (fun w => c w.1)] at this
        simp (disch := omega) only [H_187_4, R_187_55, R_187_46, R_187_42, R_187_37, R_187_31, R_187_25, R_187_21, R_187_14, R_187_4, R_187_0, S_187, gd_t, bI_, bV_, bR_, and_self, and_true, true_and, ↓reduceIte, eq_self, oj_84, bI_1, bI_0, L0, L1, L3, L4, L85, le_t, le_f, lt_t, lt_f, eq_t, eq_f, ncl, nI_add, nmul, nsub, ndiv, nrem, nrem', nrN, ia_85, q.n, of4 q so, of3 q so, c1]
        exact this
  simp (disch := omega) only [R_187_55, R_187_46, R_187_42, R_187_37, R_187_31, R_187_25, R_187_21, R_187_14, R_187_4, R_187_0, S_187, gd_t, bI_, bV_, bR_, and_self, and_true, true_and, ↓reduceIte, eq_self, oj_84, bI_1, bI_0, L0, L1, L3, L4, L85, le_t, le_f, lt_t, lt_f, eq_t, eq_f, ncl, nI_add, nmul, nsub, ndiv, nrem, nrem', nrN]
  exact loop (sN s) 0 fuL (by omega) (fuL_gt (by omega))

theorem s_181 {h : Hp} {s : Sg} {m : Mo} {k : Nat} (so : SgOk s) (mo : MoOk s m) (q : MdAt (h 85) s m) (hk : k < sN s) : S_181 (nI k) h = some (nI (learnsS s m k), h) := by
  have hn := so.1
  obtain ⟨k1, k5, kp⟩ := so.2.1 k hk
  have ht := (mo.1 k hk).1
  have hh := houseS_le so (mNight m)
  have hr : railS s (mNight m) ≤ 3 := by unfold railS; omega
  have hnt := mo.2.2
  have hno := (so.2.2.2.1 (sPlace s k) (by omega)).2
  have l1 := learnsK_le (k := sKind s k) (n := mNight m) hr ht
  have l2 := leansS_le s m k (sN s)
  have hm : min (learnsK (sKind s k) (railS s (mNight m)) (mTruth m k) (mNight m) + 5 * leansS s m k (sN s) - sNoise s (sPlace s k)) 361 = learnsS s m k := by unfold learnsS; omega
  simp (disch := omega) only [R_181_55, R_181_45, R_181_31, R_181_25, R_181_16, R_181_10, R_181_6, R_181_0, S_181, gd_t, bI_, L0, L1, L3, L5, L29, L361, ncl, nI_add, nmul, ia_85, of0 q so, of1 q so, of3 q so, s_183 so mo q, q.night, s_185, s_187 so q, q.noise, s_186', hm]
theorem s_189 {h : Hp} {k p t n : Nat} (hk : 1 ≤ k) (hk5 : k ≤ 5) (hp : p ≤ 9) (ht : t ≤ 99) (hn : n ≤ 6) : S_189 (nI k) (nI p) (nI t) (nI n) h = some (nI (drawsK k p t n), h) := by
  have hm1 : min (10 + p - t / 9) 99 = 10 + p - t / 9 := by omega
  rcases (show k = 1 ∨ k = 2 ∨ k = 3 ∨ k = 4 ∨ k = 5 by omega) with rfl | rfl | rfl | rfl | rfl <;> (simp (disch := omega) only [R_189_52, R_189_55, R_189_60, R_189_67, R_189_72, R_189_79, R_189_15, R_189_0, S_189, gd_t, bI_, L0, L1, L2, L3, L4, L5, L9, L10, L99, ↓reduceIte, eq_t, eq_f, nI_add, nmul, ndiv, s_186', drawsK, hm1]) <;> rfl
theorem s_188 {h : Hp} {s : Sg} {m : Mo} {k : Nat} (so : SgOk s) (mo : MoOk s m) (q : MdAt (h 85) s m) (hk : k < sN s) : S_188 (nI k) h = some (nI (drawsS s m k), h) := by
  have hn := so.1
  obtain ⟨k1, k5, kp⟩ := so.2.1 k hk
  obtain ⟨ht, hp⟩ := mo.1 k hk
  simp (disch := omega) only [R_188_34, R_188_22, R_188_18, R_188_12, R_188_6, R_188_0, S_188, gd_t, bI_, bV_, bR_, and_self, and_true, true_and, ↓reduceIte, eq_self, oj_84, bI_1, bI_0, L0, L1, L2, L3, L23, L85, le_t, le_f, lt_t, lt_f, eq_t, eq_f, ncl, nI_add, nmul, nsub, ndiv, nrem, nrem', nrN, ia_85, of0 q so, of1 q so, of2 q so, of3 q so, s_189, q.light, drawsS]
theorem s_205 {h : Hp} {s : Sg} {m : Mo} (so : SgOk s) (mo : MoOk s m) (q : MdAt (h 85) s m) : S_205 h = some (bI (decide (sEnd s ≤ mNight m)), h) := by
  have hn := mo.2.2
  have he := so.2.2.2.2.2
  by_cases c : sEnd s ≤ mNight m <;> simp (disch := omega) only [R_205_19, R_205_15, R_205_0, S_205, gd_t, bI_, bV_, bR_, and_self, and_true, true_and, ↓reduceIte, eq_self, oj_84, bI_1, bI_0, L0, L1, L2, L85, le_t, le_f, lt_t, lt_f, eq_t, eq_f, ncl, nI_add, nmul, nsub, ndiv, nrem, nrem', nrN, ia_85, q.night, q.end_, c, decide_true, decide_false, bI] <;> rfl
def truS (m : Mo) : Nat → Nat
  | 0 => 0
  | i + 1 => truS m i + mTruth m i
theorem truS_s (m : Mo) (i : Nat) : truS m (i + 1) = truS m i + mTruth m i := rfl
theorem truS_le {s : Sg} {m : Mo} (mo : MoOk s m) : ∀ i, i ≤ sN s → truS m i ≤ 99 * i
  | 0, _ => Nat.le_refl 0
  | i + 1, h => by
    have := truS_le mo i (by omega)
    have := (mo.1 i (by omega)).1
    rw [truS_s]
    omega
theorem s_207 {h : Hp} {s : Sg} {m : Mo} (so : SgOk s) (q : MdAt (h 85) s m) : S_207 h = some (nI (truS m (sN s)), h) := by
  have hn := so.1
  have loop : ∀ j i n : Nat, i + j = sN s → j < n → H_207_4 n (nI (truS m i)) (nI i) h = some (nI (truS m (sN s)), h) := by
    intro j
    induction j with
    | zero =>
      intro i n e hj
      obtain ⟨n, rfl⟩ : ∃ p, n = p + 1 := ⟨n - 1, by omega⟩
      have : i = sN s := by omega
      simp (disch := omega) only [H_207_4, R_207_29, R_207_21, R_207_14, R_207_4, R_207_0, S_207, gd_t, bI_, bV_, bR_, and_self, and_true, true_and, ↓reduceIte, eq_self, oj_84, bI_1, bI_0, L0, L1, L85, le_t, le_f, lt_t, lt_f, eq_t, eq_f, ncl, nI_add, nmul, nsub, ndiv, nrem, nrem', nrN, ia_85, q.n, this]
    | succ j ih =>
      intro i n e hj
      obtain ⟨n, rfl⟩ : ∃ p, n = p + 1 := ⟨n - 1, by omega⟩
      have := ih (i + 1) n (by omega) (by omega)
      rw [truS_s] at this
      simp (disch := omega) only [H_207_4, R_207_29, R_207_21, R_207_14, R_207_4, R_207_0, S_207, gd_t, bI_, bV_, bR_, and_self, and_true, true_and, ↓reduceIte, eq_self, oj_84, bI_1, bI_0, L0, L1, L85, le_t, le_f, lt_t, lt_f, eq_t, eq_f, ncl, nI_add, nmul, nsub, ndiv, nrem, nrem', nrN, ia_85, q.n, of1 q so]
      exact this
  simp (disch := omega) only [R_207_29, R_207_21, R_207_14, R_207_4, R_207_0, S_207, gd_t, bI_, bV_, bR_, and_self, and_true, true_and, ↓reduceIte, eq_self, oj_84, bI_1, bI_0, L0, L1, L85, le_t, le_f, lt_t, lt_f, eq_t, eq_f, ncl, nI_add, nmul, nsub, ndiv, nrem, nrem', nrN]
  exact loop (sN s) 0 fuL (by omega) (fuL_gt (by omega))
theorem seb : ∀ s, s < 64 → ∀ i, i < 6 → nI (s % 2 ^ i) ||| ((nI ((s.testBit i).toNat)) <<< ((nI i) &&& nI 31)) = nI (s % 2 ^ (i + 1)) := by decide +kernel
theorem s_206 {h : Hp} {s : Sg} {m : Mo} (so : SgOk s) (mo : MoOk s m) (q : MdAt (h 85) s m) : S_206 h = some (nI (mSet m), h) := by
  have hn := so.1
  have hs := mo.set so
  have hs2 := mo.2.1
  have loop : ∀ j i n : Nat, i + j = sN s → j < n → H_206_4 n (nI (mSet m % 2 ^ i)) (nI i) h = some (nI (mSet m), h) := by
    intro j
    induction j with
    | zero =>
      intro i n e hj
      obtain ⟨n, rfl⟩ : ∃ p, n = p + 1 := ⟨n - 1, by omega⟩
      have : i = sN s := by omega
      have h2 : mSet m % 2 ^ sN s = mSet m := Nat.mod_eq_of_lt hs2
      simp (disch := omega) only [H_206_4, R_206_31, R_206_21, R_206_14, R_206_4, R_206_0, S_206, gd_t, bI_, bV_, bR_, and_self, and_true, true_and, ↓reduceIte, eq_self, oj_84, bI_1, bI_0, L0, L1, L4, L31, L85, le_t, le_f, lt_t, lt_f, eq_t, eq_f, ncl, nI_add, nmul, nsub, ndiv, nrem, nrem', nrN, ia_85, q.n, this, h2]
    | succ j ih =>
      intro i n e hj
      obtain ⟨n, rfl⟩ : ∃ p, n = p + 1 := ⟨n - 1, by omega⟩
      have := ih (i + 1) n (by omega) (by omega)
      have e3 := seb _ hs i (by omega)
      simp (disch := omega) only [H_206_4, R_206_31, R_206_21, R_206_14, R_206_4, R_206_0, S_206, gd_t, bI_, bV_, bR_, and_self, and_true, true_and, ↓reduceIte, eq_self, oj_84, bI_1, bI_0, L0, L1, L4, L31, L85, le_t, le_f, lt_t, lt_f, eq_t, eq_f, ncl, nI_add, nmul, nsub, ndiv, nrem, nrem', nrN, ia_85, q.n, of4 q so, stB, e3]
      exact this
  simp (disch := omega) only [R_206_31, R_206_21, R_206_14, R_206_4, R_206_0, S_206, gd_t, bI_, bV_, bR_, and_self, and_true, true_and, ↓reduceIte, eq_self, oj_84, bI_1, bI_0, L0, L1, L4, L31, L85, le_t, le_f, lt_t, lt_f, eq_t, eq_f, ncl, nI_add, nmul, nsub, ndiv, nrem, nrem', nrN]
  have := loop (sN s) 0 fuL (by omega) (fuL_gt (by omega))
  rwa [show mSet m % 2 ^ 0 = 0 by omega] at this
