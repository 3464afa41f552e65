/-! part 54: the class: isSettled, learns, draws, rules at work, will, mayBeMended, actOfRest -/
theorem SgAt.n {h : Hp} {s : Sg} (q : SgAt h s) : h 1 7 = nI (sN s) := q.1
theorem SgAt.kind {h : Hp} {s : Sg} (q : SgAt h s) {k : Nat} (hk : k < sN s) : h 2 k = nI (sKind s k) := (q.2.1 k hk).1
theorem SgAt.place {h : Hp} {s : Sg} (q : SgAt h s) {k : Nat} (hk : k < sN s) : h 3 k = nI (sPlace s k) := (q.2.1 k hk).2
theorem SgAt.house {h : Hp} {s : Sg} (q : SgAt h s) {t : Nat} (ht : t < 16) : h 4 t = nI (sHouse s t) := q.2.2.1 t ht
theorem SgAt.light {h : Hp} {s : Sg} (q : SgAt h s) {f : Nat} (hf : f < 6) : h 5 f = nI (sLight s f) := (q.2.2.2.1 f hf).1
theorem SgAt.noise {h : Hp} {s : Sg} (q : SgAt h s) {f : Nat} (hf : f < 6) : h 6 f = nI (sNoise s f) := (q.2.2.2.1 f hf).2
theorem SgAt.end_ {h : Hp} {s : Sg} (q : SgAt h s) : h 1 8 = nI (sEnd s) := q.2.2.2.2
theorem MoAt.truth {h : Hp} {a : Nat} {s : Sg} {m : Mo} (q : MoAt h a s m) {k : Nat} (hk : k < sN s) : h (a + 1) k = nI (mTruth m k) := (q.1 k hk).1
theorem MoAt.pretty {h : Hp} {a : Nat} {s : Sg} {m : Mo} (q : MoAt h a s m) {k : Nat} (hk : k < sN s) : h (a + 2) k = nI (mPretty m k) := (q.1 k hk).2
theorem MoAt.set {h : Hp} {a : Nat} {s : Sg} {m : Mo} (q : MoAt h a s m) : h a 2 = nI (mSet m) := q.2.1
theorem MoAt.night {h : Hp} {a : Nat} {s : Sg} {m : Mo} (q : MoAt h a s m) : h a 3 = nI (mNight m) := q.2.2.1
theorem MoAt.score {h : Hp} {a : Nat} {s : Sg} {m : Mo} (q : MoAt h a s m) : h a 4 = mScore m := q.2.2.2.1
theorem MoAt.seed {h : Hp} {a : Nat} {s : Sg} {m : Mo} (q : MoAt h a s m) : h a 5 = mSeed m := q.2.2.2.2
theorem s_15 {h : Hp} {a k : Nat} {s : Sg} {m : Mo} (hid : MoId a) (q : MoAt h a s m) (hs : mSet m < 64) (hk : k < 6) : S_15 a (nI k) h = some (nI (stB m k), h) := by
  unfold stB
  cases c : (mSet m).testBit k <;> simp (disch := omega) only [R_15_16, R_15_12, R_15_0, S_15, gd_t, bI_, bV_, bR_, and_self, and_true, true_and, ↓reduceIte, eq_self, oj_84, bI_1, bI_0, L0, L1, L2, L3, L31, le_t, le_f, lt_t, lt_f, eq_t, eq_f, ncl, nI_add, nmul, nsub, ndiv, nrem, nrem', nrN, hid.1, q.set, nset', c, Bool.toNat_true, Bool.toNat_false]
theorem s_17 {h : Hp} {t : Nat} {s : Sg} (so : SgOk s) (hs : SgAt h s) (ht : t ≤ 16) : S_17 (nI t) h = some (nI (railS s t), h) := by
  unfold railS houseS
  by_cases c : t < 16
  · have := so.2.2.1 t c
    simp (disch := omega) only [R_17_21, R_17_10, R_17_4, R_17_0, S_17, gd_t, bI_, bV_, bR_, and_self, and_true, true_and, ↓reduceIte, eq_self, oj_84, bI_1, bI_0, L0, L1, L4, L16, le_t, le_f, lt_t, lt_f, eq_t, eq_f, ncl, nI_add, nmul, nsub, ndiv, nrem, nrem', nrN, ia_4, hs.house, c, if_true]
  · simp (disch := omega) only [R_17_21, R_17_10, R_17_4, R_17_0, S_17, gd_t, bI_, bV_, bR_, and_self, and_true, true_and, ↓reduceIte, eq_self, oj_84, bI_1, bI_0, L0, L1, L4, L16, le_t, le_f, lt_t, lt_f, eq_t, eq_f, ncl, nI_add, nmul, nsub, ndiv, nrem, nrem', nrN, ia_4, c, if_false] <;> rfl
theorem s_39 {h : Hp} {t : Nat} {s : Sg} (so : SgOk s) (hs : SgAt h s) (ht : t ≤ 16) : S_39 (nI t) h = some (nI (houseS s t), h) := by
  unfold houseS
  by_cases c : t < 16
  · have := so.2.2.1 t c
    simp (disch := omega) only [R_39_19, R_39_10, R_39_4, R_39_0, S_39, gd_t, bI_, bV_, bR_, and_self, and_true, true_and, ↓reduceIte, eq_self, oj_84, bI_1, bI_0, L0, L1, L4, L16, le_t, le_f, lt_t, lt_f, eq_t, eq_f, ncl, nI_add, nmul, nsub, ndiv, nrem, nrem', nrN, ia_4, hs.house, c, if_true]
  · simp (disch := omega) only [R_39_19, R_39_10, R_39_4, R_39_0, S_39, gd_t, bI_, bV_, bR_, and_self, and_true, true_and, ↓reduceIte, eq_self, oj_84, bI_1, bI_0, L0, L1, L4, L16, le_t, le_f, lt_t, lt_f, eq_t, eq_f, ncl, nI_add, nmul, nsub, ndiv, nrem, nrem', nrN, ia_4, c, if_false]
theorem s_18 {h : Hp} {k r t n : Nat} (hk : 1 ≤ k) (hk5 : k ≤ 5) (hr : r ≤ 3) (ht : t ≤ 99) (hn : n ≤ 16) : S_18 (nI k) (nI r) (nI t) (nI n) h = some (nI (learnsK k r t n), h) := by
  have h84 : 8 * r / 2 = 4 * r := by omega
  rcases (show k = 1 ∨ k = 2 ∨ k = 3 ∨ k = 4 ∨ k = 5 by omega) with rfl | rfl | rfl | rfl | rfl <;> by_cases h4 : t ≤ 40 <;> by_cases h5 : n % 2 = 1 <;> (simp (disch := omega) only [R_18_64, R_18_72, R_18_75, R_18_84, R_18_98, R_18_94, R_18_87, R_18_101, R_18_19, R_18_12, R_18_0, S_18, gd_t, bI_, bV_, bR_, and_self, and_true, true_and, ↓reduceIte, eq_self, oj_84, bI_1, bI_0, L0, L1, L2, L3, L4, L5, L8, L10, L40, le_t, le_f, lt_t, lt_f, eq_t, eq_f, ncl, nI_add, nmul, nsub, ndiv, nrem, nrem', nrN, nmax0, learnsK, h4, h5, h84]) <;> rfl
theorem s_22 {h : Hp} {k p t n : Nat} (hk : 1 ≤ k) (hk5 : k ≤ 5) (hp : p ≤ 9) (ht : t ≤ 99) (hn : n ≤ 6) : S_22 (nI k) (nI p) (nI t) (nI n) h = some (nI (drawsK k p t n), h) := by
  rcases (show k = 1 ∨ k = 2 ∨ k = 3 ∨ k = 4 ∨ k = 5 by omega) with rfl | rfl | rfl | rfl | rfl <;> (simp (disch := omega) only [R_22_52, R_22_55, R_22_60, R_22_67, R_22_72, R_22_79, R_22_0, S_22, gd_t, bI_, bV_, bR_, and_self, and_true, true_and, ↓reduceIte, eq_self, oj_84, bI_1, bI_0, L0, L1, L2, L3, L4, L5, L9, L10, le_t, le_f, lt_t, lt_f, eq_t, eq_f, ncl, nI_add, nmul, nsub, ndiv, nrem, nrem', nrN, nmax0, drawsK]) <;> rfl
set_option maxHeartbeats 1000000 in
theorem s_26 {h : Hp} {a b : Nat} (ha : a < 6) (hb : b < 6) : S_26 (nI a) (nI b) h = some (bI (isAsS a b), h) := by
  rcases (show a = 0 ∨ a = 1 ∨ a = 2 ∨ a = 3 ∨ a = 4 ∨ a = 5 by omega) with rfl | rfl | rfl | rfl | rfl | rfl <;> rcases (show b = 0 ∨ b = 1 ∨ b = 2 ∨ b = 3 ∨ b = 4 ∨ b = 5 by omega) with rfl | rfl | rfl | rfl | rfl | rfl <;> (simp (disch := omega) only [R_26_9, R_26_35, R_26_31, R_26_26, R_26_21, R_26_16, R_26_11, R_26_5, R_26_0, S_26, gd_t, bI_, bV_, bR_, and_self, and_true, true_and, ↓reduceIte, eq_self, oj_84, bI_1, bI_0, L0, L1, L2, L3, L4, L5, le_t, le_f, lt_t, lt_f, eq_t, eq_f, ncl, nI_add, nmul, nsub, ndiv, nrem, nrem', nrN]) <;> rfl
theorem s_20 {h : Hp} {a k : Nat} {s : Sg} {m : Mo} (hid : MoId a) (so : SgOk s) (mo : MoOk s m) (hs : SgAt h s) (hm : MoAt h a s m) (hk : k < sN s) : S_20 a (nI k) h = some (nI (leansS s m k (sN s)), h) := by
  have hn := so.1
  have hset := mo.set so
  have hpk := (so.2.1 k hk).2.2
  have loop : ∀ j i n : Nat, i + j = sN s → j < n → H_20_5 n a (nI k) (nI (leansS s m k i)) (nI i) h = some (nI (leansS s m k (sN s)), h) := by
    intro j
    induction j with
    | zero =>
      intro i n e hj
      obtain ⟨n, rfl⟩ : ∃ p, n = p + 1 := ⟨n - 1, by omega⟩
      have : i = sN s := by omega
      simp (disch := omega) only [H_20_5, R_20_50, R_20_44, R_20_41, R_20_23, R_20_20, R_20_14, R_20_5, R_20_0, S_20, gd_t, bI_, bV_, bR_, and_self, and_true, true_and, ↓reduceIte, eq_self, oj_84, bI_1, bI_0, L0, L1, L3, L7, le_t, le_f, lt_t, lt_f, eq_t, eq_f, ncl, nI_add, nmul, nsub, ndiv, nrem, nrem', nrN, hs.n, this]
    | succ j ih =>
      intro i n e hj
      obtain ⟨n, rfl⟩ : ∃ p, n = p + 1 := ⟨n - 1, by omega⟩
      have hi : i < sN s := by omega
      have hpi := (so.2.1 i hi).2.2
      have := ih (i + 1) n (by omega) (by omega)
      rw [leansS_s] at this
      by_cases c : (mSet m).testBit i = true
      · have c1 : stB m i = 1 := by unfold stB; rw [c]; rfl
        by_cases c2 : sPlace s i + 1 = sPlace s k
        · rw [if_pos ⟨c, c2⟩] at this
          simp (disch := omega) only [H_20_5, R_20_50, R_20_44, R_20_41, R_20_23, R_20_20, R_20_14, R_20_5, R_20_0, S_20, gd_t, bI_, bV_, bR_, and_self, and_true, true_and, ↓reduceIte, eq_self, oj_84, bI_1, bI_0, L0, L1, L3, L7, le_t, le_f, lt_t, lt_f, eq_t, eq_f, ncl, nI_add, nmul, nsub, ndiv, nrem, nrem', nrN, hid.1, hs.n, s_15 hid hm, c1, ia_3, hs.place]
          exact this
        · rw [if_neg (fun w => c2 w.2), Nat.add_zero] at this
          have c3 : ¬ nI (sPlace s i) = nI (sPlace s k) - nI 1 := fun w => c2 ((nI_eq (by omega) (by omega)).mp (by rw [← nI_1, w]; exact Int32.sub_add_cancel _ _))
          simp (disch := omega) only [H_20_5, R_20_50, R_20_44, R_20_41, R_20_23, R_20_20, R_20_14, R_20_5, R_20_0, S_20, gd_t, bI_, and_self, eq_self, ↓reduceIte, L0, L1, le_f, eq_f, ncl, hid.1, hs.n, s_15 hid hm, c1, c3, ia_3, hs.place, nI_add]
          exact this
      · have c1 : stB m i = 0 := by unfold stB; rw [Bool.not_eq_true] at c; rw [c]; rfl
        rw [if_neg (fun w => c w.1), Nat.add_zero] at this
        simp (disch := omega) only [H_20_5, R_20_50, R_20_44, R_20_41, R_20_23, R_20_20, R_20_14, R_20_5, R_20_0, S_20, gd_t, bI_, bV_, bR_, and_self, and_true, true_and, ↓reduceIte, eq_self, oj_84, bI_1, bI_0, L0, L1, L3, L7, le_t, le_f, lt_t, lt_f, eq_t, eq_f, ncl, nI_add, nmul, nsub, ndiv, nrem, nrem', nrN, hid.1, hs.n, s_15 hid hm, c1]
        exact this
  simp (disch := omega) only [R_20_50, R_20_44, R_20_41, R_20_23, R_20_20, R_20_14, R_20_5, R_20_0, S_20, gd_t, bI_, bV_, bR_, and_self, and_true, true_and, ↓reduceIte, eq_self, oj_84, bI_1, bI_0, L0, L1, L3, L7, le_t, le_f, lt_t, lt_f, eq_t, eq_f, ncl, nI_add, nmul, nsub, ndiv, nrem, nrem', nrN]
  exact loop (sN s) 0 fuL (by omega) (fuL_gt (by omega))
theorem s_16 {h : Hp} {a k : Nat} {s : Sg} {m : Mo} (hid : MoId a) (so : SgOk s) (mo : MoOk s m) (hs : SgAt h s) (hm : MoAt h a s m) (hk : k < sN s) : S_16 a (nI k) h = some (nI (learnsS s m k), h) := by
  have hn := so.1
  obtain ⟨k1, k5, kp⟩ := so.2.1 k hk
  have ht := (mo.1 k hk).1
  have hh := houseS_le so (mNight m)
  have hr : railS s (mNight m) ≤ 3 := by unfold railS; omega
  have hnt := mo.2.2
  have hno := (so.2.2.2.1 (sPlace s k) (by omega)).2
  have l1 := learnsK_le (k := sKind s k) (n := mNight m) hr ht
  have l2 := leansS_le s m k (sN s)
  simp (disch := omega) only [R_16_37, R_16_27, R_16_14, R_16_0, S_16, gd_t, bI_, bV_, bR_, and_self, and_true, true_and, ↓reduceIte, eq_self, oj_84, bI_1, bI_0, L0, L1, L2, L3, L5, L6, ncl, nI_add, nmul, nmax0, hid.1, iaT hid, ia_2, ia_3, ia_6, hs.kind, hs.place, hs.noise, hm.night, hm.truth, s_17 so hs, s_18, s_20 hid so mo hs hm]
  rfl
theorem s_21 {h : Hp} {a k : Nat} {s : Sg} {m : Mo} (hid : MoId a) (so : SgOk s) (mo : MoOk s m) (hs : SgAt h s) (hm : MoAt h a s m) (hk : k < sN s) : S_21 a (nI k) h = some (nI (drawsS s m k), h) := by
  have hn := so.1
  obtain ⟨k1, k5, kp⟩ := so.2.1 k hk
  obtain ⟨ht, hp⟩ := mo.1 k hk
  simp (disch := omega) only [R_21_22, R_21_0, S_21, gd_t, bI_, bV_, bR_, and_self, and_true, true_and, ↓reduceIte, eq_self, oj_84, bI_1, bI_0, L0, L1, L2, L3, L5, le_t, le_f, lt_t, lt_f, eq_t, eq_f, ncl, nI_add, nmul, nsub, ndiv, nrem, nrem', nrN, hid.1, iaT hid, iaP hid, ia_2, ia_3, ia_5, hs.kind, hs.place, hs.light, hm.pretty, hm.truth, s_22]
  rfl
theorem evL_10 {f : Nat → Nat} {t : List Nat} {P : Nat} : evL f (10 :: t) P = evL f t (2 * (P / 2) + (1 - P % 2)) := by rw [evL.eq_def]; rfl
theorem evL_11 {f : Nat → Nat} {t : List Nat} {P : Nat} : evL f (11 :: t) P = evL f t (2 * (P / 4) + (P / 2 % 2) * (P % 2)) := by rw [evL.eq_def]; rfl
theorem evL_12 {f : Nat → Nat} {t : List Nat} {P : Nat} : evL f (12 :: t) P = evL f t (2 * (P / 4) + (P / 2 % 2 + P % 2 - (P / 2 % 2) * (P % 2))) := by rw [evL.eq_def]; rfl
theorem evL_op {f : Nat → Nat} {c a b P : Nat} {u : List Nat} (h1 : ¬ c = 10) (h2 : ¬ c = 11) (h3 : ¬ c = 12) : evL f (c :: a :: b :: u) P = if 20 ≤ c ∧ c ≤ 22 ∧ a < 10005 ∧ b < 10005 ∧ P < 1024 then evL f u (2 * P + (cmL c (vaL f a) (vaL f b)).toNat) else none := by
  rw [evL.eq_def]
  simp only [h1, h2, h3, if_false]
theorem SegAt.tl {σ : Nat → Int32} {i c : Nat} {t : List Nat} (a : SegAt σ i (c :: t)) : SegAt σ (i + 1) t := fun j v hj => by
  have := a (j + 1) v (by simpa using hj)
  rwa [show i + (j + 1) = i + 1 + j by omega] at this
theorem sb_n4 {a : Nat} (h : a < 10000) : (nI a - nI 10000 < nI 0) = True := eq_true (pk_sneg (by decide) h)
set_option maxRecDepth 100000 in
set_option maxHeartbeats 4000000 in
theorem hold_c {h : Hp} {f : Nat → Nat} {to : Nat} (hto : to ≤ 200) (hf : ∀ j, j < 5 → h 12 j = nI (f j) ∧ f j < 2147483648) : ∀ (N : Nat) (L : List Nat) (i P R n : Nat), L.length ≤ N → i + L.length = to → L.length < n → P < 2048 → SegAt (h 11) i L → evL f L P = some R → H_27_15 n (nI to) 12 (nI P) (nI i) h = some (bI (R % 2 == 1), h) := by
  intro N
  have base : ∀ (P R n i : Nat), i = to → 0 < n → P < 2048 → P = R → H_27_15 n (nI to) 12 (nI P) (nI i) h = some (bI (R % 2 == 1), h) := by
    intro P R n i e hn hP hR
    obtain ⟨n, rfl⟩ : ∃ p, n = p + 1 := ⟨n - 1, by omega⟩
    subst hR
    have : P % 2 = 0 ∨ P % 2 = 1 := by omega
    rcases this with q | q <;> (simp (disch := omega) only [H_27_15, R_27_283, R_27_279, R_27_271, R_27_265, R_27_258, R_27_254, R_27_245, R_27_242, R_27_238, R_27_231, R_27_224, R_27_221, R_27_217, R_27_210, R_27_200, R_27_196, R_27_178, R_27_171, R_27_165, R_27_149, R_27_142, R_27_136, R_27_101, R_27_93, R_27_81, R_27_74, R_27_59, R_27_52, R_27_43, R_27_21, R_27_15, R_27_9, R_27_5, R_27_0, S_27, gd_t, bI_, bV_, bR_, and_self, and_true, true_and, ↓reduceIte, eq_self, oj_84, bI_1, bI_0, L0, L1, L2, L5, L10, L11, L12, L20, L22, L31, L10000, le_t, le_f, lt_t, lt_f, eq_t, eq_f, ncl, nI_add, nmul, nsub, ndiv, nrem, nrem', nrN, e, pn_top, q]) <;> rfl
  induction N with
  | zero =>
    intro L i P R n hl hi hn hP hs hev
    match L, hl, hev with
    | [], _, hev => exact base P R n i (by simpa using hi) (by omega) hP (Option.some.inj hev)
  | succ N ih =>
    intro L i P R n hl hi hn hP hs hev
    match L, hl, hi, hn, hs, hev with
    | [], _, hi, hn, _, hev => exact base P R n i (by simpa using hi) (by omega) hP (Option.some.inj hev)
    | c :: t, hl, hi, hn, hs, hev =>
      simp only [List.length_cons] at hl hi hn
      obtain ⟨n, rfl⟩ : ∃ p, n = p + 1 := ⟨n - 1, by omega⟩
      obtain ⟨c0, c1⟩ := hs 0 c rfl
      rw [Nat.add_zero] at c0
      have h01 : P / 2 % 2 = 0 ∨ P / 2 % 2 = 1 := by omega
      by_cases e1 : c = 10
      · subst e1
        rw [evL_10] at hev
        have g := ih t (i + 1) (2 * (P / 2) + (1 - P % 2)) R n (by omega) (by omega) (by omega) (by omega) hs.tl hev
        simp (disch := omega) only [H_27_15, R_27_283, R_27_279, R_27_271, R_27_265, R_27_258, R_27_254, R_27_245, R_27_242, R_27_238, R_27_231, R_27_224, R_27_221, R_27_217, R_27_210, R_27_200, R_27_196, R_27_178, R_27_171, R_27_165, R_27_149, R_27_142, R_27_136, R_27_101, R_27_93, R_27_81, R_27_74, R_27_59, R_27_52, R_27_43, R_27_21, R_27_15, R_27_9, R_27_5, R_27_0, S_27, gd_t, bI_, bV_, bR_, and_self, and_true, true_and, ↓reduceIte, eq_self, oj_84, bI_1, bI_0, L0, L1, L2, L5, L10, L11, L12, L20, L22, L31, L10000, le_t, le_f, lt_t, lt_f, eq_t, eq_f, ncl, nI_add, nmul, nsub, ndiv, nrem, nrem', nrN, ia_11, c0, pn_not]
        exact g
      · by_cases e2 : c = 11
        · subst e2
          rw [evL_11] at hev
          have g := ih t (i + 1) (2 * (P / 4) + (P / 2 % 2) * (P % 2)) R n (by omega) (by omega) (by omega) (by rcases h01 with w | w <;> rw [w] <;> omega) hs.tl hev
          simp (disch := omega) only [H_27_15, R_27_283, R_27_279, R_27_271, R_27_265, R_27_258, R_27_254, R_27_245, R_27_242, R_27_238, R_27_231, R_27_224, R_27_221, R_27_217, R_27_210, R_27_200, R_27_196, R_27_178, R_27_171, R_27_165, R_27_149, R_27_142, R_27_136, R_27_101, R_27_93, R_27_81, R_27_74, R_27_59, R_27_52, R_27_43, R_27_21, R_27_15, R_27_9, R_27_5, R_27_0, S_27, gd_t, bI_, bV_, bR_, and_self, and_true, true_and, ↓reduceIte, eq_self, oj_84, bI_1, bI_0, L0, L1, L2, L5, L10, L11, L12, L20, L22, L31, L10000, le_t, le_f, lt_t, lt_f, eq_t, eq_f, ncl, nI_add, nmul, nsub, ndiv, nrem, nrem', nrN, ia_11, c0, pn_and]
          exact g
        · by_cases e3 : c = 12
          · subst e3
            rw [evL_12] at hev
            have g := ih t (i + 1) (2 * (P / 4) + (P / 2 % 2 + P % 2 - (P / 2 % 2) * (P % 2))) R n (by omega) (by omega) (by omega) (by rcases h01 with w | w <;> rw [w] <;> omega) hs.tl hev
            simp (disch := omega) only [H_27_15, R_27_283, R_27_279, R_27_271, R_27_265, R_27_258, R_27_254, R_27_245, R_27_242, R_27_238, R_27_231, R_27_224, R_27_221, R_27_217, R_27_210, R_27_200, R_27_196, R_27_178, R_27_171, R_27_165, R_27_149, R_27_142, R_27_136, R_27_101, R_27_93, R_27_81, R_27_74, R_27_59, R_27_52, R_27_43, R_27_21, R_27_15, R_27_9, R_27_5, R_27_0, S_27, gd_t, bI_, bV_, bR_, and_self, and_true, true_and, ↓reduceIte, eq_self, oj_84, bI_1, bI_0, L0, L1, L2, L5, L10, L11, L12, L20, L22, L31, L10000, le_t, le_f, lt_t, lt_f, eq_t, eq_f, ncl, nI_add, nmul, nsub, ndiv, nrem, nrem', nrN, ia_11, c0, pn_or]
            exact g
          · match t, hl, hi, hn, hs, hev with
            | [], _, _, _, _, hev => rw [evL.eq_def] at hev; simp only [e1, e2, e3, if_false] at hev; cases hev
            | [_], _, _, _, _, hev => rw [evL.eq_def] at hev; simp only [e1, e2, e3, if_false] at hev; cases hev
            | a :: b :: u, hl, hi, hn, hs, hev =>
              rw [evL_op e1 e2 e3] at hev
              by_cases hc : 20 ≤ c ∧ c ≤ 22 ∧ a < 10005 ∧ b < 10005 ∧ P < 1024
              · rw [if_pos hc] at hev
                obtain ⟨p1, p2, pa, pb, pP⟩ := hc
                simp only [List.length_cons] at hl hi hn
                have ha0 := (hs.tl 0 a rfl).1
                have hb0 := (hs.tl.tl 0 b rfl).1
                rw [Nat.add_zero] at ha0 hb0
                have ha1 : h 11 (i + 1) = nI a := ha0
                have hb1 : h 11 (i + 2) = nI b := hb0
                have hva : vaL f a < 2147483648 := by
                  unfold vaL
                  split
                  · omega
                  · exact (hf (a - 10000) (by omega)).2
                have hvb : vaL f b < 2147483648 := by
                  unfold vaL
                  split
                  · omega
                  · exact (hf (b - 10000) (by omega)).2
                have key : ∀ z : Bool, z = cmL c (vaL f a) (vaL f b) → H_27_15 n (nI to) 12 (nI (2 * P + z.toNat)) (nI (i + 2 + 1)) h = some (bI (R % 2 == 1), h) := by
                  intro z hz
                  refine ih u (i + 2 + 1) _ R n (by omega) (by omega) (by omega) ?_ hs.tl.tl.tl (by rw [hz]; exact hev)
                  cases z <;> simp <;> omega
                have key1 : cmL c (vaL f a) (vaL f b) = true → H_27_15 n (nI to) 12 (nI (2 * P + 1)) (nI (i + 2 + 1)) h = some (bI (R % 2 == 1), h) := fun w => key true w.symm
                have key0 : cmL c (vaL f a) (vaL f b) = false → H_27_15 n (nI to) 12 (nI (2 * P + 0)) (nI (i + 2 + 1)) h = some (bI (R % 2 == 1), h) := fun w => key false w.symm
                have fin : ∀ x y : Nat, x < 2147483648 → y < 2147483648 → x = vaL f a → y = vaL f b → (if nI x = nI y then R_27_196 (H_27_15 n) (nI to) 12 (nI P) (nI i) (nI c) (nI x) (nI y) h else R_27_200 (H_27_15 n) (nI to) 12 (nI P) (nI i) (nI c) (nI x) (nI y) h) = some (bI (R % 2 == 1), h) := by
                  intro x y hx hy ex ey
                  rw [← ex, ← ey] at key1 key0
                  rcases (show c = 20 ∨ c = 21 ∨ c = 22 by omega) with rfl | rfl | rfl <;> rcases (show x < y ∨ x = y ∨ y < x by omega) with w | w | w
                  · simp (disch := omega) only [R_27_196, R_27_200, R_27_210, R_27_217, R_27_221, R_27_224, R_27_231, R_27_238, R_27_242, R_27_245, R_27_254, R_27_258, gd_t, bI_, bV_, bR_, and_self, and_true, true_and, ↓reduceIte, eq_self, oj_84, bI_1, bI_0, L0, L1, L2, L5, L10, L11, L12, L20, L22, L31, L10000, le_t, le_f, lt_t, lt_f, eq_t, eq_f, ncl, nI_add, nmul, nsub, ndiv, nrem, nrem', nrN, pn_p1, pn_p0, w]
                    exact key1 (by simp [cmL]; omega)
                  · subst w
                    simp (disch := omega) only [R_27_196, R_27_200, R_27_210, R_27_217, R_27_221, R_27_224, R_27_231, R_27_238, R_27_242, R_27_245, R_27_254, R_27_258, gd_t, bI_, bV_, bR_, and_self, and_true, true_and, ↓reduceIte, eq_self, oj_84, bI_1, bI_0, L0, L1, L2, L5, L10, L11, L12, L20, L22, L31, L10000, le_t, le_f, lt_t, lt_f, eq_t, eq_f, ncl, nI_add, nmul, nsub, ndiv, nrem, nrem', nrN, pn_p1, pn_p0]
                    exact key0 (by simp [cmL])
                  · simp (disch := omega) only [R_27_196, R_27_200, R_27_210, R_27_217, R_27_221, R_27_224, R_27_231, R_27_238, R_27_242, R_27_245, R_27_254, R_27_258, gd_t, bI_, bV_, bR_, and_self, and_true, true_and, ↓reduceIte, eq_self, oj_84, bI_1, bI_0, L0, L1, L2, L5, L10, L11, L12, L20, L22, L31, L10000, le_t, le_f, lt_t, lt_f, eq_t, eq_f, ncl, nI_add, nmul, nsub, ndiv, nrem, nrem', nrN, pn_p1, pn_p0, w]
                    exact key0 (by simp [cmL]; omega)
                  · simp (disch := omega) only [R_27_196, R_27_200, R_27_210, R_27_217, R_27_221, R_27_224, R_27_231, R_27_238, R_27_242, R_27_245, R_27_254, R_27_258, gd_t, bI_, bV_, bR_, and_self, and_true, true_and, ↓reduceIte, eq_self, oj_84, bI_1, bI_0, L0, L1, L2, L5, L10, L11, L12, L20, L22, L31, L10000, le_t, le_f, lt_t, lt_f, eq_t, eq_f, ncl, nI_add, nmul, nsub, ndiv, nrem, nrem', nrN, pn_p1, pn_p0, w]
                    exact key0 (by simp [cmL]; omega)
                  · subst w
                    simp (disch := omega) only [R_27_196, R_27_200, R_27_210, R_27_217, R_27_221, R_27_224, R_27_231, R_27_238, R_27_242, R_27_245, R_27_254, R_27_258, gd_t, bI_, bV_, bR_, and_self, and_true, true_and, ↓reduceIte, eq_self, oj_84, bI_1, bI_0, L0, L1, L2, L5, L10, L11, L12, L20, L22, L31, L10000, le_t, le_f, lt_t, lt_f, eq_t, eq_f, ncl, nI_add, nmul, nsub, ndiv, nrem, nrem', nrN, pn_p1, pn_p0]
                    exact key1 (by simp [cmL])
                  · simp (disch := omega) only [R_27_196, R_27_200, R_27_210, R_27_217, R_27_221, R_27_224, R_27_231, R_27_238, R_27_242, R_27_245, R_27_254, R_27_258, gd_t, bI_, bV_, bR_, and_self, and_true, true_and, ↓reduceIte, eq_self, oj_84, bI_1, bI_0, L0, L1, L2, L5, L10, L11, L12, L20, L22, L31, L10000, le_t, le_f, lt_t, lt_f, eq_t, eq_f, ncl, nI_add, nmul, nsub, ndiv, nrem, nrem', nrN, pn_p1, pn_p0, w]
                    exact key0 (by simp [cmL]; omega)
                  · simp (disch := omega) only [R_27_196, R_27_200, R_27_210, R_27_217, R_27_221, R_27_224, R_27_231, R_27_238, R_27_242, R_27_245, R_27_254, R_27_258, gd_t, bI_, bV_, bR_, and_self, and_true, true_and, ↓reduceIte, eq_self, oj_84, bI_1, bI_0, L0, L1, L2, L5, L10, L11, L12, L20, L22, L31, L10000, le_t, le_f, lt_t, lt_f, eq_t, eq_f, ncl, nI_add, nmul, nsub, ndiv, nrem, nrem', nrN, pn_p1, pn_p0, w]
                    exact key0 (by simp [cmL]; omega)
                  · subst w
                    simp (disch := omega) only [R_27_196, R_27_200, R_27_210, R_27_217, R_27_221, R_27_224, R_27_231, R_27_238, R_27_242, R_27_245, R_27_254, R_27_258, gd_t, bI_, bV_, bR_, and_self, and_true, true_and, ↓reduceIte, eq_self, oj_84, bI_1, bI_0, L0, L1, L2, L5, L10, L11, L12, L20, L22, L31, L10000, le_t, le_f, lt_t, lt_f, eq_t, eq_f, ncl, nI_add, nmul, nsub, ndiv, nrem, nrem', nrN, pn_p1, pn_p0]
                    exact key0 (by simp [cmL])
                  · simp (disch := omega) only [R_27_196, R_27_200, R_27_210, R_27_217, R_27_221, R_27_224, R_27_231, R_27_238, R_27_242, R_27_245, R_27_254, R_27_258, gd_t, bI_, bV_, bR_, and_self, and_true, true_and, ↓reduceIte, eq_self, oj_84, bI_1, bI_0, L0, L1, L2, L5, L10, L11, L12, L20, L22, L31, L10000, le_t, le_f, lt_t, lt_f, eq_t, eq_f, ncl, nI_add, nmul, nsub, ndiv, nrem, nrem', nrN, pn_p1, pn_p0, w]
                    exact key1 (by simp [cmL]; omega)
                have hfj : ∀ j, j < 5 → h 12 j = nI (f j) := fun j hj => (hf j hj).1
                by_cases qa : a < 10000 <;> by_cases qb : b < 10000
                · have g := fin a b (by omega) (by omega) (by unfold vaL; rw [if_pos qa]) (by unfold vaL; rw [if_pos qb])
                  simp (disch := omega) only [H_27_15, R_27_15, R_27_21, R_27_52, R_27_74, R_27_93, R_27_101, R_27_136, R_27_142, R_27_149, R_27_165, R_27_171, R_27_178, gd_t, bI_, bV_, bR_, and_self, and_true, true_and, ↓reduceIte, eq_self, oj_84, bI_1, bI_0, L0, L1, L2, L5, L10, L11, L12, L20, L22, L31, L10000, le_t, le_f, lt_f, sb_n4, eq_f, ncl, nI_add, nsub, ia_11, ia_12, c0, ha1, hb1, hfj]
                  exact g
                · have g := fin a (f (b - 10000)) (by omega) (hf _ (by omega)).2 (by unfold vaL; rw [if_pos qa]) (by unfold vaL; rw [if_neg qb])
                  simp (disch := omega) only [H_27_15, R_27_15, R_27_21, R_27_52, R_27_74, R_27_93, R_27_101, R_27_136, R_27_142, R_27_149, R_27_165, R_27_171, R_27_178, gd_t, bI_, bV_, bR_, and_self, and_true, true_and, ↓reduceIte, eq_self, oj_84, bI_1, bI_0, L0, L1, L2, L5, L10, L11, L12, L20, L22, L31, L10000, le_t, le_f, lt_f, sb_n4, eq_f, ncl, nI_add, nsub, ia_11, ia_12, c0, ha1, hb1, hfj]
                  exact g
                · have g := fin (f (a - 10000)) b (hf _ (by omega)).2 (by omega) (by unfold vaL; rw [if_neg qa]) (by unfold vaL; rw [if_pos qb])
                  simp (disch := omega) only [H_27_15, R_27_15, R_27_21, R_27_52, R_27_74, R_27_93, R_27_101, R_27_136, R_27_142, R_27_149, R_27_165, R_27_171, R_27_178, gd_t, bI_, bV_, bR_, and_self, and_true, true_and, ↓reduceIte, eq_self, oj_84, bI_1, bI_0, L0, L1, L2, L5, L10, L11, L12, L20, L22, L31, L10000, le_t, le_f, lt_f, sb_n4, eq_f, ncl, nI_add, nsub, ia_11, ia_12, c0, ha1, hb1, hfj]
                  exact g
                · have g := fin (f (a - 10000)) (f (b - 10000)) (hf _ (by omega)).2 (hf _ (by omega)).2 (by unfold vaL; rw [if_neg qa]) (by unfold vaL; rw [if_neg qb])
                  simp (disch := omega) only [H_27_15, R_27_15, R_27_21, R_27_52, R_27_74, R_27_93, R_27_101, R_27_136, R_27_142, R_27_149, R_27_165, R_27_171, R_27_178, gd_t, bI_, bV_, bR_, and_self, and_true, true_and, ↓reduceIte, eq_self, oj_84, bI_1, bI_0, L0, L1, L2, L5, L10, L11, L12, L20, L22, L31, L10000, le_t, le_f, lt_f, sb_n4, eq_f, ncl, nI_add, nsub, ia_11, ia_12, c0, ha1, hb1, hfj]
                  exact g
              · rw [if_neg hc] at hev
                cases hev
