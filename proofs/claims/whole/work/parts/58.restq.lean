/-! part 58: what is asked of THE REST -/
def whenF (s : Sg) (k : Nat) : Nat → Mo → Option Nat
  | 0, _ => none
  | f + 1, m => if sEnd s ≤ mNight m then none else if (mSet (goM s m (actS s m))).testBit k then some (mNight m) else whenF s k f (goM s m (actS s m))
theorem whenF_s (s : Sg) (k f : Nat) (m : Mo) : whenF s k (f + 1) m = if sEnd s ≤ mNight m then none else if (mSet (goM s m (actS s m))).testBit k then some (mNight m) else whenF s k f (goM s m (actS s m)) := rfl
def onI : Option Nat → Int32
  | some n => nI n
  | none => -nI 3
def truF (s : Sg) (v : Nat) : Nat → Mo → Mo
  | 0, m => m
  | f + 1, m => if sEnd s ≤ mNight m then m else if v ≤ truS m (sN s) then m else truF s v f (goM s m (actS s m))
theorem truF_s (s : Sg) (v f : Nat) (m : Mo) : truF s v (f + 1) m = if sEnd s ≤ mNight m then m else if v ≤ truS m (sN s) then m else truF s v f (goM s m (actS s m)) := rfl
def bestF (W : Nat → Nat) : Nat → Nat → Nat → Nat → Nat
  | 0, _, b, _ => b
  | j + 1, v, b, t => if W v ≤ t then bestF W j (v + 1) b t else bestF W j (v + 1) v (W v)
theorem bestF_s (W : Nat → Nat) (j v b t : Nat) : bestF W (j + 1) v b t = if W v ≤ t then bestF W j (v + 1) b t else bestF W j (v + 1) v (W v) := rfl
def bestS (W : Nat → Nat) (most : Nat) : Nat := bestF W most 1 0 (W 0)
theorem fuL_s : ∃ N, fuL = N + 1 ∧ 90000 < N := ⟨99999, fuL_eq, by decide⟩
theorem mo13 : MoId 13 := ⟨rfl, rfl, rfl⟩
theorem mo35 : MoId 35 := ⟨rfl, rfl, rfl⟩
theorem mo38 : MoId 38 := ⟨rfl, rfl, rfl⟩
theorem mo41 : MoId 41 := ⟨rfl, rfl, rfl⟩
theorem mo44 : MoId 44 := ⟨rfl, rfl, rfl⟩
theorem mo47 : MoId 47 := ⟨rfl, rfl, rfl⟩
theorem mo76 : MoId 76 := ⟨rfl, rfl, rfl⟩
/-- fromNow -/
theorem s_87 {h : Hp} {s : Sg} {m : Mo} (so : SgOk s) (hm : MoAt h 13 s m) : ∃ h', S_87 h = some (35, h') ∧ Same [35, 36, 37] h h' ∧ MoAt h' 35 s m := by
  obtain ⟨h', g, sm, hm'⟩ := s_88 mo35 mo13 (by decide) so hm
  refine ⟨h', ?_, sm, hm'⟩
  have z0 : 35 + 3 * (nI 0).toNatClampNeg = 35 := rfl
  simp (disch := omega) only [S_87, R_87_0, R_87_13, gd_t, bV_, L0, vpN, z0, oj_35, and_self, g]
/-- worthOfRest -/
theorem s_86 {h : Hp} {s : Sg} {m : Mo} (so : SgOk s) (mo : MoOk s m) (hs : SF h s) (hm : MoAt h 13 s m) {n : Nat} (hn : n ≤ 16) : ∃ h', S_86 (nI n) h = some (nI (restW s n m), h') ∧ Same [12, 35, 36, 37] h h' := by
  have he := so.2.2.2.2.2
  have loop : ∀ (j t acc fu : Nat) (m1 : Mo) (H : Hp), j < fu → t + j = n → MoOk s m1 → MoAt H 35 s m1 → mScore m1 = mScore m + nI acc → Same [12, 35, 36, 37] h H → ∃ h', H_86_7 fu (nI n) 35 (nI t) H = some (nI (acc + restW s j m1), h') ∧ Same [12, 35, 36, 37] h h' := by
    intro j
    induction j with
    | zero =>
      intro t acc fu m1 H hf ht o1 hm1 esc sH
      obtain ⟨fu, rfl⟩ : ∃ p, fu = p + 1 := ⟨fu - 1, by omega⟩
      have e13 : H 13 4 = mScore m := by rw [sH 13 (by decide)]; exact hm.score
      have et : t = n := by omega
      refine ⟨H, ?_, sH⟩
      simp (disch := omega) only [H_86_7, R_86_46, R_86_39, R_86_36, R_86_23, R_86_20, R_86_12, R_86_7, R_86_4, R_86_0, S_86, gd_t, bI_, bV_, bR_, and_self, and_true, true_and, ↓reduceIte, eq_self, oj_84, bI_1, bI_0, L0, L1, L3, L4, L6, L13, le_t, le_f, lt_t, lt_f, eq_t, eq_f, ncl, nI_add, nmul, nsub, ndiv, nrem, nrem', nrN, oj_35, et, e13, hm1.score, esc, sub_l]
      rfl
    | succ j ih =>
      intro t acc fu m1 H hf ht o1 hm1 esc sH
      obtain ⟨fu, rfl⟩ : ∃ p, fu = p + 1 := ⟨fu - 1, by omega⟩
      have hsH : SF H s := hs.same sH (by simp)
      rw [restW_s]
      by_cases c : sEnd s ≤ mNight m1
      · rw [if_pos c]
        have e13 : H 13 4 = mScore m := by rw [sH 13 (by decide)]; exact hm.score
        refine ⟨H, ?_, sH⟩
        simp (disch := omega) only [H_86_7, R_86_46, R_86_39, R_86_36, R_86_23, R_86_20, R_86_12, R_86_7, R_86_4, R_86_0, S_86, gd_t, bI_, bV_, bR_, and_self, and_true, true_and, ↓reduceIte, eq_self, oj_84, bI_1, bI_0, L0, L1, L3, L4, L6, L13, le_t, le_f, lt_t, lt_f, eq_t, eq_f, ncl, nI_add, nmul, nsub, ndiv, nrem, nrem', nrN, oj_35, s_38 mo35 so o1 hsH.1 hm1, c, decide_true, e13, hm1.score, esc, sub_l]
        rfl
      · rw [if_neg c]
        obtain ⟨h1, g1, s1⟩ := s_80 mo35 so o1 hsH hm1
        have hs1 : SF h1 s := hsH.same s1 (by simp)
        have hm2 : MoAt h1 35 s m1 := hm1.congr (s1 _ (by simp)) (s1 _ (by simp)) (s1 _ (by simp))
        have hact := actS_le s m1
        have hn6 := so.1
        obtain ⟨h2, g2, s2, hm3⟩ := s_81 mo35 so o1 hs1 hm2 (act := actS s m1) (by omega)
        obtain ⟨h3, g3, s3⟩ := ih (t + 1) (acc + goW s m1 (actS s m1)) fu _ h2 (by omega) (by omega) (goOk o1 (by omega)) hm3 (by rw [goM_score o1, esc, Int32.add_assoc, nI_add]) (sH.tr ((s1.le (by simp)).tr (s2.le (by simp))))
        refine ⟨h3, ?_, s3⟩
        rw [Nat.add_assoc acc] at g3
        simp (disch := omega) only [H_86_7, R_86_46, R_86_39, R_86_36, R_86_23, R_86_20, R_86_12, R_86_7, R_86_4, R_86_0, S_86, gd_t, bI_, bV_, bR_, and_self, and_true, true_and, ↓reduceIte, eq_self, oj_84, bI_1, bI_0, L0, L1, L3, L4, L6, L13, le_t, le_f, lt_t, lt_f, eq_t, eq_f, ncl, nI_add, nmul, nsub, ndiv, nrem, nrem', nrN, oj_35, oj_1, s_38 mo35 so o1 hsH.1 hm1, c, decide_false, g1, g2]
        exact g3
  obtain ⟨h1, g1, s1, hm1⟩ := s_87 so hm
  obtain ⟨h2, g2, s2⟩ := loop n 0 0 fuL m h1 (fuL_gt (by omega)) (by omega) mo hm1 (by rw [show nI 0 = 0 from rfl, Int32.add_zero]) (s1.le (by simp))
  refine ⟨h2, ?_, s2⟩
  rw [Nat.zero_add] at g2
  simp (disch := omega) only [R_86_46, R_86_39, R_86_36, R_86_23, R_86_20, R_86_12, R_86_7, R_86_4, R_86_0, S_86, gd_t, bI_, bV_, bR_, and_self, and_true, true_and, ↓reduceIte, eq_self, oj_84, bI_1, bI_0, L0, L1, L3, L4, L6, L13, le_t, le_f, lt_t, lt_f, eq_t, eq_f, ncl, nI_add, nmul, nsub, ndiv, nrem, nrem', nrN, g1]
  exact g2
/-- settlingNight -/
theorem s_90 {h : Hp} {s : Sg} {m : Mo} (so : SgOk s) (mo : MoOk s m) (hs : SF h s) (hm : MoAt h 13 s m) {k : Nat} (hk : k < sN s) : ∃ h', S_90 (nI k) h = some (if (mSet m).testBit k then -nI 3 else onI (whenF s k (sEnd s - mNight m) m), h') ∧ Same [12, 35, 36, 37] h h' := by
  have he := so.2.2.2.2.2
  have hn6 := so.1
  have loop : ∀ (f t fu : Nat) (m1 : Mo) (H : Hp), f < fu → f = sEnd s - mNight m1 → t + f ≤ 16 → MoOk s m1 → MoAt H 35 s m1 → Same [12, 35, 36, 37] h H → ∃ h', H_90_18 fu (nI k) 35 (nI t) H = some (onI (whenF s k f m1), h') ∧ Same [12, 35, 36, 37] h h' := by
    intro f
    induction f with
    | zero =>
      intro t fu m1 H hf hff ht o1 hm1 sH
      obtain ⟨fu, rfl⟩ : ∃ p, fu = p + 1 := ⟨fu - 1, by omega⟩
      have hsH : SF H s := hs.same sH (by simp)
      have c : sEnd s ≤ mNight m1 := by omega
      refine ⟨H, ?_, sH⟩
      by_cases c2 : 16 ≤ t
      · simp (disch := omega) only [H_90_18, R_90_73, R_90_67, R_90_60, R_90_57, R_90_51, R_90_48, R_90_35, R_90_32, R_90_24, R_90_18, R_90_16, R_90_13, R_90_10, R_90_4, R_90_0, S_90, gd_t, bI_, bV_, bR_, and_self, and_true, true_and, ↓reduceIte, eq_self, oj_84, bI_1, bI_0, L0, L1, L3, L6, L16, le_t, le_f, lt_t, lt_f, eq_t, eq_f, ncl, nI_add, nmul, nsub, ndiv, nrem, nrem', nrN, c2]
        rfl
      · simp (disch := omega) only [H_90_18, R_90_73, R_90_67, R_90_60, R_90_57, R_90_51, R_90_48, R_90_35, R_90_32, R_90_24, R_90_18, R_90_16, R_90_13, R_90_10, R_90_4, R_90_0, S_90, gd_t, bI_, bV_, bR_, and_self, and_true, true_and, ↓reduceIte, eq_self, oj_84, bI_1, bI_0, L0, L1, L3, L6, L16, le_t, le_f, lt_t, lt_f, eq_t, eq_f, ncl, nI_add, nmul, nsub, ndiv, nrem, nrem', nrN, c2, s_38 mo35 so o1 hsH.1 hm1, c, decide_true]
        rfl
    | succ f ih =>
      intro t fu m1 H hf hff ht o1 hm1 sH
      obtain ⟨fu, rfl⟩ : ∃ p, fu = p + 1 := ⟨fu - 1, by omega⟩
      have hsH : SF H s := hs.same sH (by simp)
      have c : ¬ sEnd s ≤ mNight m1 := by omega
      rw [whenF_s, if_neg c]
      obtain ⟨h1, g1, s1⟩ := s_80 mo35 so o1 hsH hm1
      have hs1 : SF h1 s := hsH.same s1 (by simp)
      have hm2 : MoAt h1 35 s m1 := hm1.congr (s1 _ (by simp)) (s1 _ (by simp)) (s1 _ (by simp))
      have hact := actS_le s m1
      obtain ⟨h2, g2, s2, hm3⟩ := s_81 mo35 so o1 hs1 hm2 (act := actS s m1) (by omega)
      have o3 : MoOk s (goM s m1 (actS s m1)) := goOk o1 (by omega)
      have sH2 := sH.tr ((s1.le (by simp)).tr (s2.le (by simp)))
      have hset := o3.set so
      have hnt := goM_night (act := actS s m1) o1
      have hb := s_15 mo35 hm3 hset (k := k) (by omega)
      cases hy : (mSet (goM s m1 (actS s m1))).testBit k with
      | true =>
        have e1 : stB (goM s m1 (actS s m1)) k = 1 := by unfold stB; rw [hy]; rfl
        have e2 : h2 35 3 = nI (mNight m1 + 1) := by rw [hm3.night, hnt]
        refine ⟨h2, ?_, sH2⟩
        simp (disch := omega) only [H_90_18, R_90_73, R_90_67, R_90_60, R_90_57, R_90_51, R_90_48, R_90_35, R_90_32, R_90_24, R_90_18, R_90_16, R_90_13, R_90_10, R_90_4, R_90_0, S_90, gd_t, bI_, bV_, bR_, and_self, and_true, true_and, ↓reduceIte, eq_self, oj_84, bI_1, bI_0, L0, L1, L3, L6, L16, le_t, le_f, lt_t, lt_f, eq_t, eq_f, ncl, nI_add, nmul, nsub, ndiv, nrem, nrem', nrN, oj_35, oj_1, s_38 mo35 so o1 hsH.1 hm1, c, decide_false, g1, g2, hb, e1, e2, Nat.add_sub_cancel]
        rfl
      | false =>
        have e1 : stB (goM s m1 (actS s m1)) k = 0 := by unfold stB; rw [hy]; rfl
        obtain ⟨h3, g3, s3⟩ := ih (t + 1) fu _ h2 (by omega) (by omega) (by omega) o3 hm3 sH2
        refine ⟨h3, ?_, s3⟩
        simp (disch := omega) only [H_90_18, R_90_73, R_90_67, R_90_60, R_90_57, R_90_51, R_90_48, R_90_35, R_90_32, R_90_24, R_90_18, R_90_16, R_90_13, R_90_10, R_90_4, R_90_0, S_90, gd_t, bI_, bV_, bR_, and_self, and_true, true_and, ↓reduceIte, eq_self, oj_84, bI_1, bI_0, L0, L1, L3, L6, L16, le_t, le_f, lt_t, lt_f, eq_t, eq_f, ncl, nI_add, nmul, nsub, ndiv, nrem, nrem', nrN, oj_35, oj_1, s_38 mo35 so o1 hsH.1 hm1, c, decide_false, g1, g2, hb, e1]
        exact g3
  obtain ⟨h1, g1, s1, hm1⟩ := s_87 so hm
  have hset := mo.set so
  have hb := s_15 mo35 hm1 hset (k := k) (by omega)
  cases hy : (mSet m).testBit k with
  | true =>
    have e1 : stB m k = 1 := by unfold stB; rw [hy]; rfl
    refine ⟨h1, ?_, s1.le (by simp)⟩
    simp (disch := omega) only [R_90_73, R_90_67, R_90_60, R_90_57, R_90_51, R_90_48, R_90_35, R_90_32, R_90_24, R_90_18, R_90_16, R_90_13, R_90_10, R_90_4, R_90_0, S_90, gd_t, bI_, bV_, bR_, and_self, and_true, true_and, ↓reduceIte, eq_self, oj_84, bI_1, bI_0, L0, L1, L3, L6, L16, le_t, le_f, lt_t, lt_f, eq_t, eq_f, ncl, nI_add, nmul, nsub, ndiv, nrem, nrem', nrN, oj_35, g1, hb, e1]
  | false =>
    have e1 : stB m k = 0 := by unfold stB; rw [hy]; rfl
    obtain ⟨h2, g2, s2⟩ := loop (sEnd s - mNight m) 0 fuL m h1 (fuL_gt (by omega)) rfl (by omega) mo hm1 (s1.le (by simp))
    refine ⟨h2, ?_, s2⟩
    simp (disch := omega) only [R_90_73, R_90_67, R_90_60, R_90_57, R_90_51, R_90_48, R_90_35, R_90_32, R_90_24, R_90_18, R_90_16, R_90_13, R_90_10, R_90_4, R_90_0, S_90, gd_t, bI_, bV_, bR_, and_self, and_true, true_and, ↓reduceIte, eq_self, oj_84, bI_1, bI_0, L0, L1, L3, L6, L16, le_t, le_f, lt_t, lt_f, eq_t, eq_f, ncl, nI_add, nmul, nsub, ndiv, nrem, nrem', nrN, oj_35, g1, hb, e1]
    exact g2
/-- trueNight -/
theorem s_95 {h : Hp} {s : Sg} {m : Mo} (so : SgOk s) (mo : MoOk s m) (hs : SF h s) (hm : MoAt h 13 s m) {v : Nat} (hv : v ≤ 594) : ∃ h', S_95 (nI v) h = some (if v ≤ truS (truF s v (sEnd s - mNight m) m) (sN s) then nI (mNight (truF s v (sEnd s - mNight m) m)) else -nI 3, h') ∧ Same [12, 35, 36, 37] h h' := by
  have he := so.2.2.2.2.2
  have hn6 := so.1
  have fin : ∀ (m1 : Mo) (H : Hp), MoOk s m1 → MoAt H 35 s m1 → Same [12, 35, 36, 37] h H → R_95_59 (nI v) 35 H = some (if v ≤ truS m1 (sN s) then nI (mNight m1) else -nI 3, H) := by
    intro m1 H o1 hm1 sH
    have hsH : SF H s := hs.same sH (by simp)
    have ht := truS_le o1 (sN s) (Nat.le_refl _)
    by_cases c : v ≤ truS m1 (sN s)
    · simp (disch := omega) only [R_95_78, R_95_71, R_95_67, R_95_59, R_95_52, R_95_49, R_95_36, R_95_33, R_95_25, R_95_21, R_95_13, R_95_7, R_95_4, R_95_0, S_95, gd_t, bI_, bV_, bR_, and_self, and_true, true_and, ↓reduceIte, eq_self, oj_84, bI_1, bI_0, L0, L1, L3, L6, L16, le_t, le_f, lt_t, lt_f, eq_t, eq_f, ncl, nI_add, nmul, nsub, ndiv, nrem, nrem', nrN, oj_35, s_40 mo35 so hsH.1 hm1, c, hm1.night, if_true]
    · simp (disch := omega) only [R_95_78, R_95_71, R_95_67, R_95_59, R_95_52, R_95_49, R_95_36, R_95_33, R_95_25, R_95_21, R_95_13, R_95_7, R_95_4, R_95_0, S_95, gd_t, bI_, bV_, bR_, and_self, and_true, true_and, ↓reduceIte, eq_self, oj_84, bI_1, bI_0, L0, L1, L3, L6, L16, le_t, le_f, lt_t, lt_f, eq_t, eq_f, ncl, nI_add, nmul, nsub, ndiv, nrem, nrem', nrN, oj_35, s_40 mo35 so hsH.1 hm1, c, hm1.night, if_false]
  have loop : ∀ (f t fu : Nat) (m1 : Mo) (H : Hp), f < fu → f = sEnd s - mNight m1 → t + f ≤ 16 → MoOk s m1 → MoAt H 35 s m1 → Same [12, 35, 36, 37] h H → ∃ h', H_95_7 fu (nI v) 35 (nI t) H = some (if v ≤ truS (truF s v f m1) (sN s) then nI (mNight (truF s v f m1)) else -nI 3, h') ∧ Same [12, 35, 36, 37] h h' := by
    intro f
    induction f with
    | zero =>
      intro t fu m1 H hf hff ht o1 hm1 sH
      obtain ⟨fu, rfl⟩ : ∃ p, fu = p + 1 := ⟨fu - 1, by omega⟩
      have hsH : SF H s := hs.same sH (by simp)
      have htr := truS_le o1 (sN s) (Nat.le_refl _)
      have c : sEnd s ≤ mNight m1 := by omega
      have fn := fin m1 H o1 hm1 sH
      refine ⟨H, ?_, sH⟩
      by_cases c2 : 16 ≤ t
      · simp (disch := omega) only [H_95_7, R_95_7, gd_t, bI_, bV_, bR_, and_self, and_true, true_and, ↓reduceIte, eq_self, oj_84, bI_1, bI_0, L0, L1, L3, L6, L16, le_t, le_f, lt_t, lt_f, eq_t, eq_f, ncl, nI_add, nmul, nsub, ndiv, nrem, nrem', nrN, c2]
        exact fn
      · by_cases c3 : v ≤ truS m1 (sN s)
        · simp (disch := omega) only [H_95_7, R_95_7, R_95_13, R_95_21, gd_t, bI_, bV_, bR_, and_self, and_true, true_and, ↓reduceIte, eq_self, oj_84, bI_1, bI_0, L0, L1, L3, L6, L16, le_t, le_f, lt_t, lt_f, eq_t, eq_f, ncl, nI_add, nmul, nsub, ndiv, nrem, nrem', nrN, c2, s_40 mo35 so hsH.1 hm1, c3]
          exact fn
        · simp (disch := omega) only [H_95_7, R_95_7, R_95_13, R_95_21, R_95_25, R_95_33, gd_t, bI_, bV_, bR_, and_self, and_true, true_and, ↓reduceIte, eq_self, oj_84, bI_1, bI_0, L0, L1, L3, L6, L16, le_t, le_f, lt_t, lt_f, eq_t, eq_f, ncl, nI_add, nmul, nsub, ndiv, nrem, nrem', nrN, c2, s_40 mo35 so hsH.1 hm1, c3, s_38 mo35 so o1 hsH.1 hm1, c, decide_true]
          exact fn
    | succ f ih =>
      intro t fu m1 H hf hff ht o1 hm1 sH
      obtain ⟨fu, rfl⟩ : ∃ p, fu = p + 1 := ⟨fu - 1, by omega⟩
      have hsH : SF H s := hs.same sH (by simp)
      have htr := truS_le o1 (sN s) (Nat.le_refl _)
      have c : ¬ sEnd s ≤ mNight m1 := by omega
      rw [truF_s, if_neg c]
      by_cases c3 : v ≤ truS m1 (sN s)
      · have fn := fin m1 H o1 hm1 sH
        rw [if_pos c3] at fn ⊢
        refine ⟨H, ?_, sH⟩
        simp (disch := omega) only [H_95_7, R_95_7, R_95_13, R_95_21, gd_t, bI_, bV_, bR_, and_self, and_true, true_and, ↓reduceIte, eq_self, oj_84, bI_1, bI_0, L0, L1, L3, L6, L16, le_t, le_f, lt_t, lt_f, eq_t, eq_f, ncl, nI_add, nmul, nsub, ndiv, nrem, nrem', nrN, s_40 mo35 so hsH.1 hm1, c3]
        exact fn
      · rw [if_neg c3]
        obtain ⟨h1, g1, s1⟩ := s_80 mo35 so o1 hsH hm1
        have hs1 : SF h1 s := hsH.same s1 (by simp)
        have hm2 : MoAt h1 35 s m1 := hm1.congr (s1 _ (by simp)) (s1 _ (by simp)) (s1 _ (by simp))
        have hact := actS_le s m1
        obtain ⟨h2, g2, s2, hm3⟩ := s_81 mo35 so o1 hs1 hm2 (act := actS s m1) (by omega)
        have o3 : MoOk s (goM s m1 (actS s m1)) := goOk o1 (by omega)
        have sH2 := sH.tr ((s1.le (by simp)).tr (s2.le (by simp)))
        have hnt := goM_night (act := actS s m1) o1
        obtain ⟨h3, g3, s3⟩ := ih (t + 1) fu _ h2 (by omega) (by omega) (by omega) o3 hm3 sH2
        refine ⟨h3, ?_, s3⟩
        simp (disch := omega) only [H_95_7, R_95_7, R_95_13, R_95_21, R_95_25, R_95_33, R_95_36, R_95_49, R_95_52, gd_t, bI_, bV_, bR_, and_self, and_true, true_and, ↓reduceIte, eq_self, oj_84, bI_1, bI_0, L0, L1, L3, L6, L16, le_t, le_f, lt_t, lt_f, eq_t, eq_f, ncl, nI_add, nmul, nsub, ndiv, nrem, nrem', nrN, oj_35, oj_1, s_40 mo35 so hsH.1 hm1, c3, s_38 mo35 so o1 hsH.1 hm1, c, decide_false, g1, g2]
        exact g3
  obtain ⟨h1, g1, s1, hm1⟩ := s_87 so hm
  obtain ⟨h2, g2, s2⟩ := loop (sEnd s - mNight m) 0 fuL m h1 (fuL_gt (by omega)) rfl (by omega) mo hm1 (s1.le (by simp))
  refine ⟨h2, ?_, s2⟩
  simp (disch := omega) only [S_95, R_95_0, R_95_4, gd_t, bI_, bV_, bR_, and_self, and_true, true_and, ↓reduceIte, eq_self, oj_84, bI_1, bI_0, L0, L1, L3, L6, L16, le_t, le_f, lt_t, lt_f, eq_t, eq_f, ncl, nI_add, nmul, nsub, ndiv, nrem, nrem', nrN, g1]
  exact g2
/-- bestSetting -/
theorem s_92 {h : Hp} {arr k most : Nat} {W : Nat → Nat} (hW : ∀ v, v ≤ most → ∀ H, Same [12, 35, 36, 37, arr] h H → (∀ j, j ≠ k → H arr j = h arr j) → H arr k = nI v → W v < 2147483648 ∧ ∃ H', S_86 (nI 16) H = some (nI (W v), H') ∧ Same [12, 35, 36, 37] H H') (hi : IA arr (nI k)) (hk : k < 6) (hmost : most ≤ 9) (ha : arr = 3 ∨ arr = 15) : ∃ h', S_92 arr (nI k) (nI most) h = some (nI (bestS W most), h') ∧ Same [12, 35, 36, 37] h h' := by
  have loop : ∀ (j v b t fu : Nat) (H : Hp), j < fu → v + j = most + 1 → t < 2147483648 → Same [12, 35, 36, 37, arr] h H → (∀ j, j ≠ k → H arr j = h arr j) → ∃ h', H_92_14 fu arr (nI k) (nI most) (h arr k) (nI b) (nI t) (nI v) H = some (nI (bestF W j v b t), h') ∧ Same [12, 35, 36, 37] h h' := by
    intro j
    induction j with
    | zero =>
      intro v b t fu H hf hv ht sH hj
      obtain ⟨fu, rfl⟩ : ∃ p, fu = p + 1 := ⟨fu - 1, by omega⟩
      refine ⟨wr H arr k (h arr k), ?_, fun c hc => ?_⟩
      · simp (disch := omega) only [H_92_14, R_92_57, R_92_51, R_92_43, R_92_34, R_92_20, R_92_14, R_92_0, S_92, gd_t, bI_, bV_, bR_, and_self, and_true, true_and, ↓reduceIte, eq_self, oj_84, bI_1, bI_0, L0, L1, L16, le_t, le_f, lt_t, lt_f, eq_t, eq_f, ncl, nI_add, nmul, nsub, ndiv, nrem, nrem', nrN, hi]
        rfl
      · by_cases e : c = arr
        · subst e
          funext j
          by_cases ej : j = k
          · subst ej; rw [wr_self]
          · rw [wr_k ej, hj j ej]
        · rw [wr_c e]
          exact sH c (by simp only [List.mem_cons, List.not_mem_nil, or_false] at hc ⊢; omega)
    | succ j ih =>
      intro v b t fu H hf hv ht sH hj
      obtain ⟨fu, rfl⟩ : ∃ p, fu = p + 1 := ⟨fu - 1, by omega⟩
      obtain ⟨hlt, H', g, s'⟩ := hW v (by omega) (wr H arr k (nI v)) (sH.wr (by simp)) (fun j hjk => by rw [wr_k hjk]; exact hj j hjk) wr_self
      have sH' : Same [12, 35, 36, 37, arr] h H' := (sH.wr (by simp)).tr (s'.le (by simp))
      have hj' : ∀ j, j ≠ k → H' arr j = h arr j := fun j hjk => by rw [s' arr (by rcases ha with e | e <;> rw [e] <;> decide), wr_k hjk]; exact hj j hjk
      rw [bestF_s]
      by_cases c : W v ≤ t
      · rw [if_pos c]
        obtain ⟨h3, g3, s3⟩ := ih (v + 1) b t fu H' (by omega) (by omega) ht sH' hj'
        refine ⟨h3, ?_, s3⟩
        simp (disch := omega) only [H_92_14, R_92_57, R_92_51, R_92_43, R_92_34, R_92_20, R_92_14, R_92_0, S_92, gd_t, bI_, bV_, bR_, and_self, and_true, true_and, ↓reduceIte, eq_self, oj_84, bI_1, bI_0, L0, L1, L16, le_t, le_f, lt_t, lt_f, eq_t, eq_f, ncl, nI_add, nmul, nsub, ndiv, nrem, nrem', nrN, hi, g, c]
        exact g3
      · rw [if_neg c]
        obtain ⟨h3, g3, s3⟩ := ih (v + 1) v (W v) fu H' (by omega) (by omega) hlt sH' hj'
        refine ⟨h3, ?_, s3⟩
        simp (disch := omega) only [H_92_14, R_92_57, R_92_51, R_92_43, R_92_34, R_92_20, R_92_14, R_92_0, S_92, gd_t, bI_, bV_, bR_, and_self, and_true, true_and, ↓reduceIte, eq_self, oj_84, bI_1, bI_0, L0, L1, L16, le_t, le_f, lt_t, lt_f, eq_t, eq_f, ncl, nI_add, nmul, nsub, ndiv, nrem, nrem', nrN, hi, g, c]
        exact g3
  obtain ⟨hlt, H', g, s'⟩ := hW 0 (by omega) (wr h arr k (nI 0)) (Same.rf.wr (by simp)) (fun j hjk => wr_k hjk) wr_self
  obtain ⟨N, ef, hN⟩ := fuL_s
  obtain ⟨h3, g3, s3⟩ := loop most 1 0 (W 0) N H' (by omega) (by omega) hlt ((Same.rf.wr (by simp)).tr (s'.le (by simp))) (fun j hjk => by rw [s' arr (by rcases ha with e | e <;> rw [e] <;> decide), wr_k hjk])
  have hneg : ¬ nI (W 0) ≤ -nI 1 := by
    rw [Int32.le_iff_toInt_le, nI_toInt hlt]
    show ¬ ((W 0 : Nat) : Int) ≤ -1
    omega
  refine ⟨h3, ?_, s3⟩
  simp (disch := omega) only [R_92_57, R_92_51, R_92_43, R_92_34, R_92_20, R_92_14, R_92_0, S_92, ef, gd_t, bI_, bV_, bR_, and_self, and_true, true_and, ↓reduceIte, eq_self, oj_84, bI_1, bI_0, L0, L1, L16, hi, ncl, H_92_14, R_92_14, R_92_20, R_92_34, R_92_43, lt_f, g, hneg, nI_add, Nat.zero_add]
  exact g3
