/-! part 53: does, nightGoes of the model -/
theorem s_178 {h : Hp} {k w : Nat} {x : Int32} (hk : k < 6) (hw : w < 5) : S_178 (nI k) (nI w) x h = some (0, wr h 85 (35 + 5 * k + w) x) := by
  simp (disch := omega) only [R_178_0, S_178, gd_t, bI_, bV_, bR_, and_self, and_true, true_and, ↓reduceIte, eq_self, oj_84, bI_1, bI_0, L0, L1, L5, L35, L85, le_t, le_f, lt_t, lt_f, eq_t, eq_f, ncl, nI_add, nmul, nsub, ndiv, nrem, nrem', nrN, ia_85]
theorem stB_or {m m' : Mo} {k j : Nat} (e : mSet m' = mSet m ||| 2 ^ k) : stB m' j = if j = k then 1 else stB m j := by
  unfold stB
  rw [e, Nat.testBit_or, Nat.testBit_two_pow]
  by_cases c : j = k
  · subst c; simp
  · rw [if_neg c]
    have : ¬ k = j := fun q => c q.symm
    simp [this]
theorem stB_eq {m m' : Mo} {j : Nat} (e : mSet m' = mSet m) : stB m' j = stB m j := by unfold stB; rw [e]
set_option maxRecDepth 100000 in
theorem s_227 {h : Hp} {s : Sg} {m : Mo} {k : Nat} (so : SgOk s) (mo : MoOk s m) (q : SMd h s m) (hk : k < sN s) (hb : (mSet m).testBit k = false) : ∃ h', S_227 (nI k) h = some (nI (doM s m (k + 1)).1, h') ∧ MdAt (h' 85) s (doM s m (k + 1)).2 ∧ MFr h h' := by
  have hn := so.1
  obtain ⟨h1, g1, s1⟩ := s_191 so mo q hk
  have hw := willS_le (m := m) (k := k) q.2
  have hl := learnsS_le so mo hk
  have q1 := (q.same s1).1
  obtain ⟨ht, hp⟩ := mo.1 k hk
  have hnt := mo.2.2
  have hh := houseS_le so (mNight m)
  have f1 := MFr.of88 s1
  have hst0 : stB m k = 0 := by unfold stB; rw [hb]; rfl
  have e0 : doM s m (k + 1) = if willS s m k = 0 then (learnsS s m k, mendS s m k) else if willS s m k = 2 then (2 * (houseS s (mNight m) % 4), trimS s m k) else (0, m) := by
    unfold doM
    rw [if_neg (by omega), if_neg (by omega), Nat.add_sub_cancel, if_neg (by rw [hb]; decide)]
  rw [e0]
  rcases (show willS s m k = 0 ∨ willS s m k = 1 ∨ willS s m k = 2 by omega) with cw | cw | cw
  · rw [if_pos cw]
    rw [cw] at g1
    have hT : min (mTruth m k + learnsS s m k) 99 = mendT s m k := by unfold mendT; omega
    have hT9 : mendT s m k ≤ 99 := Nat.min_le_left _ _
    have hx : ∀ x : Nat, x = (if 60 ≤ mendT s m k then 1 else 0) → MdAt ((wr (wr h1 85 (35 + 5 * k + 1) (nI (mendT s m k))) 85 (35 + 5 * k + 4) (nI x)) 85) s (mendS s m k) := by
      intro x hx
      refine q1.sc (fun j hj => by rw [wr_k (by omega), wr_k (by omega)]) (fun j hj => ⟨by rw [wr_k (by omega), wr_k (by omega)], by rw [wr_k (by omega), wr_k (by omega)]⟩) (fun j hj => ?_) rfl rfl rfl
      by_cases e : j = k
      · subst e
        refine ⟨?_, ?_, ?_⟩
        · rw [wr_k (by omega), wr_self]
          show _ = nI (upN (mTruth m) j (mendT s m j) j)
          rw [upN_s]
        · rw [wr_k (by omega), wr_k (by omega), q1.f2 hj]
          rfl
        · rw [wr_self, hx]
          by_cases c : 60 ≤ mendT s m j
          · rw [if_pos c, stB_or (m := m) (m' := mendS s m j) (k := j) (show (if 60 ≤ mendT s m j then mSet m ||| 2 ^ j else mSet m) = _ from if_pos c), if_pos rfl]
          · rw [if_neg c, stB_eq (m := m) (m' := mendS s m j) (show (if 60 ≤ mendT s m j then mSet m ||| 2 ^ j else mSet m) = _ from if_neg c), hst0]
      · refine ⟨?_, ?_, ?_⟩
        · rw [wr_k (by omega), wr_k (by omega), q1.f1 hj]
          show _ = nI (upN (mTruth m) k (mendT s m k) j)
          rw [upN_n e]
        · rw [wr_k (by omega), wr_k (by omega), q1.f2 hj]
          rfl
        · rw [wr_k (by omega), wr_k (by omega), q1.f4 hj]
          by_cases c : 60 ≤ mendT s m k
          · rw [stB_or (m := m) (m' := mendS s m k) (k := k) (show (if 60 ≤ mendT s m k then mSet m ||| 2 ^ k else mSet m) = _ from if_pos c), if_neg e]
          · rw [stB_eq (m := m) (m' := mendS s m k) (show (if 60 ≤ mendT s m k then mSet m ||| 2 ^ k else mSet m) = _ from if_neg c)]
    by_cases c : 60 ≤ mendT s m k
    · refine ⟨_, ?_, hx 1 (by rw [if_pos c]), (f1.wr (by omega)).wr (by omega)⟩
      simp (disch := omega) only [R_227_121, R_227_117, R_227_106, R_227_103, R_227_94, R_227_85, R_227_82, R_227_74, R_227_65, R_227_60, R_227_58, R_227_54, R_227_50, R_227_45, R_227_36, R_227_33, R_227_25, R_227_15, R_227_10, R_227_5, R_227_0, S_227, gd_t, bI_, bV_, bR_, and_self, and_true, true_and, ↓reduceIte, eq_self, oj_84, bI_1, bI_0, L0, L1, L2, L4, L9, L10, L60, L84, L85, L99, le_t, le_f, lt_t, lt_f, eq_t, eq_f, ncl, nI_add, nmul, nsub, ndiv, nrem, nrem', nrN, g1, s_181 so mo q1, s_182, q1.f1, s_186, hT, s_178, wr_s]
    · refine ⟨_, ?_, hx 0 (by rw [if_neg c]), (f1.wr (by omega)).wr (by omega)⟩
      simp (disch := omega) only [R_227_121, R_227_117, R_227_106, R_227_103, R_227_94, R_227_85, R_227_82, R_227_74, R_227_65, R_227_60, R_227_58, R_227_54, R_227_50, R_227_45, R_227_36, R_227_33, R_227_25, R_227_15, R_227_10, R_227_5, R_227_0, S_227, gd_t, bI_, bV_, bR_, and_self, and_true, true_and, ↓reduceIte, eq_self, oj_84, bI_1, bI_0, L0, L1, L2, L4, L9, L10, L60, L84, L85, L99, le_t, le_f, lt_t, lt_f, eq_t, eq_f, ncl, nI_add, nmul, nsub, ndiv, nrem, nrem', nrN, g1, s_181 so mo q1, s_182, q1.f1, s_186, hT, s_178, wr_s]
  · rw [if_neg (by omega), if_neg (by omega)]
    rw [cw] at g1
    refine ⟨h1, ?_, q1, f1⟩
    simp (disch := omega) only [R_227_121, R_227_117, R_227_106, R_227_103, R_227_94, R_227_85, R_227_82, R_227_74, R_227_65, R_227_60, R_227_58, R_227_54, R_227_50, R_227_45, R_227_36, R_227_33, R_227_25, R_227_15, R_227_10, R_227_5, R_227_0, S_227, gd_t, bI_, bV_, bR_, and_self, and_true, true_and, ↓reduceIte, eq_self, oj_84, bI_1, bI_0, L0, L1, L2, L4, L9, L10, L60, L84, L85, L99, le_t, le_f, lt_t, lt_f, eq_t, eq_f, ncl, nI_add, nmul, nsub, ndiv, nrem, nrem', nrN, g1]
  · rw [if_neg (by omega), if_pos cw]
    rw [cw] at g1
    have hP : min (mPretty m k + 1) 9 = min 9 (mPretty m k + 1) := by omega
    have hP9 : min 9 (mPretty m k + 1) ≤ 9 := by omega
    have hT : min (mTruth m k - 10) 99 = mTruth m k - 10 := by omega
    have q2 : MdAt ((wr (wr h1 85 (35 + 5 * k + 2) (nI (min 9 (mPretty m k + 1)))) 85 (35 + 5 * k + 1) (nI (mTruth m k - 10))) 85) s (trimS s m k) := by
      refine q1.sc (fun j hj => by rw [wr_k (by omega), wr_k (by omega)]) (fun j hj => ⟨by rw [wr_k (by omega), wr_k (by omega)], by rw [wr_k (by omega), wr_k (by omega)]⟩) (fun j hj => ?_) rfl rfl rfl
      by_cases e : j = k
      · subst e
        refine ⟨?_, ?_, ?_⟩
        · rw [wr_self]
          show _ = nI (upN (mTruth m) j (mTruth m j - 10) j)
          rw [upN_s]
        · rw [wr_k (by omega), wr_self]
          show _ = nI (upN (mPretty m) j (min 9 (mPretty m j + 1)) j)
          rw [upN_s]
        · rw [wr_k (by omega), wr_k (by omega), q1.f4 hj]
          rfl
      · refine ⟨?_, ?_, ?_⟩
        · rw [wr_k (by omega), wr_k (by omega), q1.f1 hj]
          show _ = nI (upN (mTruth m) k (mTruth m k - 10) j)
          rw [upN_n e]
        · rw [wr_k (by omega), wr_k (by omega), q1.f2 hj]
          show _ = nI (upN (mPretty m) k (min 9 (mPretty m k + 1)) j)
          rw [upN_n e]
        · rw [wr_k (by omega), wr_k (by omega), q1.f4 hj]
          rfl
    refine ⟨_, ?_, q2, (f1.wr (by omega)).wr (by omega)⟩
    have eN : (wr (wr h1 85 (35 + 5 * k + 2) (nI (min 9 (mPretty m k + 1)))) 85 (35 + 5 * k + 1) (nI (mTruth m k - 10))) 85 1 = nI (mNight m) := by rw [wr_k (by omega), wr_k (by omega), q1.night]
    simp (disch := omega) only [R_227_121, R_227_117, R_227_106, R_227_103, R_227_94, R_227_85, R_227_82, R_227_74, R_227_65, R_227_60, R_227_58, R_227_54, R_227_50, R_227_45, R_227_36, R_227_33, R_227_25, R_227_15, R_227_10, R_227_5, R_227_0, S_227, gd_t, bI_, bV_, bR_, and_self, and_true, true_and, ↓reduceIte, eq_self, oj_84, bI_1, bI_0, L0, L1, L2, L4, L9, L10, L60, L84, L85, L99, le_t, le_f, lt_t, lt_f, eq_t, eq_f, ncl, nI_add, nmul, nsub, ndiv, nrem, nrem', nrN, g1, s_182, q1.f1, q1.f2, s_186, s_186', hT, hP, s_178, wr_s, wr_k, ia_85, q1.night, s_184 q2]
theorem fadeT_le {m : Mo} (s : Sg) (mo : MoOk s m) {k : Nat} (hk : k < sN s) : fadeT m k ≤ 99 := by
  have := (mo.1 k hk).1
  unfold fadeT
  split <;> omega
set_option maxRecDepth 100000 in
theorem s_226 {h : Hp} {s : Sg} {m : Mo} {act : Nat} (so : SgOk s) (mo : MoOk s m) (q : SMd h s m) (ha : act ≤ sN s) : ∃ h', S_226 (nI act) h = some (nI (goW s m act), h') ∧ SMd h' s (goM s m act) ∧ MFr h h' := by
  have hn := so.1
  have behind : ∀ H, MFr h H → MdAt (H 85) s (doM s m act).2 → ∃ h', H_226_29 fuL (nI (doM s m act).1) (nI 0) H = some (nI (goW s m act), h') ∧ SMd h' s (goM s m act) ∧ MFr h h' := by
    intro H fH hm1
    obtain ⟨mo1, d1, d2, d3⟩ := doOk (act := act) mo
    have eW : goW s m act = (doM s m act).1 + drawnS s (doM s m act).2 (sN s) := rfl
    have eM : goM s m act = (fadeT (doM s m act).2, mPretty (doM s m act).2, mSet (doM s m act).2, mNight (doM s m act).2 + 1, mScore (doM s m act).2 + nI (goW s m act), mSeed (doM s m act).2) := rfl
    rw [eM]
    generalize goW s m act = W at eW ⊢
    generalize (doM s m act).2 = m1 at hm1 mo1 d1 d2 d3 eW ⊢
    generalize (doM s m act).1 = w0 at eW ⊢
    have hnt := mo1.2.2
    have fade : ∀ j i n : Nat, i + j = sN s → j < n → ∀ H2, MFr h H2 → MdAt (H2 85) s (midT m1 i) → ∃ h', H_226_55 n (nI W) (nI i) H2 = some (nI W, h') ∧ SMd h' s (fadeT m1, mPretty m1, mSet m1, mNight m1 + 1, mScore m1 + nI W, mSeed m1) ∧ MFr h h' := by
      intro j
      induction j with
      | zero =>
        intro i n e hj H2 f2 hm2
        obtain ⟨n, rfl⟩ : ∃ p, n = p + 1 := ⟨n - 1, by omega⟩
        have ei : i = sN s := by omega
        have f3 : MFr h (wr (wr H2 85 3 (mScore m1 + nI W)) 85 1 (nI (mNight m1 + 1))) := (f2.wr (by omega)).wr (by omega)
        refine ⟨_, ?_, ⟨?_, q.rules f3⟩, f3⟩
        · have e3 : H2 85 3 = mScore m1 := hm2.score
          have e1 : H2 85 1 = nI (mNight m1) := hm2.night
          simp (disch := omega) only [H_226_55, H_226_29, R_226_100, R_226_94, R_226_91, R_226_83, R_226_74, R_226_71, R_226_65, R_226_55, R_226_53, R_226_45, R_226_39, R_226_29, R_226_25, R_226_22, R_226_15, R_226_12, R_226_4, R_226_0, S_226, gd_t, bI_, bV_, bR_, and_self, and_true, true_and, ↓reduceIte, eq_self, oj_84, bI_1, bI_0, L0, L1, L3, L4, L9, L84, L85, L99, le_t, le_f, lt_t, lt_f, eq_t, eq_f, ncl, nI_add, nmul, nsub, ndiv, nrem, nrem', nrN, ia_85, hm2.n, ei, wr_k, e3, e1]
        · obtain ⟨a0, a1, a2, a3, a4, a5, a6, a7⟩ := hm2
          refine ⟨by rw [wr_k (by omega), wr_k (by omega)]; exact a0, by rw [wr_self], by rw [wr_k (by omega), wr_k (by omega)]; exact a2, by rw [wr_k (by omega), wr_self], by rw [wr_k (by omega), wr_k (by omega)]; exact a4, fun t ht => by rw [wr_k (by omega), wr_k (by omega)]; exact a5 t ht, fun t ht => by rw [wr_k (by omega), wr_k (by omega), wr_k (by omega), wr_k (by omega)]; exact a6 t ht, fun k hk => ?_⟩
          obtain ⟨b1, b2, b3, b4, b5⟩ := a7 k hk
          refine ⟨by rw [wr_k (by omega), wr_k (by omega)]; exact b1, ?_, by rw [wr_k (by omega), wr_k (by omega)]; exact b3, by rw [wr_k (by omega), wr_k (by omega)]; exact b4, by rw [wr_k (by omega), wr_k (by omega)]; exact b5⟩
          rw [wr_k (by omega), wr_k (by omega), b2]
          show nI (if k < i then fadeT m1 k else mTruth m1 k) = nI (fadeT m1 k)
          rw [if_pos (by omega)]
      | succ j ih =>
        intro i n e hj H2 f2 hm2
        obtain ⟨n, rfl⟩ : ∃ p, n = p + 1 := ⟨n - 1, by omega⟩
        have hi : i < sN s := by omega
        have ht := (mo1.1 i hi).1
        have es : stB (midT m1 i) i = stB m1 i := rfl
        have et : mTruth (midT m1 i) i = mTruth m1 i := if_neg (Nat.lt_irrefl i)
        cases hb : (mSet m1).testBit i with
        | true =>
          have hs : stB m1 i = 1 := by unfold stB; rw [hb]; rfl
          have nx := ih (i + 1) n (by omega) (by omega) H2 f2 (by
            refine hm2.sc (fun _ _ => rfl) (fun _ _ => ⟨rfl, rfl⟩) (fun k hk => ⟨?_, hm2.f2 hk, hm2.f4 hk⟩) rfl rfl rfl
            rw [hm2.f1 hk]
            show nI (if k < i then fadeT m1 k else mTruth m1 k) = nI (if k < i + 1 then fadeT m1 k else mTruth m1 k)
            by_cases ek : k = i
            · subst ek
              rw [if_neg (Nat.lt_irrefl k), if_pos (Nat.lt_succ_self k)]
              unfold fadeT
              rw [if_pos hb]
            · by_cases hki : k < i
              · rw [if_pos hki, if_pos (by omega)]
              · rw [if_neg hki, if_neg (by omega)])
          simp (disch := omega) only [H_226_55, H_226_29, R_226_100, R_226_94, R_226_91, R_226_83, R_226_74, R_226_71, R_226_65, R_226_55, R_226_53, R_226_45, R_226_39, R_226_29, R_226_25, R_226_22, R_226_15, R_226_12, R_226_4, R_226_0, S_226, gd_t, bI_, bV_, bR_, and_self, and_true, true_and, ↓reduceIte, eq_self, oj_84, bI_1, bI_0, L0, L1, L3, L4, L9, L84, L85, L99, le_t, le_f, lt_t, lt_f, eq_t, eq_f, ncl, nI_add, nmul, nsub, ndiv, nrem, nrem', nrN, ia_85, hm2.n, of4 hm2 so, es, hs]
          exact nx
        | false =>
          have hs : stB m1 i = 0 := by unfold stB; rw [hb]; rfl
          have hT : min (mTruth m1 i - 1) 99 = mTruth m1 i - 1 := by omega
          have nx := ih (i + 1) n (by omega) (by omega) (wr H2 85 (35 + 5 * i + 1) (nI (mTruth m1 i - 1))) (f2.wr (by omega)) (by
            refine hm2.sc (fun _ _ => wr_k (by omega)) (fun _ _ => ⟨wr_k (by omega), wr_k (by omega)⟩) (fun k hk => ⟨?_, by rw [wr_k (by omega)]; exact hm2.f2 hk, by rw [wr_k (by omega)]; exact hm2.f4 hk⟩) rfl rfl rfl
            show _ = nI (if k < i + 1 then fadeT m1 k else mTruth m1 k)
            by_cases ek : k = i
            · subst ek
              rw [wr_self, if_pos (Nat.lt_succ_self k)]
              unfold fadeT
              rw [hb]
              rfl
            · rw [wr_k (by omega), hm2.f1 hk]
              show nI (if k < i then fadeT m1 k else mTruth m1 k) = _
              by_cases hki : k < i
              · rw [if_pos hki, if_pos (by omega)]
              · rw [if_neg hki, if_neg (by omega)])
          simp (disch := omega) only [H_226_55, H_226_29, R_226_100, R_226_94, R_226_91, R_226_83, R_226_74, R_226_71, R_226_65, R_226_55, R_226_53, R_226_45, R_226_39, R_226_29, R_226_25, R_226_22, R_226_15, R_226_12, R_226_4, R_226_0, S_226, gd_t, bI_, bV_, bR_, and_self, and_true, true_and, ↓reduceIte, eq_self, oj_84, bI_1, bI_0, L0, L1, L3, L4, L9, L84, L85, L99, le_t, le_f, lt_t, lt_f, eq_t, eq_f, ncl, nI_add, nmul, nsub, ndiv, nrem, nrem', nrN, ia_85, hm2.n, of4 hm2 so, of1 hm2 so, es, et, hs, s_186', hT, s_178]
          exact nx
    have draw : ∀ j i n : Nat, i + j = sN s → j < n → ∃ h', H_226_29 n (nI (w0 + drawnS s m1 i)) (nI i) H = some (nI W, h') ∧ SMd h' s (fadeT m1, mPretty m1, mSet m1, mNight m1 + 1, mScore m1 + nI W, mSeed m1) ∧ MFr h h' := by
      intro j
      induction j with
      | zero =>
        intro i n e hj
        obtain ⟨n, rfl⟩ : ∃ p, n = p + 1 := ⟨n - 1, by omega⟩
        have ei : i = sN s := by omega
        have := fade (sN s) 0 fuL (by omega) (fuL_gt (by omega)) H fH (by
          refine hm1.sc (fun _ _ => rfl) (fun _ _ => ⟨rfl, rfl⟩) (fun k hk => ⟨?_, hm1.f2 hk, hm1.f4 hk⟩) rfl rfl rfl
          rw [hm1.f1 hk]
          rfl)
        rw [eW] at this ⊢
        simp (disch := omega) only [H_226_29, R_226_29, R_226_53, gd_t, bI_, bV_, bR_, and_self, and_true, true_and, ↓reduceIte, eq_self, oj_84, bI_1, bI_0, L0, L1, L3, L4, L9, L84, L85, L99, le_t, le_f, lt_t, lt_f, eq_t, eq_f, ncl, nI_add, nmul, nsub, ndiv, nrem, nrem', nrN, ia_85, hm1.n, ei]
        exact this
      | succ j ih =>
        intro i n e hj
        obtain ⟨n, rfl⟩ : ∃ p, n = p + 1 := ⟨n - 1, by omega⟩
        have nx := ih (i + 1) n (by omega) (by omega)
        rw [drawnS_s, ← Nat.add_assoc] at nx
        simp (disch := omega) only [H_226_29, R_226_29, R_226_39, R_226_45, gd_t, bI_, bV_, bR_, and_self, and_true, true_and, ↓reduceIte, eq_self, oj_84, bI_1, bI_0, L0, L1, L3, L4, L9, L84, L85, L99, le_t, le_f, lt_t, lt_f, eq_t, eq_f, ncl, nI_add, nmul, nsub, ndiv, nrem, nrem', nrN, ia_85, hm1.n, s_188 so mo1 hm1]
        exact nx
    exact draw (sN s) 0 fuL (by omega) (fuL_gt (by omega))
  by_cases a0 : act = 0
  · subst a0
    have b := behind h MFr.rf q.1
    have e1 : (doM s m 0).1 = 0 := rfl
    rw [e1] at b
    simp (disch := omega) only [R_226_0, R_226_25, S_226, gd_t, bI_, bV_, bR_, and_self, and_true, true_and, ↓reduceIte, eq_self, oj_84, bI_1, bI_0, L0, L1, L3, L4, L9, L84, L85, L99, le_t, le_f, lt_t, lt_f, eq_t, eq_f, ncl, nI_add, nmul, nsub, ndiv, nrem, nrem', nrN]
    exact b
  · obtain ⟨k, rfl⟩ : ∃ k, act = k + 1 := ⟨act - 1, by omega⟩
    cases hb : (mSet m).testBit k with
    | true =>
      have hs : stB m k = 1 := by unfold stB; rw [hb]; rfl
      have e1 : doM s m (k + 1) = (0, m) := by
        unfold doM
        rw [if_neg (by omega), if_neg (by omega), Nat.add_sub_cancel, if_pos hb]
      have b := behind h MFr.rf (by rw [e1]; exact q.1)
      rw [e1] at b
      simp (disch := omega) only [R_226_0, R_226_4, R_226_12, R_226_25, S_226, gd_t, bI_, bV_, bR_, and_self, and_true, true_and, ↓reduceIte, eq_self, oj_84, bI_1, bI_0, L0, L1, L3, L4, L9, L84, L85, L99, le_t, le_f, lt_t, lt_f, eq_t, eq_f, ncl, nI_add, nmul, nsub, ndiv, nrem, nrem', nrN, Nat.add_sub_cancel, of4 q.1 so, hs]
      exact b
    | false =>
      have hs : stB m k = 0 := by unfold stB; rw [hb]; rfl
      obtain ⟨h1, g1, q1, f1⟩ := s_227 so mo q (show k < sN s by omega) hb
      have b := behind h1 f1 q1
      simp (disch := omega) only [R_226_0, R_226_4, R_226_12, R_226_15, R_226_22, S_226, gd_t, bI_, bV_, bR_, and_self, and_true, true_and, ↓reduceIte, eq_self, oj_84, bI_1, bI_0, L0, L1, L3, L4, L9, L84, L85, L99, le_t, le_f, lt_t, lt_f, eq_t, eq_f, ncl, nI_add, nmul, nsub, ndiv, nrem, nrem', nrN, Nat.add_sub_cancel, of4 q.1 so, hs, g1]
      exact b
