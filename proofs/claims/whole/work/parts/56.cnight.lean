/-! part 56: goBy of the class; moments copied -/
set_option maxRecDepth 100000 in
theorem s_81 {h : Hp} {a act : Nat} {s : Sg} {m : Mo} (hid : MoId a) (so : SgOk s) (mo : MoOk s m) (hs : SF h s) (hm : MoAt h a s m) (ha : act ≤ 6) : ∃ h', S_81 a (nI act) h = some (nI (goW s m act), h') ∧ Same [12, a, a + 1, a + 2] h h' ∧ MoAt h' a s (goM s m act) := by
  have hn := so.1
  have h7 := hid.m7
  have hset := mo.set so
  have behind : ∀ H, Same [12, a, a + 1, a + 2] h H → MoAt H a s (doM s m act).2 → ∃ h', H_81_65 fuL a (nI (doM s m act).1) (nI 0) H = some (nI (goW s m act), h') ∧ Same [12, a, a + 1, a + 2] h h' ∧ MoAt h' a s (goM s m act) := by
    intro H sH hm1
    obtain ⟨mo1, d1, d2, d3⟩ := doOk (act := act) mo
    have eW : goW s m act = (doM s m act).1 + drawnS s (doM s m act).2 (sN s) := rfl
    have eM : goM s m act = (fadeT (doM s m act).2, mPretty (doM s m act).2, mSet (doM s m act).2, mNight (doM s m act).2 + 1, mScore (doM s m act).2 + nI (goW s m act), mSeed (doM s m act).2) := rfl
    rw [eM]
    generalize goW s m act = W at eW ⊢
    generalize (doM s m act).2 = m1 at hm1 mo1 d1 d2 d3 eW ⊢
    generalize (doM s m act).1 = w0 at eW ⊢
    have hnt := mo1.2.2
    have hset1 := mo1.set so
    have hs1 : SF H s := hs.same sH (by simp; omega)
    have fade : ∀ j i n : Nat, i + j = sN s → j < n → ∀ H2, Same [12, a, a + 1, a + 2] h H2 → MoAt H2 a s (midT m1 i) → ∃ h', H_81_95 n a (nI W) (nI i) H2 = some (nI W, h') ∧ Same [12, a, a + 1, a + 2] h h' ∧ MoAt h' a s (fadeT m1, mPretty m1, mSet m1, mNight m1 + 1, mScore m1 + nI W, mSeed m1) := by
      intro j
      induction j with
      | zero =>
        intro i n e hj H2 f2 hm2
        obtain ⟨n, rfl⟩ : ∃ p, n = p + 1 := ⟨n - 1, by omega⟩
        have hs2 : SF H2 s := hs.same f2 (by simp; omega)
        have ei : i = sN s := by omega
        have e3 : H2 a 3 = nI (mNight m1) := hm2.night
        have e4 : H2 a 4 = mScore m1 := hm2.score
        refine ⟨wr (wr H2 a 3 (nI (mNight m1 + 1))) a 4 (mScore m1 + nI W), ?_, (f2.wr (by simp)).wr (by simp), fun k hk => ⟨?_, ?_⟩, ?_, ?_, ?_, ?_⟩
        · simp (disch := omega) only [H_81_95, H_81_65, R_81_139, R_81_133, R_81_113, R_81_110, R_81_104, R_81_95, R_81_92, R_81_83, R_81_74, R_81_65, R_81_62, R_81_60, R_81_54, R_81_48, R_81_46, R_81_40, R_81_33, R_81_27, R_81_24, R_81_19, R_81_11, R_81_0, S_81, gd_t, bI_, bV_, bR_, and_self, and_true, true_and, ↓reduceIte, eq_self, oj_84, bI_1, bI_0, L0, L1, L2, L3, L4, L7, le_t, le_f, lt_t, lt_f, eq_t, eq_f, ncl, nI_add, nmul, nsub, ndiv, nrem, nrem', nrN, hs2.1.n, ei, hid.1, wr_k, e3, e4]
        · rw [wr_c (by omega), wr_c (by omega), hm2.truth hk]
          show nI (if k < i then fadeT m1 k else mTruth m1 k) = nI (fadeT m1 k)
          rw [if_pos (by omega)]
        · rw [wr_c (by omega), wr_c (by omega), hm2.pretty hk]
          rfl
        · rw [wr_k (by omega), wr_k (by omega), hm2.set]
          rfl
        · rw [wr_k (by omega), wr_self]
        · rw [wr_self]
        · rw [wr_k (by omega), wr_k (by omega), hm2.seed]
          rfl
      | succ j ih =>
        intro i n e hj H2 f2 hm2
        obtain ⟨n, rfl⟩ : ∃ p, n = p + 1 := ⟨n - 1, by omega⟩
        have hs2 : SF H2 s := hs.same f2 (by simp; omega)
        have hi : i < sN s := by omega
        have ht := (mo1.1 i hi).1
        have hset2 : mSet (midT m1 i) < 64 := hset1
        have es : stB (midT m1 i) i = stB m1 i := rfl
        have et : mTruth (midT m1 i) i = mTruth m1 i := if_neg (Nat.lt_irrefl i)
        cases hb : (mSet m1).testBit i with
        | true =>
          have hs' : stB m1 i = 1 := by unfold stB; rw [hb]; rfl
          have nx := ih (i + 1) n (by omega) (by omega) H2 f2 (hm2.ext (fun k hk => ⟨by
            show (if k < i + 1 then fadeT m1 k else mTruth m1 k) = (if k < i then fadeT m1 k else mTruth m1 k)
            by_cases ek : k = i
            · subst ek
              rw [if_pos (Nat.lt_succ_self k), if_neg (Nat.lt_irrefl k)]
              unfold fadeT
              rw [if_pos hb]
            · by_cases hki : k < i
              · rw [if_pos (by omega), if_pos hki]
              · rw [if_neg (by omega), if_neg hki], rfl⟩) rfl rfl rfl rfl)
          simp (disch := omega) only [H_81_95, H_81_65, R_81_139, R_81_133, R_81_113, R_81_110, R_81_104, R_81_95, R_81_92, R_81_83, R_81_74, R_81_65, R_81_62, R_81_60, R_81_54, R_81_48, R_81_46, R_81_40, R_81_33, R_81_27, R_81_24, R_81_19, R_81_11, R_81_0, S_81, gd_t, bI_, bV_, bR_, and_self, and_true, true_and, ↓reduceIte, eq_self, oj_84, bI_1, bI_0, L0, L1, L2, L3, L4, L7, le_t, le_f, lt_t, lt_f, eq_t, eq_f, ncl, nI_add, nmul, nsub, ndiv, nrem, nrem', nrN, hs2.1.n, hid.1, s_15 hid hm2, es, hs']
          exact nx
        | false =>
          have hs' : stB m1 i = 0 := by unfold stB; rw [hb]; rfl
          have nx := ih (i + 1) n (by omega) (by omega) (wr H2 (a + 1) i (nI (mTruth m1 i - 1))) (f2.wr (by simp)) (by
            refine ⟨fun k hk => ⟨?_, by rw [wr_c (by omega)]; exact hm2.pretty hk⟩, by rw [wr_c (by omega)]; exact hm2.set, by rw [wr_c (by omega)]; exact hm2.night, by rw [wr_c (by omega)]; exact hm2.score, by rw [wr_c (by omega)]; exact hm2.seed⟩
            show _ = nI (if k < i + 1 then fadeT m1 k else mTruth m1 k)
            by_cases ek : k = i
            · subst ek
              rw [wr_self, if_pos (Nat.lt_succ_self k)]
              unfold fadeT
              rw [hb]
              rfl
            · rw [wr_k ek, hm2.truth hk]
              show nI (if k < i then fadeT m1 k else mTruth m1 k) = _
              by_cases hki : k < i
              · rw [if_pos hki, if_pos (by omega)]
              · rw [if_neg hki, if_neg (by omega)])
          simp (disch := omega) only [H_81_95, H_81_65, R_81_139, R_81_133, R_81_113, R_81_110, R_81_104, R_81_95, R_81_92, R_81_83, R_81_74, R_81_65, R_81_62, R_81_60, R_81_54, R_81_48, R_81_46, R_81_40, R_81_33, R_81_27, R_81_24, R_81_19, R_81_11, R_81_0, S_81, gd_t, bI_, bV_, bR_, and_self, and_true, true_and, ↓reduceIte, eq_self, oj_84, bI_1, bI_0, L0, L1, L2, L3, L4, L7, le_t, le_f, lt_t, lt_f, eq_t, eq_f, ncl, nI_add, nmul, nsub, ndiv, nrem, nrem', nrN, nmax0, hs2.1.n, hid.1, iaT hid, s_15 hid hm2, hm2.truth, es, et, hs']
          exact nx
    have draw : ∀ j i n : Nat, i + j = sN s → j < n → ∃ h', H_81_65 n a (nI (w0 + drawnS s m1 i)) (nI i) H = some (nI W, h') ∧ Same [12, a, a + 1, a + 2] h h' ∧ MoAt h' a s (fadeT m1, mPretty m1, mSet m1, mNight m1 + 1, mScore m1 + nI W, mSeed m1) := by
      intro j
      induction j with
      | zero =>
        intro i n e hj
        obtain ⟨n, rfl⟩ : ∃ p, n = p + 1 := ⟨n - 1, by omega⟩
        have ei : i = sN s := by omega
        have := fade (sN s) 0 fuL (by omega) (fuL_gt (by omega)) H sH (hm1.ext (m' := midT m1 0) (fun k hk => ⟨show (if k < 0 then fadeT m1 k else mTruth m1 k) = mTruth m1 k from if_neg (Nat.not_lt_zero k), rfl⟩) rfl rfl rfl rfl)
        rw [eW] at this ⊢
        simp (disch := omega) only [H_81_65, R_81_65, R_81_92, gd_t, bI_, bV_, bR_, and_self, and_true, true_and, ↓reduceIte, eq_self, oj_84, bI_1, bI_0, L0, L1, L2, L3, L4, L7, le_t, le_f, lt_t, lt_f, eq_t, eq_f, ncl, nI_add, nmul, nsub, ndiv, nrem, nrem', nrN, hs1.1.n, ei]
        exact this
      | succ j ih =>
        intro i n e hj
        obtain ⟨n, rfl⟩ : ∃ p, n = p + 1 := ⟨n - 1, by omega⟩
        have nx := ih (i + 1) n (by omega) (by omega)
        rw [drawnS_s, ← Nat.add_assoc] at nx
        simp (disch := omega) only [H_81_65, R_81_65, R_81_74, R_81_83, gd_t, bI_, bV_, bR_, and_self, and_true, true_and, ↓reduceIte, eq_self, oj_84, bI_1, bI_0, L0, L1, L2, L3, L4, L7, le_t, le_f, lt_t, lt_f, eq_t, eq_f, ncl, nI_add, nmul, nsub, ndiv, nrem, nrem', nrN, hs1.1.n, s_21 hid so mo1 hs1.1 hm1]
        exact nx
    exact draw (sN s) 0 fuL (by omega) (fuL_gt (by omega))
  by_cases a0 : act = 0
  · subst a0
    have b := behind h Same.rf hm
    have e1 : (doM s m 0).1 = 0 := rfl
    have e2 : nI 0 - nI 1 < nI 0 := pk_sneg (a := 0) (b := 1) (by decide) (by decide)
    rw [e1] at b
    simp (disch := omega) only [R_81_0, R_81_62, S_81, gd_t, bI_, bV_, bR_, and_self, and_true, true_and, ↓reduceIte, eq_self, oj_84, bI_1, bI_0, L0, L1, L2, L3, L4, L7, le_t, le_f, lt_t, lt_f, eq_t, eq_f, ncl, nI_add, nmul, nsub, ndiv, nrem, nrem', nrN, e2]
    exact b
  · by_cases hlt : sN s < act
    · have ed : doM s m act = (0, m) := by unfold doM; rw [if_neg a0, if_pos hlt]
      have b := behind h Same.rf (by rw [ed]; exact hm)
      rw [ed] at b
      simp (disch := omega) only [R_81_0, R_81_11, R_81_62, S_81, gd_t, bI_, bV_, bR_, and_self, and_true, true_and, ↓reduceIte, eq_self, oj_84, bI_1, bI_0, L0, L1, L2, L3, L4, L7, le_t, le_f, lt_t, lt_f, eq_t, eq_f, ncl, nI_add, nmul, nsub, ndiv, nrem, nrem', nrN, hs.1.n]
      exact b
    · obtain ⟨k, rfl⟩ : ∃ k, act = k + 1 := ⟨act - 1, by omega⟩
      have hk : k < sN s := by omega
      cases hb : (mSet m).testBit k with
      | true =>
        have hs' : stB m k = 1 := by unfold stB; rw [hb]; rfl
        have ed : doM s m (k + 1) = (0, m) := by unfold doM; rw [if_neg a0, if_neg hlt, Nat.add_sub_cancel, if_pos hb]
        have b := behind h Same.rf (by rw [ed]; exact hm)
        rw [ed] at b
        simp (disch := omega) only [R_81_0, R_81_11, R_81_19, R_81_24, R_81_62, S_81, gd_t, bI_, bV_, bR_, and_self, and_true, true_and, ↓reduceIte, eq_self, oj_84, bI_1, bI_0, L0, L1, L2, L3, L4, L7, le_t, le_f, lt_t, lt_f, eq_t, eq_f, ncl, nI_add, nmul, nsub, ndiv, nrem, nrem', nrN, hs.1.n, hid.1, Nat.add_sub_cancel, s_15 hid hm, hs']
        exact b
      | false =>
        have hs' : stB m k = 0 := by unfold stB; rw [hb]; rfl
        obtain ⟨H, g1, s1⟩ := s_24 hid so mo hs hm hk
        have hs2 : SF H s := hs.same s1 (by simp)
        have hm2 : MoAt H a s m := hm.congr (s1 _ (by simp; omega)) (s1 _ (by simp; omega)) (s1 _ (by simp; omega))
        have hw : willS s m k ≤ 2 := willR_le (fun i q hq => by
          obtain ⟨-, -, b, Ls, -, hrow⟩ := hs.2
          exact (hrow i q hq).2.2.2.1)
        have e0 : doM s m (k + 1) = if willS s m k = 0 then (learnsS s m k, mendS s m k) else if willS s m k = 2 then (2 * (houseS s (mNight m) % 4), trimS s m k) else (0, m) := by
          unfold doM
          rw [if_neg a0, if_neg hlt, Nat.add_sub_cancel, if_neg (by rw [hb]; decide)]
        rcases (show willS s m k = 0 ∨ willS s m k = 1 ∨ willS s m k = 2 by omega) with cw | cw | cw
        · rw [if_pos cw] at e0
          rw [cw] at g1
          obtain ⟨H3, g3, s3, m3⟩ := s_82 hid so mo hs2 hm2 hk
          have b := behind H3 ((s1.le (by simp)).tr (s3.le (by simp))) (by rw [e0]; exact m3)
          rw [e0] at b
          simp (disch := omega) only [R_81_0, R_81_11, R_81_19, R_81_24, R_81_27, R_81_33, R_81_40, R_81_46, R_81_62, S_81, gd_t, bI_, bV_, bR_, and_self, and_true, true_and, ↓reduceIte, eq_self, oj_84, bI_1, bI_0, L0, L1, L2, L3, L4, L7, le_t, le_f, lt_t, lt_f, eq_t, eq_f, ncl, nI_add, nmul, nsub, ndiv, nrem, nrem', nrN, hs.1.n, hid.1, Nat.add_sub_cancel, s_15 hid hm, hs', g1, g3]
          exact b
        · rw [if_neg (by omega), if_neg (by omega)] at e0
          rw [cw] at g1
          have b := behind H (s1.le (by simp)) (by rw [e0]; exact hm2)
          rw [e0] at b
          simp (disch := omega) only [R_81_0, R_81_11, R_81_19, R_81_24, R_81_27, R_81_33, R_81_48, R_81_62, S_81, gd_t, bI_, bV_, bR_, and_self, and_true, true_and, ↓reduceIte, eq_self, oj_84, bI_1, bI_0, L0, L1, L2, L3, L4, L7, le_t, le_f, lt_t, lt_f, eq_t, eq_f, ncl, nI_add, nmul, nsub, ndiv, nrem, nrem', nrN, hs.1.n, hid.1, Nat.add_sub_cancel, s_15 hid hm, hs', g1]
          exact b
        · rw [if_neg (by omega), if_pos cw] at e0
          rw [cw] at g1
          obtain ⟨H3, g3, s3, m3⟩ := s_84 hid so mo hs2 hm2 hk
          have b := behind H3 ((s1.le (by simp)).tr (s3.le (by simp))) (by rw [e0]; exact m3)
          rw [e0] at b
          simp (disch := omega) only [R_81_0, R_81_11, R_81_19, R_81_24, R_81_27, R_81_33, R_81_48, R_81_54, R_81_60, S_81, gd_t, bI_, bV_, bR_, and_self, and_true, true_and, ↓reduceIte, eq_self, oj_84, bI_1, bI_0, L0, L1, L2, L3, L4, L7, le_t, le_f, lt_t, lt_f, eq_t, eq_f, ncl, nI_add, nmul, nsub, ndiv, nrem, nrem', nrN, hs.1.n, hid.1, Nat.add_sub_cancel, s_15 hid hm, hs', g1, g3]
          exact b
/-- copyFrom of a moment -/
theorem s_88 {h : Hp} {a b : Nat} {s : Sg} {m : Mo} (ha : MoId a) (hb : MoId b) (hab : a ≠ b) (so : SgOk s) (hm : MoAt h b s m) : ∃ h', S_88 a b h = some (0, h') ∧ Same [a, a + 1, a + 2] h h' ∧ MoAt h' a s m := by
  have h7 := ha.m7
  have h8 := hb.m7
  have hn := so.1
  have z0 : (nI 0).toNatClampNeg = 0 := rfl
  have z6 : (nI 6).toNatClampNeg = 6 := rfl
  refine ⟨wr (wr (wr (wr (wrA (wrA h (a + 1) (va_cpy (h (b + 1)) (h (a + 1)) 0 0 6)) (a + 2) (va_cpy (h (b + 2)) (h (a + 2)) 0 0 6)) a 2 (nI (mSet m))) a 3 (nI (mNight m))) a 4 (mScore m)) a 5 (mSeed m), ?_, ?_, ?_⟩
  · simp (disch := omega) only [R_88_0, S_88, gd_t, bI_, bV_, bR_, and_self, and_true, true_and, ↓reduceIte, eq_self, oj_84, bI_1, bI_0, L0, L1, L2, L3, L4, L5, L6, le_t, le_f, lt_t, lt_f, eq_t, eq_f, ncl, nI_add, nmul, nsub, ndiv, nrem, nrem', nrN, ha.1, ha.2.1, ha.2.2, hb.1, hb.2.1, hb.2.2, z0, z6, wr_c, wrA_c, hm.set, hm.night, hm.score, hm.seed]
  · intro c hc
    simp only [List.mem_cons, List.not_mem_nil, or_false, not_or] at hc
    rw [wr_c hc.1, wr_c hc.1, wr_c hc.1, wr_c hc.1, wrA_c hc.2.2, wrA_c hc.2.1]
  · refine ⟨fun k hk => ⟨?_, ?_⟩, ?_, ?_, ?_, ?_⟩
    · rw [wr_c (by omega), wr_c (by omega), wr_c (by omega), wr_c (by omega), wrA_c (by omega), wrA_self, pk_cpy_in (by omega) (by omega), Nat.zero_add, Nat.sub_zero]
      exact hm.truth hk
    · rw [wr_c (by omega), wr_c (by omega), wr_c (by omega), wr_c (by omega), wrA_self, pk_cpy_in (by omega) (by omega), Nat.zero_add, Nat.sub_zero]
      exact hm.pretty hk
    · rw [wr_k (by decide), wr_k (by decide), wr_k (by decide), wr_self]
    · rw [wr_k (by decide), wr_k (by decide), wr_self]
    · rw [wr_k (by decide), wr_self]
    · rw [wr_self]
