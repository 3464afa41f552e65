/-! part 64: change, scene, anew -/
def setB (S k v : Nat) : Nat := if v = 1 then S ||| 2 ^ k else S - (if S.testBit k then 2 ^ k else 0)
theorem setB_i : ∀ S, S < 64 → ∀ k, k < 6 → ∀ v, v < 2 → (nI S &&& ((nI 1 <<< (nI k &&& nI 31)) ^^^ (-nI 1))) ||| (nI v <<< (nI k &&& nI 31)) = nI (setB S k v) := by decide +kernel
theorem setB_b : ∀ S, S < 64 → ∀ k, k < 6 → ∀ v, v < 2 → ∀ j, j < 6 → (setB S k v).testBit j = if j = k then v == 1 else S.testBit j := by decide +kernel
theorem setB_l : ∀ n, n < 7 → ∀ S, S < 64 → S < 2 ^ n → ∀ k, k < n → ∀ v, v < 2 → setB S k v < 2 ^ n := by decide +kernel
def mSb (m : Mo) (k v : Nat) : Mo := (mTruth m, mPretty m, setB (mSet m) k v, mNight m, mScore m, mSeed m)
theorem stB_sb {s : Sg} {m : Mo} {k v j : Nat} (so : SgOk s) (mo : MoOk s m) (hk : k < 6) (hv : v < 2) (hj : j < 6) : stB (mSb m k v) j = if j = k then v else stB m j := by
  have hset := mo.set so
  unfold stB
  rw [show mSet (mSb m k v) = setB (mSet m) k v from rfl, setB_b _ hset k hk v hv j hj]
  by_cases e : j = k
  · rw [if_pos e, if_pos e]
    rcases (show v = 0 ∨ v = 1 by omega) with rfl | rfl <;> rfl
  · rw [if_neg e, if_neg e]
set_option maxHeartbeats 1000000 in
theorem p_change {v w u : Int32} : Pub (S_28 v w u) (S_196 v w u) := by
  intro h I
  obtain ⟨⟨s, m, C⟩, D⟩ := id I
  obtain ⟨so, mo, hs, hm, q, h4⟩ := id C
  have hn := so.1
  have hset := mo.set so
  cases hr2 : rng 1 4 w with
  | false =>
    cases hr : scn (sN s) v with
    | false => exact ⟨-nI 1, h, h, by simp (disch := omega) only [R_28_65, R_28_62, R_28_50, R_28_47, R_28_40, R_28_92, R_28_89, R_28_77, R_28_74, R_28_67, R_28_116, R_28_113, R_28_101, R_28_98, R_28_94, R_28_136, R_28_133, R_28_127, R_28_124, R_28_118, R_28_138, R_28_10, R_28_8, R_28_5, R_28_0, S_28, gd_t, bI_, bV_, bR_, and_self, and_true, true_and, ↓reduceIte, eq_self, oj_84, bI_1, bI_0, L0, L1, L2, L3, L4, L5, L9, L14, L15, L35, L99, s_14 hn hs.1.n, hr], by simp (disch := omega) only [R_196_102, R_196_99, R_196_86, R_196_81, R_196_78, R_196_70, R_196_66, R_196_63, R_196_56, R_196_51, R_196_48, R_196_39, R_196_34, R_196_31, R_196_22, R_196_17, R_196_14, R_196_5, R_196_0, S_196, gd_t, bI_, bV_, bR_, and_self, and_true, true_and, ↓reduceIte, eq_self, oj_84, bI_1, bI_0, L0, L1, L2, L3, L4, L5, L9, L14, L15, L35, L99, s_180 hn q.1.n, hr, rng_ne hr2], I⟩
    | true => exact ⟨-nI 1, h, h, by simp (disch := omega) only [R_28_65, R_28_62, R_28_50, R_28_47, R_28_40, R_28_92, R_28_89, R_28_77, R_28_74, R_28_67, R_28_116, R_28_113, R_28_101, R_28_98, R_28_94, R_28_136, R_28_133, R_28_127, R_28_124, R_28_118, R_28_138, R_28_10, R_28_8, R_28_5, R_28_0, S_28, gd_t, bI_, bV_, bR_, and_self, and_true, true_and, ↓reduceIte, eq_self, oj_84, bI_1, bI_0, L0, L1, L2, L3, L4, L5, L9, L14, L15, L35, L99, s_14 hn hs.1.n, hr, rng_ne hr2, eq_f], by simp (disch := omega) only [R_196_102, R_196_99, R_196_86, R_196_81, R_196_78, R_196_70, R_196_66, R_196_63, R_196_56, R_196_51, R_196_48, R_196_39, R_196_34, R_196_31, R_196_22, R_196_17, R_196_14, R_196_5, R_196_0, S_196, gd_t, bI_, bV_, bR_, and_self, and_true, true_and, ↓reduceIte, eq_self, oj_84, bI_1, bI_0, L0, L1, L2, L3, L4, L5, L9, L14, L15, L35, L99, s_180 hn q.1.n, hr, rng_ne hr2, eq_f], I⟩
  | true =>
    obtain ⟨x, hx1, hx, rfl⟩ := rng_t hr2
    cases hr : scn (sN s) v with
    | false =>
      refine ⟨-nI 1, h, h, by simp (disch := omega) only [R_28_65, R_28_62, R_28_50, R_28_47, R_28_40, R_28_92, R_28_89, R_28_77, R_28_74, R_28_67, R_28_116, R_28_113, R_28_101, R_28_98, R_28_94, R_28_136, R_28_133, R_28_127, R_28_124, R_28_118, R_28_138, R_28_10, R_28_8, R_28_5, R_28_0, S_28, gd_t, bI_, bV_, bR_, and_self, and_true, true_and, ↓reduceIte, eq_self, oj_84, bI_1, bI_0, L0, L1, L2, L3, L4, L9, L14, L15, L99, s_14 hn hs.1.n, hr], ?_, I⟩
      rcases (show x = 1 ∨ x = 2 ∨ x = 3 ∨ x = 4 by omega) with rfl | rfl | rfl | rfl
      · simp (disch := omega) only [R_196_102, R_196_99, R_196_86, R_196_81, R_196_78, R_196_70, R_196_66, R_196_63, R_196_56, R_196_51, R_196_48, R_196_39, R_196_34, R_196_31, R_196_22, R_196_17, R_196_14, R_196_5, R_196_0, S_196, gd_t, bI_, bV_, bR_, and_self, and_true, true_and, ↓reduceIte, eq_self, oj_84, bI_1, bI_0, L0, L1, L2, L3, L4, L5, L9, L35, L99, le_t, le_f, lt_t, lt_f, eq_t, eq_f, ncl, nI_add, nmul, nsub, ndiv, nrem, nrem', nrN, J0, J99, J9, J5, J1, s_177r, s_180 hn q.1.n, hr]
      · simp (disch := omega) only [R_196_102, R_196_99, R_196_86, R_196_81, R_196_78, R_196_70, R_196_66, R_196_63, R_196_56, R_196_51, R_196_48, R_196_39, R_196_34, R_196_31, R_196_22, R_196_17, R_196_14, R_196_5, R_196_0, S_196, gd_t, bI_, bV_, bR_, and_self, and_true, true_and, ↓reduceIte, eq_self, oj_84, bI_1, bI_0, L0, L1, L2, L3, L4, L5, L9, L35, L99, le_t, le_f, lt_t, lt_f, eq_t, eq_f, ncl, nI_add, nmul, nsub, ndiv, nrem, nrem', nrN, J0, J99, J9, J5, J1, s_177r, s_180 hn q.1.n, hr]
      · simp (disch := omega) only [R_196_102, R_196_99, R_196_86, R_196_81, R_196_78, R_196_70, R_196_66, R_196_63, R_196_56, R_196_51, R_196_48, R_196_39, R_196_34, R_196_31, R_196_22, R_196_17, R_196_14, R_196_5, R_196_0, S_196, gd_t, bI_, bV_, bR_, and_self, and_true, true_and, ↓reduceIte, eq_self, oj_84, bI_1, bI_0, L0, L1, L2, L3, L4, L5, L9, L35, L99, le_t, le_f, lt_t, lt_f, eq_t, eq_f, ncl, nI_add, nmul, nsub, ndiv, nrem, nrem', nrN, J0, J99, J9, J5, J1, s_177r, s_180 hn q.1.n, hr]
      · cases hz : rng 0 1 u <;> simp (disch := omega) only [R_196_102, R_196_99, R_196_86, R_196_81, R_196_78, R_196_70, R_196_66, R_196_63, R_196_56, R_196_51, R_196_48, R_196_39, R_196_34, R_196_31, R_196_22, R_196_17, R_196_14, R_196_5, R_196_0, S_196, gd_t, bI_, bV_, bR_, and_self, and_true, true_and, ↓reduceIte, eq_self, oj_84, bI_1, bI_0, L0, L1, L2, L3, L4, L5, L9, L35, L99, le_t, le_f, lt_t, lt_f, eq_t, eq_f, ncl, nI_add, nmul, nsub, ndiv, nrem, nrem', nrN, J0, J99, J9, J5, J1, s_177r, s_180 hn q.1.n, hr, hz]
    | true =>
      obtain ⟨k, hk, rfl⟩ := scn_t hr
      have hk6 : k < 6 := by omega
      rcases (show x = 1 ∨ x = 2 ∨ x = 3 ∨ x = 4 by omega) with rfl | rfl | rfl | rfl
      · cases hz : rng 0 99 u with
        | false => exact ⟨-nI 1, h, h, by simp (disch := omega) only [R_28_65, R_28_62, R_28_50, R_28_47, R_28_40, R_28_92, R_28_89, R_28_77, R_28_74, R_28_67, R_28_116, R_28_113, R_28_101, R_28_98, R_28_94, R_28_136, R_28_133, R_28_127, R_28_124, R_28_118, R_28_138, R_28_10, R_28_8, R_28_5, R_28_0, S_28, gd_t, bI_, bV_, bR_, and_self, and_true, true_and, ↓reduceIte, eq_self, oj_84, bI_1, bI_0, L0, L1, L2, L3, L4, L5, L9, L14, L15, L35, L99, le_t, le_f, lt_t, lt_f, eq_t, eq_f, ncl, nI_add, nmul, nsub, ndiv, nrem, nrem', nrN, s_14 hn hs.1.n, hr, s_11r, hz], by simp (disch := omega) only [R_196_102, R_196_99, R_196_86, R_196_81, R_196_78, R_196_70, R_196_66, R_196_63, R_196_56, R_196_51, R_196_48, R_196_39, R_196_34, R_196_31, R_196_22, R_196_17, R_196_14, R_196_5, R_196_0, S_196, gd_t, bI_, bV_, bR_, and_self, and_true, true_and, ↓reduceIte, eq_self, oj_84, bI_1, bI_0, L0, L1, L2, L3, L4, L5, L9, L14, L15, L35, L99, le_t, le_f, lt_t, lt_f, eq_t, eq_f, ncl, nI_add, nmul, nsub, ndiv, nrem, nrem', nrN, J0, J99, s_177r, s_180 hn q.1.n, hr, hz], I⟩
        | true =>
          obtain ⟨y, -, hy, rfl⟩ := rng_t hz
          have ht : h 14 k = nI (mTruth m k) := hm.truth hk
          have e := q.1.f1 hk
          refine ⟨nI (mTruth m k), wr h 14 k (nI y), wr (wr h 14 k (nI y)) 85 (35 + 5 * k + 1) (nI y), by simp (disch := omega) only [R_28_65, R_28_62, R_28_50, R_28_47, R_28_40, R_28_92, R_28_89, R_28_77, R_28_74, R_28_67, R_28_116, R_28_113, R_28_101, R_28_98, R_28_94, R_28_136, R_28_133, R_28_127, R_28_124, R_28_118, R_28_138, R_28_10, R_28_8, R_28_5, R_28_0, S_28, R_29_0, S_29, gd_t, bI_, bV_, bR_, and_self, and_true, true_and, ↓reduceIte, eq_self, oj_84, bI_1, bI_0, L0, L1, L2, L3, L4, L5, L9, L14, L15, L35, L99, le_t, le_f, lt_t, lt_f, eq_t, eq_f, ncl, nI_add, nmul, nsub, ndiv, nrem, nrem', nrN, s_14 hn hs.1.n, hr, s_11r, hz, ia_14, ht], by simp (disch := omega) only [R_196_102, R_196_99, R_196_86, R_196_81, R_196_78, R_196_70, R_196_66, R_196_63, R_196_56, R_196_51, R_196_48, R_196_39, R_196_34, R_196_31, R_196_22, R_196_17, R_196_14, R_196_5, R_196_0, S_196, gd_t, bI_, bV_, bR_, and_self, and_true, true_and, ↓reduceIte, eq_self, oj_84, bI_1, bI_0, L0, L1, L2, L3, L4, L5, L9, L14, L15, L35, L99, le_t, le_f, lt_t, lt_f, eq_t, eq_f, ncl, nI_add, nmul, nsub, ndiv, nrem, nrem', nrN, J0, J99, s_177r, s_180 hn (show (wr h 14 k (nI y)) 85 0 = _ from q.1.n), hr, hz, s_197, wr_c, e], Inv.mk C D so (mTr_ok mo hy) ((hs.w (by decide)).w (by decide)) (MoAt.w (hm.Tr) (by decide) (by decide) (by decide)) ((q.w (by decide)).Tr hk6) (by rw [wr_c (by decide), wr_c (by decide)]) ((AgrS.rf.w (by decide)).w85 (by omega))⟩
      · cases hz : rng 0 9 u with
        | false => exact ⟨-nI 1, h, h, by simp (disch := omega) only [R_28_65, R_28_62, R_28_50, R_28_47, R_28_40, R_28_92, R_28_89, R_28_77, R_28_74, R_28_67, R_28_116, R_28_113, R_28_101, R_28_98, R_28_94, R_28_136, R_28_133, R_28_127, R_28_124, R_28_118, R_28_138, R_28_10, R_28_8, R_28_5, R_28_0, S_28, gd_t, bI_, bV_, bR_, and_self, and_true, true_and, ↓reduceIte, eq_self, oj_84, bI_1, bI_0, L0, L1, L2, L3, L4, L5, L9, L14, L15, L35, L99, le_t, le_f, lt_t, lt_f, eq_t, eq_f, ncl, nI_add, nmul, nsub, ndiv, nrem, nrem', nrN, s_14 hn hs.1.n, hr, s_11r, hz], by simp (disch := omega) only [R_196_102, R_196_99, R_196_86, R_196_81, R_196_78, R_196_70, R_196_66, R_196_63, R_196_56, R_196_51, R_196_48, R_196_39, R_196_34, R_196_31, R_196_22, R_196_17, R_196_14, R_196_5, R_196_0, S_196, gd_t, bI_, bV_, bR_, and_self, and_true, true_and, ↓reduceIte, eq_self, oj_84, bI_1, bI_0, L0, L1, L2, L3, L4, L5, L9, L14, L15, L35, L99, le_t, le_f, lt_t, lt_f, eq_t, eq_f, ncl, nI_add, nmul, nsub, ndiv, nrem, nrem', nrN, J0, J9, s_177r, s_180 hn q.1.n, hr, hz], I⟩
        | true =>
          obtain ⟨y, -, hy, rfl⟩ := rng_t hz
          have ht : h 15 k = nI (mPretty m k) := hm.pretty hk
          have e := q.1.f2 hk
          have q2 : SMd (wr (wr h 15 k (nI y)) 85 (35 + 5 * k + 2) (nI y)) s (mP m k y) := (q.w (c := 15) (i := k) (x := nI y) (by decide)).setP hk6 (by rw [wr_row])
          refine ⟨nI (mPretty m k), wr h 15 k (nI y), wr (wr h 15 k (nI y)) 85 (35 + 5 * k + 2) (nI y), by simp (disch := omega) only [R_28_65, R_28_62, R_28_50, R_28_47, R_28_40, R_28_92, R_28_89, R_28_77, R_28_74, R_28_67, R_28_116, R_28_113, R_28_101, R_28_98, R_28_94, R_28_136, R_28_133, R_28_127, R_28_124, R_28_118, R_28_138, R_28_10, R_28_8, R_28_5, R_28_0, S_28, R_29_0, S_29, gd_t, bI_, bV_, bR_, and_self, and_true, true_and, ↓reduceIte, eq_self, oj_84, bI_1, bI_0, L0, L1, L2, L3, L4, L5, L9, L14, L15, L35, L99, le_t, le_f, lt_t, lt_f, eq_t, eq_f, ncl, nI_add, nmul, nsub, ndiv, nrem, nrem', nrN, s_14 hn hs.1.n, hr, s_11r, hz, ia_15, ht], by simp (disch := omega) only [R_196_102, R_196_99, R_196_86, R_196_81, R_196_78, R_196_70, R_196_66, R_196_63, R_196_56, R_196_51, R_196_48, R_196_39, R_196_34, R_196_31, R_196_22, R_196_17, R_196_14, R_196_5, R_196_0, S_196, gd_t, bI_, bV_, bR_, and_self, and_true, true_and, ↓reduceIte, eq_self, oj_84, bI_1, bI_0, L0, L1, L2, L3, L4, L5, L9, L14, L15, L35, L99, le_t, le_f, lt_t, lt_f, eq_t, eq_f, ncl, nI_add, nmul, nsub, ndiv, nrem, nrem', nrN, J0, J9, s_177r, s_180 hn (show (wr h 15 k (nI y)) 85 0 = _ from q.1.n), hr, hz, s_197, wr_c, e], Inv.mk C D so (mP_ok mo hy) ((hs.w (by decide)).w (by decide)) (MoAt.w (hm.setP (wr_c (by decide)) (wr_c (by decide)) wr_self (fun j hj => wr_k hj)) (by decide) (by decide) (by decide)) q2 (by rw [wr_c (by decide), wr_c (by decide)]) ((AgrS.rf.w (by decide)).w85 (by omega))⟩
      · cases hz : rng 0 5 u with
        | false => exact ⟨-nI 1, h, h, by simp (disch := omega) only [R_28_65, R_28_62, R_28_50, R_28_47, R_28_40, R_28_92, R_28_89, R_28_77, R_28_74, R_28_67, R_28_116, R_28_113, R_28_101, R_28_98, R_28_94, R_28_136, R_28_133, R_28_127, R_28_124, R_28_118, R_28_138, R_28_10, R_28_8, R_28_5, R_28_0, S_28, gd_t, bI_, bV_, bR_, and_self, and_true, true_and, ↓reduceIte, eq_self, oj_84, bI_1, bI_0, L0, L1, L2, L3, L4, L5, L9, L14, L15, L35, L99, le_t, le_f, lt_t, lt_f, eq_t, eq_f, ncl, nI_add, nmul, nsub, ndiv, nrem, nrem', nrN, s_14 hn hs.1.n, hr, s_12, hz], by simp (disch := omega) only [R_196_102, R_196_99, R_196_86, R_196_81, R_196_78, R_196_70, R_196_66, R_196_63, R_196_56, R_196_51, R_196_48, R_196_39, R_196_34, R_196_31, R_196_22, R_196_17, R_196_14, R_196_5, R_196_0, S_196, gd_t, bI_, bV_, bR_, and_self, and_true, true_and, ↓reduceIte, eq_self, oj_84, bI_1, bI_0, L0, L1, L2, L3, L4, L5, L9, L14, L15, L35, L99, le_t, le_f, lt_t, lt_f, eq_t, eq_f, ncl, nI_add, nmul, nsub, ndiv, nrem, nrem', nrN, J0, J5, s_177r, s_180 hn q.1.n, hr, hz], I⟩
        | true =>
          obtain ⟨y, -, hy, rfl⟩ := rng_t hz
          have e := q.1.f3 hk
          have q2 : SMd (wr (wr h 3 k (nI y)) 85 (35 + 5 * k + 3) (nI y)) (sPl s k y) m := (q.w (c := 3) (i := k) (x := nI y) (by decide)).setPl hk6 (by rw [wr_row])
          have hs2 : SF (wr h 3 k (nI y)) (sPl s k y) := hs.setPl (fun c _ _ hc => wr_c hc) wr_self (fun j hj => wr_k hj)
          have hm2 : MoAt (wr (wr h 3 k (nI y)) 85 (35 + 5 * k + 3) (nI y)) 13 (sPl s k y) m := (hm.w (c := 3) (i := k) (x := nI y) (by decide) (by decide) (by decide)).w (c := 85) (by decide) (by decide) (by decide)
          refine ⟨nI (sPlace s k), wr h 3 k (nI y), wr (wr h 3 k (nI y)) 85 (35 + 5 * k + 3) (nI y), by simp (disch := omega) only [R_28_65, R_28_62, R_28_50, R_28_47, R_28_40, R_28_92, R_28_89, R_28_77, R_28_74, R_28_67, R_28_116, R_28_113, R_28_101, R_28_98, R_28_94, R_28_136, R_28_133, R_28_127, R_28_124, R_28_118, R_28_138, R_28_10, R_28_8, R_28_5, R_28_0, S_28, R_29_0, S_29, gd_t, bI_, bV_, bR_, and_self, and_true, true_and, ↓reduceIte, eq_self, oj_84, bI_1, bI_0, L0, L1, L2, L3, L4, L5, L9, L14, L15, L35, L99, le_t, le_f, lt_t, lt_f, eq_t, eq_f, ncl, nI_add, nmul, nsub, ndiv, nrem, nrem', nrN, s_14 hn hs.1.n, hr, s_12, hz, ia_3, hs.1.place], by simp (disch := omega) only [R_196_102, R_196_99, R_196_86, R_196_81, R_196_78, R_196_70, R_196_66, R_196_63, R_196_56, R_196_51, R_196_48, R_196_39, R_196_34, R_196_31, R_196_22, R_196_17, R_196_14, R_196_5, R_196_0, S_196, gd_t, bI_, bV_, bR_, and_self, and_true, true_and, ↓reduceIte, eq_self, oj_84, bI_1, bI_0, L0, L1, L2, L3, L4, L5, L9, L14, L15, L35, L99, le_t, le_f, lt_t, lt_f, eq_t, eq_f, ncl, nI_add, nmul, nsub, ndiv, nrem, nrem', nrN, J0, J5, s_177r, s_180 hn (show (wr h 3 k (nI y)) 85 0 = _ from q.1.n), hr, hz, s_197, wr_c, e], Inv.mk (m' := m) C D (sPl_ok so hy) mo (hs2.w (by decide)) hm2 q2 (by rw [wr_c (by decide), wr_c (by decide)]) ((AgrS.rf.w (by decide)).w85 (by omega))⟩
      · cases hz : rng 0 1 u with
        | false => exact ⟨-nI 1, h, h, by simp (disch := omega) only [R_28_65, R_28_62, R_28_50, R_28_47, R_28_40, R_28_92, R_28_89, R_28_77, R_28_74, R_28_67, R_28_116, R_28_113, R_28_101, R_28_98, R_28_94, R_28_136, R_28_133, R_28_127, R_28_124, R_28_118, R_28_138, R_28_10, R_28_8, R_28_5, R_28_0, S_28, gd_t, bI_, bV_, bR_, and_self, and_true, true_and, ↓reduceIte, eq_self, oj_84, bI_1, bI_0, L0, L1, L2, L3, L4, L5, L9, L14, L15, L35, L99, le_t, le_f, lt_t, lt_f, eq_t, eq_f, ncl, nI_add, nmul, nsub, ndiv, nrem, nrem', nrN, s_14 hn hs.1.n, hr, s_11r, hz], by simp (disch := omega) only [R_196_102, R_196_99, R_196_86, R_196_81, R_196_78, R_196_70, R_196_66, R_196_63, R_196_56, R_196_51, R_196_48, R_196_39, R_196_34, R_196_31, R_196_22, R_196_17, R_196_14, R_196_5, R_196_0, S_196, gd_t, bI_, bV_, bR_, and_self, and_true, true_and, ↓reduceIte, eq_self, oj_84, bI_1, bI_0, L0, L1, L2, L3, L4, L5, L9, L14, L15, L35, L99, le_t, le_f, lt_t, lt_f, eq_t, eq_f, ncl, nI_add, nmul, nsub, ndiv, nrem, nrem', nrN, J0, J1, s_177r, s_180 hn q.1.n, hr, hz], I⟩
        | true =>
          obtain ⟨y, -, hy, rfl⟩ := rng_t hz
          have hb1 := stB_le m k
          have hi := setB_i _ hset k hk6 y (by omega)
          have e := q.1.f4 hk
          have mo2 : MoOk s (mSb m k y) := ⟨mo.1, setB_l _ (by omega) _ hset mo.2.1 k hk y (by omega), mo.2.2⟩
          have hm2 : MoAt (wr h 13 2 (nI (setB (mSet m) k y))) 13 s (mSb m k y) := ⟨fun j hj => ⟨by rw [wr_c (by decide)]; exact hm.truth hj, by rw [wr_c (by decide)]; exact hm.pretty hj⟩, by rw [wr_self]; rfl, by rw [wr_k (by decide)]; exact hm.night, by rw [wr_k (by decide)]; exact hm.score, by rw [wr_k (by decide)]; exact hm.seed⟩
          have q2 : SMd (wr (wr h 13 2 (nI (setB (mSet m) k y))) 85 (35 + 5 * k + 4) (nI y)) s (mSb m k y) := by
            have q0 := q.w (c := 13) (i := 2) (x := nI (setB (mSet m) k y)) (by decide)
            refine ⟨q0.1.sc (fun j hj => wr_k (by omega)) (fun j hj => ⟨wr_k (by omega), wr_k (by omega)⟩) (fun j hj => ⟨by rw [wr_k (by omega)]; exact q0.1.f1 hj, by rw [wr_k (by omega)]; exact q0.1.f2 hj, ?_⟩) rfl rfl rfl, q0.2.congr (fun j hj => wr_k (by omega))⟩
            rw [stB_sb so mo hk6 (by omega) (by omega)]
            by_cases ej : j = k
            · rw [ej, wr_self, if_pos rfl]
            · rw [wr_k (by omega), if_neg ej]; exact q0.1.f4 hj
          refine ⟨nI (stB m k), wr h 13 2 (nI (setB (mSet m) k y)), wr (wr h 13 2 (nI (setB (mSet m) k y))) 85 (35 + 5 * k + 4) (nI y), ?_, by simp (disch := omega) only [R_196_102, R_196_99, R_196_86, R_196_81, R_196_78, R_196_70, R_196_66, R_196_63, R_196_56, R_196_51, R_196_48, R_196_39, R_196_34, R_196_31, R_196_22, R_196_17, R_196_14, R_196_5, R_196_0, S_196, gd_t, bI_, bV_, bR_, and_self, and_true, true_and, ↓reduceIte, eq_self, oj_84, bI_1, bI_0, L0, L1, L2, L3, L4, L5, L9, L35, L99, le_t, le_f, lt_t, lt_f, eq_t, eq_f, ncl, nI_add, nmul, nsub, ndiv, nrem, nrem', nrN, J0, J1, s_177r, s_180 hn (show (wr h 13 2 (nI (setB (mSet m) k y))) 85 0 = _ from q.1.n), hr, hz, s_197, wr_c, e], Inv.mk C D so mo2 ((hs.w (by decide)).w (by decide)) (hm2.w (by decide) (by decide) (by decide)) q2 (by rw [wr_c (by decide), wr_c (by decide)]) ((AgrS.rf.w (by decide)).w85 (by omega))⟩
          rcases (show stB m k = 0 ∨ stB m k = 1 by omega) with e0 | e0 <;> simp (disch := omega) only [R_28_65, R_28_62, R_28_50, R_28_47, R_28_40, R_28_92, R_28_89, R_28_77, R_28_74, R_28_67, R_28_116, R_28_113, R_28_101, R_28_98, R_28_94, R_28_136, R_28_133, R_28_127, R_28_124, R_28_118, R_28_138, R_28_10, R_28_8, R_28_5, R_28_0, S_28, R_30_15, R_30_11, R_30_8, R_30_0, S_30, gd_t, bI_, bV_, bR_, and_self, and_true, true_and, ↓reduceIte, eq_self, oj_84, bI_1, bI_0, L0, L1, L2, L3, L4, L9, L13, L14, L15, L31, L99, le_t, le_f, lt_t, lt_f, eq_t, eq_f, ncl, nI_add, nmul, nsub, ndiv, nrem, nrem', nrN, s_14 hn hs.1.n, hr, s_11r, hz, s_15 mo13 hm, e0, hm.set, hi]
theorem p_scene {v w u z : Int32} : Pub (S_10 v w u z) (S_176 v w u z) := by
  intro h I
  obtain ⟨⟨s, m, C⟩, D⟩ := id I
  obtain ⟨so, mo, hs, hm, q, h4⟩ := id C
  have hn := so.1
  cases hr : rng 1 5 v with
  | false => exact ⟨-nI 1, h, h, by simp (disch := omega) only [R_10_19, R_10_39, R_10_56, R_10_53, R_10_41, R_10_36, R_10_31, R_10_28, R_10_21, R_10_16, R_10_9, R_10_6, R_10_0, S_10, gd_t, bI_, bV_, bR_, and_self, and_true, true_and, ↓reduceIte, eq_self, oj_84, bI_1, bI_0, L0, L1, L2, L3, L4, L5, L6, L7, L9, L14, L15, L85, L99, s_11r, hr], by simp (disch := omega) only [R_176_49, R_176_114, R_176_106, R_176_97, R_176_89, R_176_81, R_176_65, R_176_62, R_176_51, R_176_46, R_176_36, R_176_33, R_176_24, R_176_21, R_176_12, R_176_9, R_176_0, S_176, gd_t, bI_, bV_, bR_, and_self, and_true, true_and, ↓reduceIte, eq_self, oj_84, bI_1, bI_0, L0, L1, L2, L3, L4, L5, L6, L7, L9, L14, L15, L85, L99, J1, J5, s_177r, hr], I⟩
  | true =>
    cases hr2 : rng 0 99 w with
    | false => exact ⟨-nI 1, h, h, by simp (disch := omega) only [R_10_19, R_10_39, R_10_56, R_10_53, R_10_41, R_10_36, R_10_31, R_10_28, R_10_21, R_10_16, R_10_9, R_10_6, R_10_0, S_10, gd_t, bI_, bV_, bR_, and_self, and_true, true_and, ↓reduceIte, eq_self, oj_84, bI_1, bI_0, L0, L1, L2, L3, L4, L5, L6, L7, L9, L14, L15, L85, L99, s_11r, hr, hr2, eq_f], by simp (disch := omega) only [R_176_49, R_176_114, R_176_106, R_176_97, R_176_89, R_176_81, R_176_65, R_176_62, R_176_51, R_176_46, R_176_36, R_176_33, R_176_24, R_176_21, R_176_12, R_176_9, R_176_0, S_176, gd_t, bI_, bV_, bR_, and_self, and_true, true_and, ↓reduceIte, eq_self, oj_84, bI_1, bI_0, L0, L1, L2, L3, L4, L5, L6, L7, L9, L14, L15, L85, L99, J1, J5, J0, J99, s_177r, hr, hr2, eq_f], I⟩
    | true =>
      cases hr3 : rng 0 9 u with
      | false => exact ⟨-nI 1, h, h, by simp (disch := omega) only [R_10_19, R_10_39, R_10_56, R_10_53, R_10_41, R_10_36, R_10_31, R_10_28, R_10_21, R_10_16, R_10_9, R_10_6, R_10_0, S_10, gd_t, bI_, bV_, bR_, and_self, and_true, true_and, ↓reduceIte, eq_self, oj_84, bI_1, bI_0, L0, L1, L2, L3, L4, L5, L6, L7, L9, L14, L15, L85, L99, s_11r, hr, hr2, hr3, eq_f], by simp (disch := omega) only [R_176_49, R_176_114, R_176_106, R_176_97, R_176_89, R_176_81, R_176_65, R_176_62, R_176_51, R_176_46, R_176_36, R_176_33, R_176_24, R_176_21, R_176_12, R_176_9, R_176_0, S_176, gd_t, bI_, bV_, bR_, and_self, and_true, true_and, ↓reduceIte, eq_self, oj_84, bI_1, bI_0, L0, L1, L2, L3, L4, L5, L6, L7, L9, L14, L15, L85, L99, J1, J5, J0, J99, J9, s_177r, hr, hr2, hr3, eq_f], I⟩
      | true =>
        cases hr4 : rng 0 5 z with
        | false => exact ⟨-nI 1, h, h, by simp (disch := omega) only [R_10_19, R_10_39, R_10_56, R_10_53, R_10_41, R_10_36, R_10_31, R_10_28, R_10_21, R_10_16, R_10_9, R_10_6, R_10_0, S_10, gd_t, bI_, bV_, bR_, and_self, and_true, true_and, ↓reduceIte, eq_self, oj_84, bI_1, bI_0, L0, L1, L2, L3, L4, L5, L6, L7, L9, L14, L15, L85, L99, s_11r, s_12, hr, hr2, hr3, hr4, eq_f], by simp (disch := omega) only [R_176_49, R_176_114, R_176_106, R_176_97, R_176_89, R_176_81, R_176_65, R_176_62, R_176_51, R_176_46, R_176_36, R_176_33, R_176_24, R_176_21, R_176_12, R_176_9, R_176_0, S_176, gd_t, bI_, bV_, bR_, and_self, and_true, true_and, ↓reduceIte, eq_self, oj_84, bI_1, bI_0, L0, L1, L2, L3, L4, L5, L6, L7, L9, L14, L15, L85, L99, J1, J5, J0, J99, J9, s_177r, hr, hr2, hr3, hr4, eq_f], I⟩
        | true =>
          by_cases c : sN s < 6
          · obtain ⟨kd, hk1, hk5, rfl⟩ := rng_t hr
            obtain ⟨t, -, ht, rfl⟩ := rng_t hr2
            obtain ⟨p, -, hp, rfl⟩ := rng_t hr3
            obtain ⟨f, -, hf, rfl⟩ := rng_t hr4
            generalize en : sN s = n at *
            have eN : h 1 7 = nI n := by rw [← en]; exact hs.1.n
            have eM : h 85 0 = nI n := by rw [← en]; exact q.1.n
            have hbit : (mSet m).testBit n = false := Nat.testBit_lt_two_pow (by rw [← en]; exact mo.2.1)
            let s' : Sg := (n + 1, upN (sKind s) n kd, upN (sPlace s) n f, sHouse s, sLight s, sNoise s, sEnd s, sRules s)
            let m' : Mo := (upN (mTruth m) n t, upN (mPretty m) n p, mSet m, mNight m, mScore m, mSeed m)
            have lt : ∀ {j : Nat}, j < n + 1 → j ≠ n → j < sN s := fun h1 h2 => by rw [en]; omega
            have so' : SgOk s' := ⟨by show n + 1 ≤ 6; omega, fun j hj => by
              show 1 ≤ upN (sKind s) n kd j ∧ upN (sKind s) n kd j ≤ 5 ∧ upN (sPlace s) n f j ≤ 5
              by_cases e : j = n
              · rw [e, upN_s, upN_s]; exact ⟨hk1, hk5, hf⟩
              · rw [upN_n e, upN_n e]; exact so.2.1 j (lt hj e), so.2.2⟩
            have mo' : MoOk s' m' := ⟨fun j hj => ⟨upN_le ht (fun e => (mo.1 j (lt hj e)).1), upN_le hp (fun e => (mo.1 j (lt hj e)).2)⟩, Nat.lt_of_lt_of_le mo.2.1 (Nat.pow_le_pow_right (by decide) (by show sN s ≤ n + 1; omega)), mo.2.2⟩
            refine ⟨nI n, wr (wr (wr (wr (wr h 1 7 (nI (n + 1))) 2 n (nI kd)) 3 n (nI f)) 14 n (nI t)) 15 n (nI p), wr (wr (wr (wr (wr (wr (wr (wr (wr (wr (wr h 1 7 (nI (n + 1))) 2 n (nI kd)) 3 n (nI f)) 14 n (nI t)) 15 n (nI p)) 85 (35 + 5 * n + 0) (nI kd)) 85 (35 + 5 * n + 1) (nI t)) 85 (35 + 5 * n + 2) (nI p)) 85 (35 + 5 * n + 3) (nI f)) 85 (35 + 5 * n + 4) (nI 0)) 85 0 (nI (n + 1)), ?_, ?_, Inv.mk C D so' mo' ?_ ?_ ⟨?_, ?_⟩ ?_ ?_⟩
            · simp (disch := omega) only [R_10_19, R_10_39, R_10_56, R_10_53, R_10_41, R_10_36, R_10_31, R_10_28, R_10_21, R_10_16, R_10_9, R_10_6, R_10_0, S_10, gd_t, bI_, bV_, bR_, and_self, and_true, true_and, ↓reduceIte, eq_self, oj_84, bI_1, bI_0, L0, L1, L2, L3, L5, L6, L7, L9, L14, L15, L99, le_t, le_f, lt_t, lt_f, eq_t, eq_f, ncl, nI_add, nmul, nsub, ndiv, nrem, nrem', nrN, s_11r, s_12, hr, hr2, hr3, hr4, eN, ia_2, ia_3, ia_14, ia_15]
            · simp (disch := omega) only [R_176_49, R_176_114, R_176_106, R_176_97, R_176_89, R_176_81, R_176_65, R_176_62, R_176_51, R_176_46, R_176_36, R_176_33, R_176_24, R_176_21, R_176_12, R_176_9, R_176_0, S_176, gd_t, bI_, bV_, bR_, and_self, and_true, true_and, ↓reduceIte, eq_self, oj_84, bI_1, bI_0, L0, L1, L2, L3, L4, L5, L6, L9, L85, L99, le_t, le_f, lt_t, lt_f, eq_t, eq_f, ncl, nI_add, nmul, nsub, ndiv, nrem, nrem', nrN, J1, J5, J0, J99, J9, s_177r, hr, hr2, hr3, hr4, wr_c, wr_k, eM, ia_85, s_178]
            · refine SF.congr (h := wr (wr (wr h 1 7 (nI (n + 1))) 2 n (nI kd)) 3 n (nI f)) ?_ (fun c _ _ => by simp (disch := omega) only [wr_c])
              refine ⟨⟨by simp (disch := omega) only [wr_c, wr_s]; rfl, fun j hj => ?_, fun x hx => by simp (disch := omega) only [wr_c]; exact hs.1.house hx, fun x hx => by simp (disch := omega) only [wr_c]; exact hs.1.2.2.2.1 x hx, by simp (disch := omega) only [wr_c, wr_k]; exact hs.1.end_⟩, hs.2.congr (by simp (disch := omega) only [wr_c]) (by simp (disch := omega) only [wr_c]) (by simp (disch := omega) only [wr_c]) (by simp (disch := omega) only [wr_c]) (by simp (disch := omega) only [wr_c])⟩
              show _ = nI (upN (sKind s) n kd j) ∧ _ = nI (upN (sPlace s) n f j)
              by_cases e : j = n
              · rw [e, upN_s, upN_s]
                simp (disch := omega) only [wr_c, wr_s, and_self]
              · rw [upN_n e, upN_n e]
                simp (disch := omega) only [wr_c, wr_k]
                exact hs.1.2.1 j (lt hj e)
            · refine ⟨fun j hj => ?_, by simp (disch := omega) only [wr_c]; exact hm.set, by simp (disch := omega) only [wr_c]; exact hm.night, by simp (disch := omega) only [wr_c]; exact hm.score, by simp (disch := omega) only [wr_c]; exact hm.seed⟩
              show _ = nI (upN (mTruth m) n t j) ∧ _ = nI (upN (mPretty m) n p j)
              by_cases e : j = n
              · rw [e, upN_s, upN_s]
                simp (disch := omega) only [wr_c, wr_s, and_self]
              · rw [upN_n e, upN_n e]
                simp (disch := omega) only [wr_c, wr_k]
                exact hm.1 j (lt hj e)
            · obtain ⟨a0, a1, a2, a3, a4, a5, a6, a7⟩ := q.1
              refine ⟨by simp (disch := omega) only [wr_s]; rfl, by simp (disch := omega) only [wr_c, wr_k]; exact a1, by simp (disch := omega) only [wr_c, wr_k]; exact a2, by simp (disch := omega) only [wr_c, wr_k]; exact a3, by simp (disch := omega) only [wr_c, wr_k]; exact a4, fun x hx => by simp (disch := omega) only [wr_c, wr_k]; exact a5 x hx, fun x hx => by simp (disch := omega) only [wr_c, wr_k]; exact a6 x hx, fun j hj => ?_⟩
              show _ = nI (upN (sKind s) n kd j) ∧ _ = nI (upN (mTruth m) n t j) ∧ _ = nI (upN (mPretty m) n p j) ∧ _ = nI (upN (sPlace s) n f j) ∧ _ = nI (stB m j)
              by_cases e : j = n
              · have e0 : stB m n = 0 := by unfold stB; rw [hbit]; rfl
                rw [e, upN_s, upN_s, upN_s, upN_s, e0]
                simp (disch := omega) only [wr_k, wr_s, and_self]
              · rw [upN_n e, upN_n e, upN_n e, upN_n e]
                simp (disch := omega) only [wr_c, wr_k]
                exact a7 j (lt hj e)
            · refine q.2.congr (fun j hj => ?_)
              simp (disch := omega) only [wr_c, wr_k]
            · simp (disch := omega) only [wr_c]
            · exact (((((((((((AgrS.rf.w (by decide)).w (by decide)).w (by decide)).w (by decide)).w (by decide)).w85 (by omega)).w85 (by omega)).w85 (by omega)).w85 (by omega)).w85 (by omega)).w85 (by omega))
          · have e6 : sN s = 6 := by omega
            have eN : h 1 7 = nI 6 := by rw [← e6]; exact hs.1.n
            have eM : h 85 0 = nI 6 := by rw [← e6]; exact q.1.n
            exact ⟨-nI 2, h, h, by simp (disch := omega) only [R_10_19, R_10_39, R_10_56, R_10_53, R_10_41, R_10_36, R_10_31, R_10_28, R_10_21, R_10_16, R_10_9, R_10_6, R_10_0, S_10, gd_t, bI_, bV_, bR_, and_self, and_true, true_and, ↓reduceIte, eq_self, oj_84, bI_1, bI_0, L0, L1, L2, L3, L4, L5, L6, L7, L9, L14, L15, L85, L99, le_t, le_f, lt_t, lt_f, eq_t, eq_f, ncl, nI_add, nmul, nsub, ndiv, nrem, nrem', nrN, s_11r, s_12, hr, hr2, hr3, hr4, eN], by simp (disch := omega) only [R_176_49, R_176_114, R_176_106, R_176_97, R_176_89, R_176_81, R_176_65, R_176_62, R_176_51, R_176_46, R_176_36, R_176_33, R_176_24, R_176_21, R_176_12, R_176_9, R_176_0, S_176, gd_t, bI_, bV_, bR_, and_self, and_true, true_and, ↓reduceIte, eq_self, oj_84, bI_1, bI_0, L0, L1, L2, L3, L4, L5, L6, L7, L9, L14, L15, L85, L99, le_t, le_f, lt_t, lt_f, eq_t, eq_f, ncl, nI_add, nmul, nsub, ndiv, nrem, nrem', nrN, J1, J5, J0, J99, J9, s_177r, hr, hr2, hr3, hr4, eM, ia_85], I⟩
theorem p_anew : Pub S_36 S_203 := by
  intro h I
  obtain ⟨⟨s, m, C⟩, D⟩ := id I
  obtain ⟨so, mo, hs, hm, q, h4⟩ := id C
  have hn := so.1
  let m' : Mo := (mTruth m, mPretty m, 0, 0, nI 0, mSeed m)
  have mo' : MoOk s m' := ⟨mo.1, Nat.two_pow_pos _, Nat.zero_le _⟩
  obtain ⟨h1, eh1⟩ : ∃ h1, h1 = wr (wr (wr h 13 3 (nI 0)) 13 4 (nI 0)) 13 2 (nI 0) := ⟨_, rfl⟩
  have q1 : SMd h1 s m := by rw [eh1]; exact ((q.w (by decide)).w (by decide)).w (by decide)
  have hm1 : MoAt h1 13 s m' := by
    rw [eh1]
    exact ⟨fun j hj => ⟨by simp (disch := omega) only [wr_c]; exact hm.truth hj, by simp (disch := omega) only [wr_c]; exact hm.pretty hj⟩, by simp (disch := omega) only [wr_s]; rfl, by simp (disch := omega) only [wr_k, wr_s]; rfl, by simp (disch := omega) only [wr_k, wr_s]; rfl, by simp (disch := omega) only [wr_k]; exact hm.seed⟩
  have loop : ∀ j i n : Nat, i + j = sN s → j < n → ∀ H, MFr h1 H → H 85 1 = nI (mNight m) → H 85 3 = nI 0 → (∀ t, (t = 4 ∨ (35 ≤ t ∧ ∀ k, k < i → t ≠ 35 + 5 * k + 4)) → H 85 t = h1 85 t) → (∀ k, k < i → H 85 (35 + 5 * k + 4) = nI 0) → ∃ h', H_203_9 n (nI i) H = some (nI (mNight m), h') ∧ MFr h1 h' ∧ SMd h' s m' := by
    intro j
    induction j with
    | zero =>
      intro i n e hj H f e1 e3 ho hz
      obtain ⟨n, rfl⟩ : ∃ p, n = p + 1 := ⟨n - 1, by omega⟩
      have ei : i = sN s := by omega
      have f2 : MFr h1 (wr H 85 1 (nI 0)) := f.wr (by omega)
      have e0 : H 85 0 = nI (sN s) := by rw [f.2 0 (by omega)]; exact q1.1.n
      refine ⟨wr H 85 1 (nI 0), ?_, f2, ?_, q1.rules f2⟩
      · simp (disch := omega) only [H_203_9, R_203_38, R_203_32, R_203_26, R_203_19, R_203_9, R_203_0, S_203, gd_t, bI_, bV_, bR_, and_self, and_true, true_and, ↓reduceIte, eq_self, oj_84, bI_1, bI_0, L0, L1, L3, L4, L85, le_t, le_f, lt_t, lt_f, eq_t, eq_f, ncl, nI_add, nmul, nsub, ndiv, nrem, nrem', nrN, ia_85, e0, ei, s_197, e1]
      · obtain ⟨a0, a1, a2, a3, a4, a5, a6, a7⟩ := q1.1
        refine ⟨by rw [f2.2 0 (by omega)]; exact a0, by rw [wr_self], by rw [f2.2 2 (by omega)]; exact a2, by rw [wr_k (by decide), e3], by rw [wr_k (by decide), ho 4 (by omega)]; exact a4, fun x hx => by rw [f2.2 _ (by omega)]; exact a5 x hx, fun x hx => by rw [f2.2 _ (by omega), f2.2 _ (by omega)]; exact a6 x hx, fun k hk => ?_⟩
        obtain ⟨b1, b2, b3, b4, b5⟩ := a7 k hk
        refine ⟨by rw [wr_k (by omega), ho _ (Or.inr ⟨by omega, fun _ _ => by omega⟩)]; exact b1, by rw [wr_k (by omega), ho _ (Or.inr ⟨by omega, fun _ _ => by omega⟩)]; exact b2, by rw [wr_k (by omega), ho _ (Or.inr ⟨by omega, fun _ _ => by omega⟩)]; exact b3, by rw [wr_k (by omega), ho _ (Or.inr ⟨by omega, fun _ _ => by omega⟩)]; exact b4, ?_⟩
        rw [wr_k (by omega), hz k (by omega)]
        show nI 0 = nI ((0 : Nat).testBit k).toNat
        rw [Nat.zero_testBit]
        rfl
    | succ j ih =>
      intro i n e hj H f e1 e3 ho hz
      obtain ⟨n, rfl⟩ : ∃ p, n = p + 1 := ⟨n - 1, by omega⟩
      have e0 : H 85 0 = nI (sN s) := by rw [f.2 0 (by omega)]; exact q1.1.n
      have nx := ih (i + 1) n (by omega) (by omega) (wr H 85 (35 + 5 * i + 4) (nI 0)) (f.wr (by omega)) (by rw [wr_k (by omega)]; exact e1) (by rw [wr_k (by omega)]; exact e3) (fun t ht => by
        rcases ht with rfl | ⟨h1', h2'⟩
        · rw [wr_k (by omega)]; exact ho 4 (Or.inl rfl)
        · rw [wr_k (h2' i (by omega))]; exact ho t (Or.inr ⟨h1', fun k hk => h2' k (by omega)⟩)) (fun k hk => by
        by_cases ek : k = i
        · rw [ek, wr_self]
        · rw [wr_k (by omega)]; exact hz k (by omega))
      simp (disch := omega) only [H_203_9, R_203_38, R_203_32, R_203_26, R_203_19, R_203_9, R_203_0, S_203, gd_t, bI_, bV_, bR_, and_self, and_true, true_and, ↓reduceIte, eq_self, oj_84, bI_1, bI_0, L0, L1, L3, L4, L85, le_t, le_f, lt_t, lt_f, eq_t, eq_f, ncl, nI_add, nmul, nsub, ndiv, nrem, nrem', nrN, ia_85, e0, s_178]
      exact nx
  obtain ⟨h2, g2, f2, q2⟩ := loop (sN s) 0 fuL (by omega) (fuL_gt (by omega)) (wr h1 85 3 (nI 0)) (MFr.rf.wr (by omega)) (by rw [wr_k (by decide)]; exact q1.1.night) (by rw [wr_self]) (fun t ht => wr_k (by omega)) (fun k hk => by omega)
  refine ⟨nI (mNight m), h1, h2, ?_, ?_, Inv.step C D mo' (by rw [eh1]; exact ((Same.rf.wr (by simp)).wr (by simp)).wr (by simp)) hm1 f2 q2⟩
  · rw [eh1]
    simp (disch := omega) only [R_36_0, S_36, gd_t, bI_, bV_, bR_, and_self, and_true, true_and, ↓reduceIte, eq_self, oj_84, bI_1, bI_0, L0, L1, L2, L3, L4, L13, hm.night]
  · simp (disch := omega) only [R_203_38, R_203_32, R_203_26, R_203_19, R_203_9, R_203_0, S_203, gd_t, bI_, bV_, bR_, and_self, and_true, true_and, ↓reduceIte, eq_self, oj_84, bI_1, bI_0, L0, L1, L3, L4, L85, ncl, ia_85]
    exact g2
