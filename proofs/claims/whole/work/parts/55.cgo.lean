/-! part 55: will, mayBeMended, actOfRest, mend, trim, goBy of the class -/
theorem s_27 {h : Hp} {f : Nat → Nat} {L : List Nat} {i to : Nat} {c : (Nat → Nat) → Bool} (hto : i + L.length = to) (h2 : to ≤ 200) (hs : SegAt (h 11) i L) (hc : CdL L c) (hf : ∀ j, j < 5 → h 12 j = nI (f j) ∧ f j < 2147483648) : S_27 (nI i) (nI to) 12 h = some (bI (c f), h) := by
  rcases hc with ⟨rfl, hc⟩ | ⟨hL, hc⟩
  · have g := hold_c h2 hf 0 [] i 1 1 fuL (Nat.le_refl _) hto (fuL_gt (by simp)) (by decide) hs rfl
    have e : i = to := by simpa using hto
    rw [hc f]
    simp (disch := omega) only [R_27_283, R_27_279, R_27_271, R_27_265, R_27_258, R_27_254, R_27_245, R_27_242, R_27_238, R_27_231, R_27_224, R_27_221, R_27_217, R_27_210, R_27_200, R_27_196, R_27_178, R_27_171, R_27_165, R_27_149, R_27_142, R_27_136, R_27_101, R_27_93, R_27_81, R_27_74, R_27_59, R_27_52, R_27_43, R_27_21, R_27_15, R_27_9, R_27_5, R_27_0, S_27, gd_t, bI_, bV_, bR_, and_self, and_true, true_and, ↓reduceIte, eq_self, oj_84, bI_1, bI_0, L0, L1, L2, L5, L10, L11, L12, L20, L22, L31, L10000, le_t, le_f, lt_t, lt_f, eq_t, eq_f, ncl, nI_add, nmul, nsub, ndiv, nrem, nrem', nrN, e]
    rw [e] at g
    exact g
  · have hl : 0 < L.length := List.length_pos_iff.mpr hL
    obtain ⟨R, hR, hv⟩ := hc f
    have g := hold_c h2 hf L.length L i 0 R fuL (Nat.le_refl _) hto (fuL_gt (by omega)) (by decide) hs hR
    rw [hv] at g
    simp (disch := omega) only [R_27_283, R_27_279, R_27_271, R_27_265, R_27_258, R_27_254, R_27_245, R_27_242, R_27_238, R_27_231, R_27_224, R_27_221, R_27_217, R_27_210, R_27_200, R_27_196, R_27_178, R_27_171, R_27_165, R_27_149, R_27_142, R_27_136, R_27_101, R_27_93, R_27_81, R_27_74, R_27_59, R_27_52, R_27_43, R_27_21, R_27_15, R_27_9, R_27_5, R_27_0, S_27, gd_t, bI_, bV_, bR_, and_self, and_true, true_and, ↓reduceIte, eq_self, oj_84, bI_1, bI_0, L0, L1, L2, L5, L10, L11, L12, L20, L22, L31, L10000, le_t, le_f, lt_t, lt_f, eq_t, eq_f, ncl, nI_add, nmul, nsub, ndiv, nrem, nrem', nrN]
    exact g
theorem s_25 {h : Hp} {f : Nat → Nat} {rl : Rl} {kind : Nat} (hk : kind ≤ 5) (hr : RulesAt h 7 rl) (hf : ∀ j, j < 5 → h 12 j = nI (f j) ∧ f j < 2147483648) : S_25 (nI kind) 12 h = some (nI (willR kind f rl), h) := by
  obtain ⟨h5, hlen, b, Ls, hb0, hrow⟩ := hr
  have loop : ∀ j r n : Nat, r + j = rl.length → j < n → H_25_5 n (nI kind) 12 (nI (b r)) (nI r) h = some (nI (willR kind f (rl.drop r)), h) := by
    intro j
    induction j with
    | zero =>
      intro r n e hj
      obtain ⟨n, rfl⟩ : ∃ p, n = p + 1 := ⟨n - 1, by omega⟩
      rw [List.drop_eq_nil_of_le (by omega)]
      have er : r = rl.length := by omega
      simp (disch := omega) only [H_25_5, R_25_66, R_25_52, R_25_44, R_25_41, R_25_28, R_25_25, R_25_14, R_25_5, R_25_0, S_25, gd_t, bI_, bV_, bR_, and_self, and_true, true_and, ↓reduceIte, eq_self, oj_84, bI_1, bI_0, L0, L1, L5, L7, L8, L9, L10, le_t, le_f, lt_t, lt_f, eq_t, eq_f, ncl, nI_add, nmul, nsub, ndiv, nrem, nrem', nrN, h5, er]
      rfl
    | succ j ih =>
      intro r n e hj
      obtain ⟨n, rfl⟩ : ∃ p, n = p + 1 := ⟨n - 1, by omega⟩
      have hlt : r < rl.length := by omega
      have hrr := hrow r rl[r] (List.getElem?_eq_getElem hlt)
      have nx := ih (r + 1) n (by omega) (by omega)
      rw [List.drop_eq_getElem_cons hlt]
      generalize rl[r] = w at hrr
      obtain ⟨w1, w2, w3⟩ := w
      obtain ⟨r1, r2, r3, r4, r5, r6, r7, r8, r9⟩ := hrr
      dsimp only at r1 r2 r3 r4 r9
      have h8 : h 8 r = nI w1 := r1
      have h9 : h 9 r = nI w2 := r3
      have h10 : h 10 r = nI (b (r + 1)) := r7
      have g := s_27 (h := h) (f := f) r5.symm r6 r8 r9 hf
      have ew : willR kind f ((w1, w2, w3) :: rl.drop (r + 1)) = if isAsS kind w1 && w3 f then w2 else willR kind f (rl.drop (r + 1)) := rfl
      rw [ew]
      cases ha : isAsS kind w1 with
      | false =>
        simp (disch := omega) only [H_25_5, R_25_66, R_25_52, R_25_44, R_25_41, R_25_28, R_25_25, R_25_14, R_25_5, R_25_0, S_25, gd_t, bI_, bV_, bR_, and_self, and_true, true_and, ↓reduceIte, eq_self, oj_84, bI_1, bI_0, L0, L1, L5, L7, L8, L9, L10, le_t, le_f, lt_t, lt_f, eq_t, eq_f, ncl, nI_add, nmul, nsub, ndiv, nrem, nrem', nrN, h5, ia_8, ia_9, ia_10, h8, h9, h10, s_26, ha]
        exact nx
      | true =>
        cases hc : w3 f with
        | false =>
          rw [hc] at g
          simp (disch := omega) only [H_25_5, R_25_66, R_25_52, R_25_44, R_25_41, R_25_28, R_25_25, R_25_14, R_25_5, R_25_0, S_25, gd_t, bI_, bV_, bR_, and_self, and_true, true_and, ↓reduceIte, eq_self, oj_84, bI_1, bI_0, L0, L1, L5, L7, L8, L9, L10, le_t, le_f, lt_t, lt_f, eq_t, eq_f, ncl, nI_add, nmul, nsub, ndiv, nrem, nrem', nrN, h5, ia_8, ia_9, ia_10, h8, h9, h10, s_26, ha, g]
          exact nx
        | true =>
          rw [hc] at g
          simp (disch := omega) only [H_25_5, R_25_66, R_25_52, R_25_44, R_25_41, R_25_28, R_25_25, R_25_14, R_25_5, R_25_0, S_25, gd_t, bI_, bV_, bR_, and_self, and_true, true_and, ↓reduceIte, eq_self, oj_84, bI_1, bI_0, L0, L1, L5, L7, L8, L9, L10, le_t, le_f, lt_t, lt_f, eq_t, eq_f, ncl, nI_add, nmul, nsub, ndiv, nrem, nrem', nrN, h5, ia_8, ia_9, ia_10, h8, h9, h10, s_26, ha, g]
          rfl
  have := loop rl.length 0 fuL (by omega) (fuL_gt (by omega))
  rw [hb0] at this
  simp (disch := omega) only [R_25_66, R_25_52, R_25_44, R_25_41, R_25_28, R_25_25, R_25_14, R_25_5, R_25_0, S_25, gd_t, bI_, bV_, bR_, and_self, and_true, true_and, ↓reduceIte, eq_self, oj_84, bI_1, bI_0, L0, L1, L5, L7, L8, L9, L10, le_t, le_f, lt_t, lt_f, eq_t, eq_f, ncl, nI_add, nmul, nsub, ndiv, nrem, nrem', nrN]
  exact this
set_option maxRecDepth 100000 in
theorem s_24 {h : Hp} {a k : Nat} {s : Sg} {m : Mo} (hid : MoId a) (so : SgOk s) (mo : MoOk s m) (hs : SF h s) (hm : MoAt h a s m) (hk : k < sN s) : ∃ h', S_24 a (nI k) h = some (nI (willS s m k), h') ∧ Same [12] h h' := by
  have hn := so.1
  have h7 := hid.m7
  obtain ⟨h5, hlen, -⟩ := id hs.2
  by_cases c : sRules s = []
  · refine ⟨h, ?_, Same.rf⟩
    have e5 : h 7 5 = nI 0 := by rw [h5, c]; rfl
    simp (disch := omega) only [R_24_84, R_24_59, R_24_12, R_24_10, R_24_0, S_24, gd_t, bI_, bV_, bR_, and_self, and_true, true_and, ↓reduceIte, eq_self, oj_84, bI_1, bI_0, L0, L1, L2, L3, L4, L5, L7, L12, le_t, le_f, lt_t, lt_f, eq_t, eq_f, ncl, nI_add, nmul, nsub, ndiv, nrem, nrem', nrN, e5]
    unfold willS
    rw [c]
    rfl
  · have hl : 0 < (sRules s).length := List.length_pos_iff.mpr c
    have hkd := so.2.1 k hk
    have htr := mo.1 k hk
    have hnt := mo.2.2
    have hh := houseS_le so (mNight m)
    have hrl : railS s (mNight m) ≤ 3 := by unfold railS; omega
    have sH : Same [12] h (wr (wr (wr h 12 0 (nI (mNight m))) 12 1 (nI (mTruth m k))) 12 2 (nI (mPretty m k))) := ((Same.rf.wr (by simp)).wr (by simp)).wr (by simp)
    have s2 : Same [12] h (wr (wr (wr (wr (wr h 12 0 (nI (mNight m))) 12 1 (nI (mTruth m k))) 12 2 (nI (mPretty m k))) 12 3 (nI (railS s (mNight m)))) 12 4 (nI k)) := (sH.wr (by simp)).wr (by simp)
    have hsH := (hs.same sH (by simp)).1
    have hs3 := hs.same s2 (by simp)
    have hf : ∀ j, j < 5 → (wr (wr (wr (wr (wr h 12 0 (nI (mNight m))) 12 1 (nI (mTruth m k))) 12 2 (nI (mPretty m k))) 12 3 (nI (railS s (mNight m)))) 12 4 (nI k)) 12 j = nI (factsS s m k j) ∧ factsS s m k j < 2147483648 := by
      intro j hj
      refine ⟨?_, factsS_lt so mo hk j hj⟩
      rcases (show j = 0 ∨ j = 1 ∨ j = 2 ∨ j = 3 ∨ j = 4 by omega) with rfl | rfl | rfl | rfl | rfl <;> simp only [wr_s, wr_k (show (0 : Nat) ≠ 1 by decide), wr_k (show (0 : Nat) ≠ 2 by decide), wr_k (show (0 : Nat) ≠ 3 by decide), wr_k (show (0 : Nat) ≠ 4 by decide), wr_k (show (1 : Nat) ≠ 2 by decide), wr_k (show (1 : Nat) ≠ 3 by decide), wr_k (show (1 : Nat) ≠ 4 by decide), wr_k (show (2 : Nat) ≠ 3 by decide), wr_k (show (2 : Nat) ≠ 4 by decide), wr_k (show (3 : Nat) ≠ 4 by decide)] <;> rfl
    have g := s_25 hkd.2.1 hs3.2 hf
    refine ⟨_, ?_, s2⟩
    simp (disch := omega) only [R_24_84, R_24_59, R_24_12, R_24_10, R_24_0, S_24, gd_t, bI_, bV_, bR_, and_self, and_true, true_and, ↓reduceIte, eq_self, oj_84, bI_1, bI_0, L0, L1, L2, L3, L4, L5, L7, L12, le_t, le_f, lt_t, lt_f, eq_t, eq_f, ncl, nI_add, nmul, nsub, ndiv, nrem, nrem', nrN, h5, hid.1, iaT hid, iaP hid, ia_12, ia_2, wr_c, hm.night, hm.truth, hm.pretty, s_17 so hsH, hs.1.kind, g]
    rfl
theorem s_23 {h : Hp} {a k : Nat} {s : Sg} {m : Mo} (hid : MoId a) (so : SgOk s) (mo : MoOk s m) (hs : SF h s) (hm : MoAt h a s m) (hk : k < sN s) : ∃ h', S_23 a (nI k) h = some (bI (mayS s m k), h') ∧ Same [12] h h' := by
  have hn := so.1
  have hset := mo.set so
  obtain ⟨h1, g1, s1⟩ := s_24 hid so mo hs hm hk
  have hw : willS s m k ≤ 2 := willR_le (fun i q hq => by
    obtain ⟨-, -, b, Ls, -, hrow⟩ := hs.2
    exact (hrow i q hq).2.2.2.1)
  have hl := learnsS_le so mo hk
  unfold mayS
  cases hb : (mSet m).testBit k with
  | true =>
    refine ⟨h, ?_, Same.rf⟩
    have hs' : stB m k = 1 := by unfold stB; rw [hb]; rfl
    simp (disch := omega) only [R_23_30, R_23_26, R_23_23, R_23_17, R_23_14, R_23_8, R_23_5, R_23_0, S_23, gd_t, bI_, bV_, bR_, and_self, and_true, true_and, ↓reduceIte, eq_self, oj_84, bI_1, bI_0, L0, L1, L3, le_t, le_f, lt_t, lt_f, eq_t, eq_f, ncl, nI_add, nmul, nsub, ndiv, nrem, nrem', nrN, hid.1, s_15 hid hm, hs']
    rfl
  | false =>
    have hs' : stB m k = 0 := by unfold stB; rw [hb]; rfl
    by_cases c2 : 0 < learnsS s m k
    · refine ⟨h1, ?_, s1⟩
      by_cases c : willS s m k = 0
      · simp (disch := omega) only [R_23_30, R_23_26, R_23_23, R_23_17, R_23_14, R_23_8, R_23_5, R_23_0, S_23, gd_t, bI_, bV_, bR_, and_self, and_true, true_and, ↓reduceIte, eq_self, oj_84, bI_1, bI_0, L0, L1, L3, le_t, le_f, lt_t, lt_f, eq_t, eq_f, ncl, nI_add, nmul, nsub, ndiv, nrem, nrem', nrN, hid.1, s_15 hid hm, hs', g1, c, s_16 hid so mo hs.1 hm, decide_true]
        simp [c2, bI]; rfl
      · simp (disch := omega) only [R_23_30, R_23_26, R_23_23, R_23_17, R_23_14, R_23_8, R_23_5, R_23_0, S_23, gd_t, bI_, bV_, bR_, and_self, and_true, true_and, ↓reduceIte, eq_self, oj_84, bI_1, bI_0, L0, L1, L3, le_t, le_f, lt_t, lt_f, eq_t, eq_f, ncl, nI_add, nmul, nsub, ndiv, nrem, nrem', nrN, hid.1, s_15 hid hm, hs', g1, s_16 hid so mo hs.1 hm]
        simp [c, bI]; rfl
    · refine ⟨h, ?_, Same.rf⟩
      simp (disch := omega) only [R_23_30, R_23_26, R_23_23, R_23_17, R_23_14, R_23_8, R_23_5, R_23_0, S_23, gd_t, bI_, bV_, bR_, and_self, and_true, true_and, ↓reduceIte, eq_self, oj_84, bI_1, bI_0, L0, L1, L3, le_t, le_f, lt_t, lt_f, eq_t, eq_f, ncl, nI_add, nmul, nsub, ndiv, nrem, nrem', nrN, hid.1, s_15 hid hm, hs', g1, s_16 hid so mo hs.1 hm]
      simp [c2, bI]; rfl
theorem s_80 {h : Hp} {a : Nat} {s : Sg} {m : Mo} (hid : MoId a) (so : SgOk s) (mo : MoOk s m) (hs : SF h s) (hm : MoAt h a s m) : ∃ h', S_80 a h = some (nI (actS s m), h') ∧ Same [12] h h' := by
  have hn := so.1
  have h7 := hid.m7
  have loop : ∀ j i n : Nat, i + j = sN s → j < n → ∀ H, Same [12] h H → ∃ h', H_80_2 n a (nI i) H = some (nI (actF s m j i), h') ∧ Same [12] h h' := by
    intro j
    induction j with
    | zero =>
      intro i n e hj H sH
      obtain ⟨n, rfl⟩ : ∃ p, n = p + 1 := ⟨n - 1, by omega⟩
      refine ⟨H, ?_, sH⟩
      have := (hs.same sH (by simp)).1.n
      have e2 : i = sN s := by omega
      simp (disch := omega) only [H_80_2, R_80_29, R_80_23, R_80_19, R_80_16, R_80_10, R_80_2, R_80_0, S_80, gd_t, bI_, bV_, bR_, and_self, and_true, true_and, ↓reduceIte, eq_self, oj_84, bI_1, bI_0, L0, L1, L7, le_t, le_f, lt_t, lt_f, eq_t, eq_f, ncl, nI_add, nmul, nsub, ndiv, nrem, nrem', nrN, this, e2]
      rfl
    | succ j ih =>
      intro i n e hj H sH
      obtain ⟨n, rfl⟩ : ∃ p, n = p + 1 := ⟨n - 1, by omega⟩
      have hsH := hs.same sH (by simp)
      have hmH : MoAt H a s m := hm.congr (sH _ (by simp; omega)) (sH _ (by simp; omega)) (sH _ (by simp; omega))
      obtain ⟨H2, g1, g2⟩ := s_23 hid so mo hsH hmH (k := i) (by omega)
      have ea : actF s m (j + 1) i = if mayS s m i then i + 1 else actF s m j (i + 1) := rfl
      rw [ea]
      cases hy : mayS s m i with
      | true =>
        rw [hy] at g1
        refine ⟨H2, ?_, sH.tr g2⟩
        simp (disch := omega) only [H_80_2, R_80_29, R_80_23, R_80_19, R_80_16, R_80_10, R_80_2, R_80_0, S_80, gd_t, bI_, bV_, bR_, and_self, and_true, true_and, ↓reduceIte, eq_self, oj_84, bI_1, bI_0, L0, L1, L7, le_t, le_f, lt_t, lt_f, eq_t, eq_f, ncl, nI_add, nmul, nsub, ndiv, nrem, nrem', nrN, hsH.1.n, g1, if_true]
      | false =>
        rw [hy] at g1
        simp (disch := omega) only [H_80_2, R_80_29, R_80_23, R_80_19, R_80_16, R_80_10, R_80_2, R_80_0, S_80, gd_t, bI_, bV_, bR_, and_self, and_true, true_and, ↓reduceIte, eq_self, oj_84, bI_1, bI_0, L0, L1, L7, le_t, le_f, lt_t, lt_f, eq_t, eq_f, ncl, nI_add, nmul, nsub, ndiv, nrem, nrem', nrN, hsH.1.n, g1]
        exact ih (i + 1) n (by omega) (by omega) H2 (sH.tr g2)
  obtain ⟨h', g1, g2⟩ := loop (sN s) 0 fuL (by omega) (fuL_gt (by omega)) h Same.rf
  refine ⟨h', ?_, g2⟩
  simp (disch := omega) only [R_80_29, R_80_23, R_80_19, R_80_16, R_80_10, R_80_2, R_80_0, S_80, gd_t, bI_, bV_, bR_, and_self, and_true, true_and, ↓reduceIte, eq_self, oj_84, bI_1, bI_0, L0, L1, L7, le_t, le_f, lt_t, lt_f, eq_t, eq_f, ncl, nI_add, nmul, nsub, ndiv, nrem, nrem', nrN]
  exact g1
theorem s_82 {h : Hp} {a k : Nat} {s : Sg} {m : Mo} (hid : MoId a) (so : SgOk s) (mo : MoOk s m) (hs : SF h s) (hm : MoAt h a s m) (hk : k < sN s) : ∃ h', S_82 a (nI k) h = some (nI (learnsS s m k), h') ∧ Same [a, a + 1] h h' ∧ MoAt h' a s (mendS s m k) := by
  have hn := so.1
  have ll := learnsS_le so mo hk
  have htr := (mo.1 k hk).1
  have hset := mo.set so
  have hmt : mendT s m k ≤ 99 := Nat.min_le_left _ _
  have hT : min 99 (mTruth m k + learnsS s m k) = mendT s m k := rfl
  have hx : ∀ H : Hp, H (a + 1) = upd (h (a + 1)) k (nI (mendT s m k)) → H (a + 2) = h (a + 2) → H a 2 = nI (if 60 ≤ mendT s m k then mSet m ||| 2 ^ k else mSet m) → (∀ j, j ≠ 2 → H a j = h a j) → MoAt H a s (mendS s m k) := by
    intro H e1 e2 e3 e4
    refine ⟨fun j hj => ⟨?_, by rw [e2]; exact hm.pretty hj⟩, e3, by rw [e4 _ (by decide)]; exact hm.night, by rw [e4 _ (by decide)]; exact hm.score, by rw [e4 _ (by decide)]; exact hm.seed⟩
    rw [e1]
    show upd (h (a + 1)) k (nI (mendT s m k)) j = nI (upN (mTruth m) k (mendT s m k) j)
    by_cases e : j = k
    · rw [e, pk_us, upN_s]
    · rw [pk_un e, upN_n e, hm.truth hj]
  have r2 : wr h (a + 1) k (nI (mendT s m k)) a 2 = nI (mSet m) := by rw [wr_c (by omega)]; exact hm.set
  have hor := set_or (mSet m) hset k (by omega)
  by_cases c : 60 ≤ mendT s m k
  · refine ⟨wr (wr h (a + 1) k (nI (mendT s m k))) a 2 (nI (mSet m ||| 2 ^ k)), ?_, (Same.rf.wr (by simp)).wr (by simp), hx _ (by rw [wr_c (by omega), wr_row]) (by rw [wr_c (by omega), wr_c (by omega)]) (by rw [wr_self, if_pos c]) (fun j hj => by rw [wr_k hj, wr_c (by omega)])⟩
    simp (disch := omega) only [R_82_49, R_82_37, R_82_6, R_82_0, S_82, gd_t, bI_, bV_, bR_, and_self, and_true, true_and, ↓reduceIte, eq_self, oj_84, bI_1, bI_0, L0, L1, L2, L3, L31, L60, L99, le_t, le_f, lt_t, lt_f, eq_t, eq_f, ncl, nI_add, nmul, nsub, ndiv, nrem, nrem', nrN, nmin, hid.1, iaT hid, s_16 hid so mo hs.1 hm, hm.truth, hT, wr_s, r2]
    rw [show nI (mSet m) ||| nI 1 <<< (nI k &&& nI 31) = _ from hor]
  · refine ⟨wr h (a + 1) k (nI (mendT s m k)), ?_, Same.rf.wr (by simp), hx _ (by rw [wr_row]) (by rw [wr_c (by omega)]) (by rw [r2, if_neg c]) (fun j hj => by rw [wr_c (by omega)])⟩
    have hTc : mTruth m k + learnsS s m k = mendT s m k := by omega
    simp (disch := omega) only [R_82_49, R_82_37, R_82_6, R_82_0, S_82, gd_t, bI_, bV_, bR_, and_self, and_true, true_and, ↓reduceIte, eq_self, oj_84, bI_1, bI_0, L0, L1, L2, L3, L31, L60, L99, le_t, le_f, lt_t, lt_f, eq_t, eq_f, ncl, nI_add, nmul, nsub, ndiv, nrem, nrem', nrN, nmin, hid.1, iaT hid, s_16 hid so mo hs.1 hm, hm.truth, hTc, wr_s]
theorem s_84 {h : Hp} {a k : Nat} {s : Sg} {m : Mo} (hid : MoId a) (so : SgOk s) (mo : MoOk s m) (hs : SF h s) (hm : MoAt h a s m) (hk : k < sN s) : ∃ h', S_84 a (nI k) h = some (nI (2 * (houseS s (mNight m) % 4)), h') ∧ Same [a + 1, a + 2] h h' ∧ MoAt h' a s (trimS s m k) := by
  have hn := so.1
  have h7 := hid.m7
  have htr := mo.1 k hk
  have hnt := mo.2.2
  have hh := houseS_le so (mNight m)
  have sH : Same [a + 1, a + 2] h (wr (wr h (a + 2) k (nI (min 9 (mPretty m k + 1)))) (a + 1) k (nI (mTruth m k - 10))) := (Same.rf.wr (by simp)).wr (by simp)
  have hs2 := hs.same sH (by simp; omega)
  refine ⟨_, ?_, sH, fun j hj => ⟨?_, ?_⟩, by rw [wr_c (by omega), wr_c (by omega)]; exact hm.set, by rw [wr_c (by omega), wr_c (by omega)]; exact hm.night, by rw [wr_c (by omega), wr_c (by omega)]; exact hm.score, by rw [wr_c (by omega), wr_c (by omega)]; exact hm.seed⟩
  · simp (disch := omega) only [R_84_47, R_84_0, S_84, gd_t, bI_, bV_, bR_, and_self, and_true, true_and, ↓reduceIte, eq_self, oj_84, bI_1, bI_0, L0, L1, L2, L3, L4, L9, L10, le_t, le_f, lt_t, lt_f, eq_t, eq_f, ncl, nI_add, nmul, nsub, ndiv, nrem, nrem', nrN, nmin, nmax0, hid.1, iaT hid, iaP hid, wr_c, hm.truth, hm.pretty, hm.night, s_39 so hs2.1]
  · show _ = nI (upN (mTruth m) k (mTruth m k - 10) j)
    by_cases e : j = k
    · rw [e, wr_self, upN_s]
    · rw [wr_k e, upN_n e, wr_c (by omega), hm.truth hj]
  · show _ = nI (upN (mPretty m) k (min 9 (mPretty m k + 1)) j)
    rw [wr_c (by omega)]
    by_cases e : j = k
    · rw [e, wr_self, upN_s]
    · rw [wr_k e, upN_n e, hm.pretty hj]
theorem s_38 {h : Hp} {a : Nat} {s : Sg} {m : Mo} (hid : MoId a) (so : SgOk s) (mo : MoOk s m) (hs : SgAt h s) (hm : MoAt h a s m) : S_38 a h = some (bI (decide (sEnd s ≤ mNight m)), h) := by
  have hn := mo.2.2
  have he := so.2.2.2.2.2
  by_cases c : sEnd s ≤ mNight m <;> simp (disch := omega) only [R_38_15, R_38_11, R_38_0, S_38, gd_t, bI_, bV_, bR_, and_self, and_true, true_and, ↓reduceIte, eq_self, oj_84, bI_1, bI_0, L0, L1, L3, L8, le_t, le_f, lt_t, lt_f, eq_t, eq_f, ncl, nI_add, nmul, nsub, ndiv, nrem, nrem', nrN, hid.1, hm.night, hs.end_, c, decide_true, decide_false, bI] <;> rfl
theorem s_40 {h : Hp} {a : Nat} {s : Sg} {m : Mo} (hid : MoId a) (so : SgOk s) (hs : SgAt h s) (hm : MoAt h a s m) : S_40 a h = some (nI (truS m (sN s)), h) := by
  have hn := so.1
  have loop : ∀ j i n : Nat, i + j = sN s → j < n → H_40_4 n a (nI (truS m i)) (nI i) h = some (nI (truS m (sN s)), h) := by
    intro j
    induction j with
    | zero =>
      intro i n e hj
      obtain ⟨n, rfl⟩ : ∃ p, n = p + 1 := ⟨n - 1, by omega⟩
      have : i = sN s := by omega
      simp (disch := omega) only [H_40_4, R_40_27, R_40_12, R_40_4, R_40_0, S_40, gd_t, bI_, bV_, bR_, and_self, and_true, true_and, ↓reduceIte, eq_self, oj_84, bI_1, bI_0, L0, L1, L3, L7, le_t, le_f, lt_t, lt_f, eq_t, eq_f, ncl, nI_add, nmul, nsub, ndiv, nrem, nrem', nrN, hs.n, this]
    | succ j ih =>
      intro i n e hj
      obtain ⟨n, rfl⟩ : ∃ p, n = p + 1 := ⟨n - 1, by omega⟩
      have := ih (i + 1) n (by omega) (by omega)
      rw [truS_s] at this
      simp (disch := omega) only [H_40_4, R_40_27, R_40_12, R_40_4, R_40_0, S_40, gd_t, bI_, bV_, bR_, and_self, and_true, true_and, ↓reduceIte, eq_self, oj_84, bI_1, bI_0, L0, L1, L3, L7, le_t, le_f, lt_t, lt_f, eq_t, eq_f, ncl, nI_add, nmul, nsub, ndiv, nrem, nrem', nrN, hs.n, hid.1, iaT hid, hm.truth]
      exact this
  simp (disch := omega) only [R_40_27, R_40_12, R_40_4, R_40_0, S_40, gd_t, bI_, bV_, bR_, and_self, and_true, true_and, ↓reduceIte, eq_self, oj_84, bI_1, bI_0, L0, L1, L3, L7, le_t, le_f, lt_t, lt_f, eq_t, eq_f, ncl, nI_add, nmul, nsub, ndiv, nrem, nrem', nrN]
  exact loop (sN s) 0 fuL (by omega) (fuL_gt (by omega))
