/-! part 78: best, ith, ways -/
theorem s_109 {h : Hp} {s : Sg} {m : Mo} {n w : Nat} (so : SgOk s) (mo : MoOk s m) (hs : SF h s) (hm : MoAt h 13 s m) (hn : n ≤ 4) (hw : w < 64) : ∃ h', S_109 (nI n) (nI w) h = some (0, h') ∧ Same (31 :: ScrC) h h' ∧ AccC h' s m (lenN s m n) w ((sN s + 1) ^ lenN s m n) := by
  have he := so.2.2.2.2.2
  have hnt := mo.2.2
  have g110 := s_110 so mo hs.1 hm (show n ≤ 1000 by omega)
  have hl4 : lenN s m n ≤ 4 := by unfold lenN; omega
  have hlL : mNight m + lenN s m n ≤ 16 := by unfold lenN; omega
  generalize lenN s m n = L at g110 hl4 hlL ⊢
  have c0 : ∀ c, c ≠ 31 → (wr (wr (wr (wr (wr (wr h 31 5 (nI L)) 31 4 (nI w)) 31 6 (-nI 1)) 31 7 (nI 0)) 31 9 (-nI 3)) 31 10 (nI 0)) c = h c := fun c hc => by rw [wr_c hc, wr_c hc, wr_c hc, wr_c hc, wr_c hc, wr_c hc]
  obtain ⟨h1, g1, s1, m1⟩ := s_87 so (hm.congr (c0 _ (by decide)) (c0 _ (by decide)) (c0 _ (by decide)))
  have cl : ∀ c, c ≠ 31 → c < 35 ∨ 37 < c → h1 c = h c := fun c h31 hc => by rw [s1 c (by simp only [List.mem_cons, List.not_mem_nil, or_false]; omega), c0 c h31]
  have A : AccC h1 s m L w 0 := by
    unfold AccC
    rw [s1 31 (by decide)]
    refine ⟨by simp (disch := omega) only [wr_k, wr_s]; rfl, by simp (disch := omega) only [wr_k, wr_s]; rfl, fun q => absurd q (by decide), by simp (disch := omega) only [wr_k, wr_s]; rfl, by simp (disch := omega) only [wr_k, wr_s]; rfl, by simp (disch := omega) only [wr_k, wr_s], by simp (disch := omega) only [wr_k, wr_s]⟩
  obtain ⟨h2, g2, P, A2⟩ := s_111g so mo hlL hl4 hw L 0 0 60 h1 (by omega) (by omega) (by rw [Nat.pow_zero]; decide) (hs.congr (fun c _ _ => cl c (by omega) (by omega))) (by rw [cl 13 (by decide) (by decide)]; exact hm.score) m1 (fun j hj => absurd hj (by omega)) (by rw [Nat.zero_mul]; exact A)
  rw [show (0 + 1) * (sN s + 1) ^ L = (sN s + 1) ^ L by omega] at A2
  refine ⟨h2, ?_, fun c hc => ?_, A2⟩
  · have z : nI (preT s 0 0) = nI 0 := rfl
    rw [z] at g2
    simp (disch := omega) only [R_109_46, R_109_39, R_109_6, R_109_0, S_109, S_111, gd_t, bI_, bV_, bR_, and_self, and_true, true_and, ↓reduceIte, eq_self, oj_84, bI_1, bI_0, L0, L1, L3, L4, L5, L6, L7, L9, L10, L31, g110, g1, oj_31, g2]
  · simp only [ScrC, List.mem_cons, List.not_mem_nil, or_false] at hc
    rw [P.1 c (by omega) (by omega) (by omega) (by omega) (by omega), cl c (by omega) (by omega)]
theorem p_best {v : Int32} : Pub (S_107 v) (S_246 v) := by
  intro h I
  obtain ⟨⟨s, m, C⟩, D⟩ := id I
  obtain ⟨so, mo, hs, hm, q, h4⟩ := id C
  cases hr : rng 0 4 v with
  | false => exact ⟨-nI 1, h, h, by simp (disch := omega) only [R_107_18, R_107_9, R_107_7, R_107_4, R_107_0, S_107, gd_t, bI_, bV_, bR_, and_self, and_true, true_and, ↓reduceIte, eq_self, oj_84, bI_1, bI_0, L0, L1, L6, L19, L31, L84, s_108, hr], by simp (disch := omega) only [R_246_14, R_246_9, R_246_7, R_246_4, R_246_0, S_246, gd_t, bI_, bV_, bR_, and_self, and_true, true_and, ↓reduceIte, eq_self, oj_84, bI_1, bI_0, L0, L1, L6, L19, L31, L84, s_247, hr], I⟩
  | true =>
    obtain ⟨n, -, hn, rfl⟩ := rng_t hr
    obtain ⟨h1, g1, s1, A⟩ := s_109 (w := 0) so mo hs hm hn (by decide)
    have a1 : Agr h h1 := Agr.ofC s1
    obtain ⟨-, -, -, -, q1, h41⟩ := C.agr a1
    obtain ⟨h2, g2, a2, e19, e20, e21⟩ := s_248 so mo q1 h41 hn
    refine ⟨h1 31 6, h1, h2, ?_, ?_, (I.agr a1).agr a2⟩
    · simp (disch := omega) only [R_107_18, R_107_9, R_107_7, R_107_4, R_107_0, S_107, gd_t, bI_, bV_, bR_, and_self, and_true, true_and, ↓reduceIte, eq_self, oj_84, bI_1, bI_0, L0, L1, L6, L31, s_108, hr, g1, eq_f]
    · simp (disch := omega) only [R_246_14, R_246_9, R_246_7, R_246_4, R_246_0, S_246, gd_t, bI_, bV_, bR_, and_self, and_true, true_and, ↓reduceIte, eq_self, oj_84, bI_1, bI_0, L0, L1, L19, L84, s_247, hr, g2, eq_f, e19, A.1]
theorem p_ways {v : Int32} : Pub (S_114 v) (S_253 v) := by
  intro h I
  obtain ⟨⟨s, m, C⟩, D⟩ := id I
  obtain ⟨so, mo, hs, hm, q, h4⟩ := id C
  cases hr : rng 0 4 v with
  | false => exact ⟨-nI 1, h, h, by simp (disch := omega) only [R_114_18, R_114_9, R_114_7, R_114_4, R_114_0, S_114, gd_t, bI_, bV_, bR_, and_self, and_true, true_and, ↓reduceIte, eq_self, oj_84, bI_1, bI_0, L0, L1, L7, L21, L31, L84, s_108, hr], by simp (disch := omega) only [R_253_14, R_253_9, R_253_7, R_253_4, R_253_0, S_253, gd_t, bI_, bV_, bR_, and_self, and_true, true_and, ↓reduceIte, eq_self, oj_84, bI_1, bI_0, L0, L1, L7, L21, L31, L84, s_247, hr], I⟩
  | true =>
    obtain ⟨n, -, hn, rfl⟩ := rng_t hr
    obtain ⟨h1, g1, s1, A⟩ := s_109 (w := 0) so mo hs hm hn (by decide)
    have a1 : Agr h h1 := Agr.ofC s1
    obtain ⟨-, -, -, -, q1, h41⟩ := C.agr a1
    obtain ⟨h2, g2, a2, e19, e20, e21⟩ := s_248 so mo q1 h41 hn
    refine ⟨h1 31 7, h1, h2, ?_, ?_, (I.agr a1).agr a2⟩
    · simp (disch := omega) only [R_114_18, R_114_9, R_114_7, R_114_4, R_114_0, S_114, gd_t, bI_, bV_, bR_, and_self, and_true, true_and, ↓reduceIte, eq_self, oj_84, bI_1, bI_0, L0, L1, L7, L31, s_108, hr, g1, eq_f]
    · simp (disch := omega) only [R_253_14, R_253_9, R_253_7, R_253_4, R_253_0, S_253, gd_t, bI_, bV_, bR_, and_self, and_true, true_and, ↓reduceIte, eq_self, oj_84, bI_1, bI_0, L0, L1, L21, L84, s_247, hr, g2, eq_f, e21, A.2.1]
theorem p_ith {v w : Int32} : Pub (S_113 v w) (S_252 v w) := by
  intro h I
  obtain ⟨⟨s, m, C⟩, D⟩ := id I
  obtain ⟨so, mo, hs, hm, q, h4⟩ := id C
  have hN := so.1
  cases hr : rng 0 4 v with
  | false => exact ⟨-nI 1, h, h, by simp (disch := omega) only [R_113_16, R_113_50, R_113_38, R_113_27, R_113_18, R_113_13, R_113_7, R_113_4, R_113_0, S_113, gd_t, bI_, bV_, bR_, and_self, and_true, true_and, ↓reduceIte, eq_self, oj_84, bI_1, bI_0, L0, L1, L3, L5, L9, L20, L31, L34, L84, L92, s_108, hr], by simp (disch := omega) only [R_252_19, R_252_51, R_252_48, R_252_38, R_252_33, R_252_30, R_252_27, R_252_21, R_252_16, R_252_7, R_252_4, R_252_0, S_252, gd_t, bI_, bV_, bR_, and_self, and_true, true_and, ↓reduceIte, eq_self, oj_84, bI_1, bI_0, L0, L1, L3, L5, L9, L20, L31, L34, L84, L92, s_247, hr], I⟩
  | true =>
    cases hr2 : rng 0 3 w with
    | false => exact ⟨-nI 1, h, h, by simp (disch := omega) only [R_113_16, R_113_50, R_113_38, R_113_27, R_113_18, R_113_13, R_113_7, R_113_4, R_113_0, S_113, gd_t, bI_, bV_, bR_, and_self, and_true, true_and, ↓reduceIte, eq_self, oj_84, bI_1, bI_0, L0, L1, L3, L5, L9, L20, L31, L34, L84, L92, s_108, hr, s_11r, hr2, eq_f], by simp (disch := omega) only [R_252_19, R_252_51, R_252_48, R_252_38, R_252_33, R_252_30, R_252_27, R_252_21, R_252_16, R_252_7, R_252_4, R_252_0, S_252, gd_t, bI_, bV_, bR_, and_self, and_true, true_and, ↓reduceIte, eq_self, oj_84, bI_1, bI_0, L0, L1, L3, L5, L9, L20, L31, L34, L84, L92, s_247, hr, J0, J3, s_177r, hr2, eq_f], I⟩
    | true =>
      obtain ⟨n, -, hn, rfl⟩ := rng_t hr
      obtain ⟨j, -, hj, rfl⟩ := rng_t hr2
      obtain ⟨h1, g1, s1, A⟩ := s_109 (w := 0) so mo hs hm hn (by decide)
      have a1 : Agr h h1 := Agr.ofC s1
      obtain ⟨-, -, -, -, q1, h41⟩ := C.agr a1
      have hl4 : lenN s m n ≤ 4 := by unfold lenN; omega
      have hB := pow_le4 (show sN s + 1 ≤ 7 by omega) hl4
      have hB0 : 0 < (sN s + 1) ^ lenN s m n := Nat.pow_pos (Nat.succ_pos _)
      have e5 := A.2.2.2.2.2.1
      by_cases c : j < lenN s m n
      · obtain ⟨h2, g2, a2, e19, e20, e21⟩ := s_248 so mo q1 h41 hn
        obtain ⟨-, -, -, -, q2, -⟩ := (C.agr a1).agr a2
        have g249a := s_249 so mo q1.1 (show n ≤ 1000 by omega)
        have g249b := s_249 so mo q2.1 (show n ≤ 1000 by omega)
        have hbp := (accB_le so mo (L := lenN s m n) (by have := so.2.2.2.2.2; have := mo.2.2; unfold lenN; omega) ((sN s + 1) ^ lenN s m n)).2.2 hB0
        obtain ⟨h3, g3, s3, d3⟩ := s_251 (h := h2) (s := s) (L := lenN s m n) (P := (accB s m (lenN s m n) ((sN s + 1) ^ lenN s m n)).2.1) hN q2.1.n hl4 (by omega)
        have a3 : Agr h2 h3 := ⟨fun c e => s3 c (by unfold KeepC at e; simp only [List.mem_cons, List.not_mem_nil, or_false]; omega), by rw [s3 16 (by decide)], by rw [s3 21 (by decide)], by rw [s3 61 (by decide)], fun j _ => by rw [s3 84 (by decide)]⟩
        refine ⟨nI (dig s (lenN s m n) (accB s m (lenN s m n) ((sN s + 1) ^ lenN s m n)).2.1 j), h1, h3, ?_, ?_, ((I.agr a1).agr a2).agr a3⟩
        · simp (disch := omega) only [R_113_16, R_113_50, R_113_38, R_113_27, R_113_18, R_113_13, R_113_7, R_113_4, R_113_0, S_113, gd_t, bI_, bV_, bR_, and_self, and_true, true_and, ↓reduceIte, eq_self, oj_84, bI_1, bI_0, L0, L1, L3, L5, L31, L34, le_t, le_f, lt_t, lt_f, eq_t, eq_f, ncl, nI_add, nmul, nsub, ndiv, nrem, nrem', nrN, s_108, hr, s_11r, hr2, g1, e5, ia_34, A.2.2.1 hB0 j c]
        · simp (disch := omega) only [R_252_19, R_252_51, R_252_48, R_252_38, R_252_33, R_252_30, R_252_27, R_252_21, R_252_16, R_252_7, R_252_4, R_252_0, S_252, gd_t, bI_, bV_, bR_, and_self, and_true, true_and, ↓reduceIte, eq_self, oj_84, bI_1, bI_0, L0, L1, L3, L9, L20, L84, L92, le_t, le_f, lt_t, lt_f, eq_t, eq_f, ncl, nI_add, nmul, nsub, ndiv, nrem, nrem', nrN, s_247, hr, J0, J3, s_177r, hr2, g249a, g249b, g2, e20, g3, ia_92, d3 j c]
      · have g249a := s_249 so mo q1.1 (show n ≤ 1000 by omega)
        refine ⟨-nI 3, h1, h1, ?_, ?_, I.agr a1⟩
        · simp (disch := omega) only [R_113_16, R_113_50, R_113_38, R_113_27, R_113_18, R_113_13, R_113_7, R_113_4, R_113_0, S_113, gd_t, bI_, bV_, bR_, and_self, and_true, true_and, ↓reduceIte, eq_self, oj_84, bI_1, bI_0, L0, L1, L3, L5, L31, L34, le_t, le_f, lt_t, lt_f, eq_t, eq_f, ncl, nI_add, nmul, nsub, ndiv, nrem, nrem', nrN, s_108, hr, s_11r, hr2, g1, e5]
        · simp (disch := omega) only [R_252_19, R_252_51, R_252_48, R_252_38, R_252_33, R_252_30, R_252_27, R_252_21, R_252_16, R_252_7, R_252_4, R_252_0, S_252, gd_t, bI_, bV_, bR_, and_self, and_true, true_and, ↓reduceIte, eq_self, oj_84, bI_1, bI_0, L0, L1, L3, L9, L20, L84, L92, le_t, le_f, lt_t, lt_f, eq_t, eq_f, ncl, nI_add, nmul, nsub, ndiv, nrem, nrem', nrN, s_247, hr, J0, J3, s_177r, hr2, g249a]
