/-! part 85: game, play -/
theorem s_120 {h : Hp} {s : Sg} {m : Mo} {n : Nat} (so : SgOk s) (mo : MoOk s m) (hs : SF h s) (hm : MoAt h 13 s m) (hn : n ≤ 4) : ∃ h', S_120 (nI n) h = some (nI (gV s (lenN s m n) true m), h') ∧ Same (31 :: ScrC) h h' ∧ (0 < lenN s m n → h' 31 11 = nI (gA s (lenN s m n - 1) m)) := by
  have he := so.2.2.2.2.2
  have hnt := mo.2.2
  have g110 := s_110 so mo hs.1 hm (show n ≤ 1000 by omega)
  have hl4 : lenN s m n ≤ 4 := by unfold lenN; omega
  have hlL : mNight m + lenN s m n ≤ 16 := by unfold lenN; omega
  generalize lenN s m n = L at g110 hl4 hlL ⊢
  obtain ⟨h1, g1, s1, m1⟩ := s_87 so (hm.congr (h' := wr h 31 5 (nI L)) (wr_c (by decide)) (wr_c (by decide)) (wr_c (by decide)))
  have cl : ∀ c, c ≠ 31 → c < 35 ∨ 37 < c → h1 c = h c := fun c h31 hc => by rw [s1 c (by simp only [List.mem_cons, List.not_mem_nil, or_false]; omega), wr_c h31]
  obtain ⟨h2, g2, P, -, x⟩ := s_121g (m := m) so hl4 L 0 60 0 m h1 (by omega) (by omega) (hs.congr (fun c _ _ => cl c (by omega) (by omega))) mo hlL m1 (by rw [cl 13 (by decide) (by decide)]; exact hm.score) (by show mScore m = mScore m + 0; rw [Int32.add_zero]) (by rw [s1 31 (by decide), wr_self]) (by omega)
  refine ⟨h2, ?_, fun c hc => ?_, fun hL => x rfl hL⟩
  · have z : nI (0 + gV s L (decide (0 % 2 = 0)) m) = nI (gV s L true m) := by rw [Nat.zero_add]; rfl
    rw [z] at g2
    simp (disch := omega) only [R_120_19, R_120_13, R_120_6, R_120_0, S_120, S_121, gd_t, bI_, bV_, bR_, and_self, and_true, true_and, ↓reduceIte, eq_self, oj_84, bI_1, bI_0, L0, L1, L5, L31, g110, g1, oj_31, g2]
  · simp only [ScrC, List.mem_cons, List.not_mem_nil, or_false] at hc
    rw [P.1 c (by omega) (by omega) (by omega), cl c (by omega) (by omega)]
theorem m_259 {h : Hp} {s : Sg} {m : Mo} {n : Nat} (so : SgOk s) (mo : MoOk s m) (q : SMd h s m) (h4 : h 84 4 = nI 0) (hn : n ≤ 4) : ∃ h', S_259 (nI n) (nI 1) h = some (nI (gV s (lenN s m n) true m), h') ∧ Agr h h' := by
  obtain ⟨h', g, f, x⟩ := s_259g so (lenN s m n) n 60 0 true m h rfl (by unfold lenN; omega) (by omega) mo q h4
  exact ⟨h', g, Agr.ofM (l := []) f (fun j _ hj => x j hj) (fun j hj => by simp at hj)⟩
theorem p_game {v : Int32} : Pub (S_119 v) (S_258 v) := by
  intro h I
  obtain ⟨⟨s, m, C⟩, D⟩ := id I
  obtain ⟨so, mo, hs, hm, q, h4⟩ := id C
  cases hr : rng 1 4 v with
  | false => exact ⟨-nI 1, h, h, by simp (disch := omega) only [R_119_19, R_119_11, R_119_9, R_119_6, R_119_0, S_119, gd_t, bI_, bV_, bR_, and_self, and_true, true_and, ↓reduceIte, eq_self, oj_84, bI_1, bI_0, L0, L1, L4, s_11r, hr], by simp (disch := omega) only [R_258_21, R_258_18, R_258_12, R_258_9, R_258_0, S_258, gd_t, bI_, bV_, bR_, and_self, and_true, true_and, ↓reduceIte, eq_self, oj_84, bI_1, bI_0, L0, L1, L4, J1, J4, s_177r, hr], I⟩
  | true =>
    obtain ⟨n, hn1, hn, rfl⟩ := rng_t hr
    obtain ⟨h1, g1, s1, -⟩ := s_120 so mo hs hm hn
    have a1 : Agr h h1 := Agr.ofC s1
    obtain ⟨-, -, -, -, q1, h41⟩ := C.agr a1
    obtain ⟨h2, g2, a2⟩ := m_259 so mo q1 h41 hn
    refine ⟨nI (gV s (lenN s m n) true m), h1, h2, ?_, ?_, (I.agr a1).agr a2⟩
    · simp (disch := omega) only [R_119_19, R_119_11, R_119_9, R_119_6, R_119_0, S_119, gd_t, bI_, bV_, bR_, and_self, and_true, true_and, ↓reduceIte, eq_self, oj_84, bI_1, bI_0, L0, L1, L4, s_11r, hr, g1, eq_f]
    · simp (disch := omega) only [R_258_21, R_258_18, R_258_12, R_258_9, R_258_0, S_258, gd_t, bI_, bV_, bR_, and_self, and_true, true_and, ↓reduceIte, eq_self, oj_84, bI_1, bI_0, L0, L1, L4, J1, J4, s_177r, hr, g2, eq_f]
theorem pkF_top {W : Nat → Nat} : ∀ (j i : Nat) (r : Nat × Nat), r.2 < i → W r.2 = r.1 → (∀ a, a < r.2 → W a < r.1) → (∀ a, a < i → W a ≤ r.1) → (pkF true W j i r).2 < i + j ∧ W (pkF true W j i r).2 = (pkF true W j i r).1 ∧ ∀ a, a < (pkF true W j i r).2 → W a < (pkF true W j i r).1
  | 0, i, r, h1, h2, h3, _ => ⟨h1, h2, h3⟩
  | j + 1, i, r, h1, h2, h3, h4 => by
    rw [pkF_s]
    by_cases c : r.1 < W i
    · rw [if_pos (Or.inl ⟨rfl, c⟩)]
      have := pkF_top j (i + 1) (W i, i) (Nat.lt_succ_self i) rfl (fun a ha => Nat.lt_of_le_of_lt (h4 a ha) c) (fun a ha => by
        show W a ≤ W i
        rcases Nat.lt_or_ge a i with e | e
        · have := h4 a e; omega
        · rw [show a = i by omega]; exact Nat.le_refl _)
      rw [show i + (j + 1) = i + 1 + j by omega]
      exact this
    · rw [if_neg (by simp; omega)]
      have := pkF_top j (i + 1) r (by omega) h2 h3 (fun a ha => by
        rcases Nat.lt_or_ge a i with e | e
        · exact h4 a e
        · rw [show a = i by omega]; omega)
      rw [show i + (j + 1) = i + 1 + j by omega]
      exact this
set_option maxRecDepth 100000 in
theorem p_play {v : Int32} : Pub (S_122 v) (S_260 v) := by
  intro h I
  obtain ⟨⟨s, m, C⟩, D⟩ := id I
  obtain ⟨so, mo, hs, hm, q, h4⟩ := id C
  have hN := so.1
  have he := so.2.2.2.2.2
  cases hr : rng 1 4 v with
  | false => exact ⟨-nI 1, h, h, by simp (disch := omega) only [R_122_36, R_122_28, R_122_25, R_122_22, R_122_11, R_122_9, R_122_6, R_122_0, S_122, gd_t, bI_, bV_, bR_, and_self, and_true, true_and, ↓reduceIte, eq_self, oj_84, bI_1, bI_0, L0, L1, L3, L4, L11, L13, L31, L85, s_11r, hr], by simp (disch := omega) only [R_260_95, R_260_91, R_260_83, R_260_78, R_260_72, R_260_65, R_260_57, R_260_51, R_260_46, R_260_38, R_260_30, R_260_24, R_260_21, R_260_18, R_260_14, R_260_12, R_260_9, R_260_0, S_260, gd_t, bI_, bV_, bR_, and_self, and_true, true_and, ↓reduceIte, eq_self, oj_84, bI_1, bI_0, L0, L1, L3, L4, L11, L13, L31, L85, J1, J4, s_177r, hr], I⟩
  | true =>
    obtain ⟨n, hn1, hn, rfl⟩ := rng_t hr
    have g38 := s_38 mo13 so mo hs.1 hm
    have g205 := s_205 so mo q.1
    by_cases ce : sEnd s ≤ mNight m
    · rw [decide_eq_true ce] at g38 g205
      exact ⟨-nI 3, h, h, by simp (disch := omega) only [R_122_36, R_122_28, R_122_25, R_122_22, R_122_11, R_122_9, R_122_6, R_122_0, S_122, gd_t, bI_, bV_, bR_, and_self, and_true, true_and, ↓reduceIte, eq_self, oj_84, bI_1, bI_0, L0, L1, L3, L4, L11, L13, L31, L85, s_11r, hr, eq_f, g38], by simp (disch := omega) only [S_260, R_260_0, R_260_9, R_260_14, R_260_18, R_260_21, gd_t, bI_, bV_, bR_, and_self, and_true, true_and, ↓reduceIte, eq_self, oj_84, bI_1, bI_0, L0, L1, L3, L4, L11, L13, L31, L85, J1, J4, s_177r, hr, eq_f, g205], I⟩
    · rw [decide_eq_false ce] at g38
      obtain ⟨h1, g1, s1, x1⟩ := s_120 so mo hs hm hn
      have a1 : Agr h h1 := Agr.ofC s1
      obtain ⟨-, -, -, -, q1, h41⟩ := C.agr a1
      have g205 := s_205 so mo q1.1
      rw [decide_eq_false ce] at g205
      obtain ⟨h2, g2, a2⟩ := m_259 so mo q1 h41 hn
      obtain ⟨-, -, -, -, q2, h42⟩ := (C.agr a1).agr a2
      obtain ⟨k, ek⟩ : ∃ k, lenN s m n = k + 1 := ⟨lenN s m n - 1, by unfold lenN; omega⟩
      have x1' := x1 (by omega)
      rw [ek] at x1' g1 g2
      rw [show k + 1 - 1 = k by omega] at x1'
      unfold gA at x1'
      rw [gV_s] at g1 g2
      rw [Bool.not_true] at g1 g2
      have wl : ∀ x, goW s m x + gV s k false (goM s m x) ≤ 453 * 5 := fun x => by
        have h1 := goW_le (act := x) so mo
        have h2 := gV_le so k false (goM s m x) (goOk mo (by omega)) (by rw [goM_night mo]; unfold lenN at ek; omega)
        unfold lenN at ek; omega
      obtain ⟨h3, g3, b3, e3, x3⟩ := s_229 (by decide) h42
      generalize eW : (fun x => goW s m x + gV s k false (goM s m x)) = W at x1' g1 g2
      have Wa : ∀ x, goW s m x + gV s k false (goM s m x) = W x := fun x => by rw [← eW]
      have Wl : ∀ x, W x ≤ 10000 := fun x => by have := wl x; rw [← Wa]; omega
      rw [Wa] at x1' g1 g2
      obtain ⟨t1, t2, t3⟩ := pkF_top (W := W) (sN s) 1 (W 0, 0) (Nat.one_pos) rfl (fun a ha => absurd ha (Nat.not_lt_zero a)) (fun a ha => by rw [show a = 0 by omega]; exact Nat.le_refl _)
      have tl : (pkF true W (sN s) 1 (W 0, 0)).1 ≤ 10000 := pkF_le _ _ _ (fun a _ => Wl a) (Wl 0)
      generalize pkF true W (sN s) 1 (W 0, 0) = R at x1' g1 g2 t1 t2 t3 tl
      have loop : ∀ (i fu : Nat) (v3 : Int32) (H : Hp), i ≤ sN s + 1 → i < fu → Brk 0 h2 H → H 85 = h2 85 → (∀ j, j ≠ 4 → H 84 j = h2 84 j) → (i ≤ R.2 → v3 = nI R.2) → ∃ h', H_260_46 fu (nI n) (nI R.1) v3 (nI i - nI 1) H = some (nI R.2, h') ∧ Agr h2 h' := by
        intro i
        induction i with
        | zero =>
          intro fu v3 H hi hf b e85 x hv
          obtain ⟨fu, rfl⟩ : ∃ p, fu = p + 1 := ⟨fu - 1, by omega⟩
          obtain ⟨h', g, f, x'⟩ := s_231 (by decide) h42 b
          have en : (nI 0 - nI 1 < nI 0) = True := eq_true (by decide)
          refine ⟨h', ?_, Agr.ofM (l := []) f (fun j _ hj => by rw [x' j hj, x j hj]) (fun j hj => by simp at hj)⟩
          rw [hv (Nat.zero_le _)]
          simp (disch := omega) only [H_260_46, R_260_46, R_260_91, R_260_95, gd_t, bI_, bV_, bR_, and_self, and_true, true_and, ↓reduceIte, eq_self, oj_84, bI_1, bI_0, L0, L1, L3, L4, L85, en, g]
        | succ i ih =>
          intro fu v3 H hi hf b e85 x hv
          obtain ⟨fu, rfl⟩ : ∃ p, fu = p + 1 := ⟨fu - 1, by omega⟩
          have qH : SMd H s m := by unfold SMd; rw [e85]; exact q2
          obtain ⟨H2, g4, q4, f4⟩ := s_226 (act := i) so mo qH (by omega)
          have b4 := b.mfr f4
          obtain ⟨H3, g5, f5, x5⟩ := s_259g so k (n - 1) 60 1 false (goM s m i) H2 (by unfold lenN at ek ⊢; rw [goM_night mo]; omega) (by unfold lenN at ek; omega) (by omega) (goOk mo (by omega)) q4 b4.2.1
          obtain ⟨H4, g6, b6, e6, s6⟩ := s_232 (by decide) (b4.bfr f5)
          have x6 : ∀ j, j ≠ 4 → H4 84 j = h2 84 j := fun j hj => by rw [s6 84 (by decide), x5 j hj, f4.1 84 (by decide) (by decide)]; exact x j hj
          have ei : nI (i + 1) - nI 1 = nI i := nsub (by omega)
          have en : nI n - nI 1 = nI (n - 1) := nsub hn1
          have lt : (nI i < nI 0) = False := lt_f (by omega) (by omega)
          have g5' : S_259 (nI (n - 1)) (nI 0) H2 = some (nI (gV s k false (goM s m i)), H3) := g5
          have hWi := Wl i
          by_cases c : W i = R.1
          · have c2 : R.2 ≤ i := Nat.not_lt.mp (fun w => by have := t3 i w; omega)
            obtain ⟨h', g, r⟩ := ih fu (nI i) H4 (by omega) (by omega) b6 e6 x6 (fun w => by rw [show i = R.2 by omega])
            refine ⟨h', ?_, r⟩
            simp (disch := omega) only [H_260_46, R_260_46, R_260_51, R_260_57, R_260_65, R_260_72, R_260_78, gd_t, bI_, bV_, bR_, and_self, and_true, true_and, ↓reduceIte, eq_self, oj_84, bI_1, bI_0, L0, L1, L3, L4, L85, ei, lt, g4, en, g5', nI_add, Wa, g6, c, addneg]
            exact g
          · have cf : (nI (W i) = nI R.1) = False := eq_f c (by omega) (by omega)
            obtain ⟨h', g, r⟩ := ih fu v3 H4 (by omega) (by omega) b6 e6 x6 (fun w => by
              rcases Nat.lt_or_ge i R.2 with e | e
              · exact hv (by omega)
              · exact absurd (by rw [show i = R.2 by omega]; exact t2) c)
            refine ⟨h', ?_, r⟩
            simp (disch := omega) only [H_260_46, R_260_46, R_260_51, R_260_57, R_260_65, R_260_72, R_260_83, gd_t, bI_, bV_, bR_, and_self, and_true, true_and, ↓reduceIte, eq_self, oj_84, bI_1, bI_0, L0, L1, L3, L4, L85, ei, lt, g4, en, g5', nI_add, Wa, g6, cf, addneg]
            exact g
      obtain ⟨h4', g4, a4⟩ := loop (sN s + 1) fuL (-nI 3) h3 (by omega) (fuL_gt (by omega)) b3 e3 x3 (fun w => by omega)
      rw [nsub (by omega), show sN s + 1 - 1 = sN s by omega] at g4
      have e0 : h3 85 0 = nI (sN s) := by rw [e3]; exact q2.1.n
      refine ⟨nI R.2, h1, h4', ?_, ?_, ((I.agr a1).agr a2).agr a4⟩
      · simp (disch := omega) only [R_122_36, R_122_28, R_122_25, R_122_22, R_122_11, R_122_9, R_122_6, R_122_0, S_122, gd_t, bI_, bV_, bR_, and_self, and_true, true_and, ↓reduceIte, eq_self, oj_84, bI_1, bI_0, L0, L1, L3, L4, L11, L13, L31, s_11r, hr, eq_f, g38, bI_0, g1, x1']
      · simp (disch := omega) only [S_260, R_260_0, R_260_9, R_260_14, R_260_18, R_260_24, R_260_30, R_260_38, gd_t, bI_, bV_, bR_, and_self, and_true, true_and, ↓reduceIte, eq_self, oj_84, bI_1, bI_0, L0, L1, L3, L4, L85, J1, J4, s_177r, hr, eq_f, g205, g2, g3, ia_85, ncl, e0, g4]
