/-! part 65: parts of the invariant, one by one; report, forget, row, alterRow, trace, many -/
theorem KepI.c {h h' : Hp} (q : KepI h) (a : h' 0 12 = h 0 12) (b : h' 84 2 = h 84 2) (c : ∀ i, (64 ≤ i ∧ i ≤ 83 ∨ i = 86) → h' i = h i) : KepI h' := by
  obtain ⟨b0, k1, k2, k3⟩ := q
  refine ⟨b0, by rw [a]; exact k1, by rw [b]; exact k2, fun hb => ?_⟩
  obtain ⟨s, m, y1, y2, y3, y4, y5, y6, y7, n, K, A, L, M, z1, z2, z3, z4⟩ := k3 hb
  refine ⟨s, m, y1, y2, ?_, y4.congr (by rw [c _ (by decide)]) (c _ (by decide)) (c _ (by decide)) (c _ (by decide)) (c _ (by decide)), y5.congr (c _ (by decide)) (c _ (by decide)) (c _ (by decide)), by rw [c 86 (by decide)]; exact y6, by rw [c 86 (by decide)]; exact y7, n, K, A, L, M, z1, by rw [c 79 (by decide)]; exact z2, by rw [c 86 (by decide)]; exact z3, ?_⟩
  · unfold SgAtB at y3 ⊢
    rw [c 64 (by decide), c (64 + 1) (by decide), c (64 + 2) (by decide), c (64 + 3) (by decide), c (64 + 4) (by decide), c (64 + 5) (by decide)]
    exact y3
  · rw [c 86 (by decide), c (79 + 1) (by decide), c (79 + 2) (by decide), c (79 + 3) (by decide), c (79 + 4) (by decide)]
    exact z4
theorem TapI.c {h h' : Hp} (q : TapI h) (a : h' 21 1 = h 21 1) (b : h' 84 7 = h 84 7) (c : h' 22 = h 22) (d : h' 89 = h 89) : TapI h' := by
  unfold TapI
  rw [a, b, c, d]
  exact q
theorem RowI.c {h h' : Hp} (q : RowI h) (a : h' 0 8 = h 0 8) (b : h' 84 27 = h 84 27) (c : h' 63 = h 63) (d : h' 93 = h 93) : RowI h' := by
  unfold RowI
  rw [a, b, c, d]
  exact q
theorem SheI.c {h h' : Hp} (q : SheI h) (c : ∀ i, (51 ≤ i ∧ i ≤ 57 ∨ 94 ≤ i ∧ i ≤ 96) → h' i = h i) : SheI h' := fun t ht => by
  have := q t ht
  rw [c 51 (by decide), c 52 (by decide), c 94 (by decide), c 95 (by decide), c 96 (by decide), c (54 + t) (by omega)]
  exact this
theorem ShlI.c {h h' : Hp} (q : ShlI h) (c : ∀ i, (58 ≤ i ∧ i ≤ 60 ∨ 97 ≤ i ∧ i ≤ 99) → h' i = h i) : ShlI h' := fun t ht => by
  have := q t ht
  rw [c 58 (by decide), c 59 (by decide), c 60 (by decide), c 97 (by decide), c 98 (by decide), c 99 (by decide)]
  exact this
theorem TraI.c {h h' : Hp} (q : TraI h) (a : h' 61 1 = h 61 1) (b : h' 84 35 = h 84 35) (c : h' 62 = h 62) (d : h' 100 = h 100) : TraI h' := by
  unfold TraI
  rw [a, b, c, d]
  exact q
theorem RepI.c {h h' : Hp} {b : Nat} {σ σ' : Nat → Int32} (q : RepI h b σ) (a : h' b 4 = h b 4) (c : ∀ i, 1 ≤ i → i ≤ 4 → h' (b + i) = h (b + i)) (d : ∀ j, (j = 6 ∨ 65 ≤ j ∧ j < 89) → σ' j = σ j) : RepI h' b σ' := by
  obtain ⟨n, K, A, L, M, r1, r2, r3, r4⟩ := q
  refine ⟨n, K, A, L, M, r1, by rw [a]; exact r2, by rw [d 6 (by omega)]; exact r3, fun r hr => ?_⟩
  obtain ⟨u1, u2, u3, u4, u5⟩ := r4 r hr
  refine ⟨u1, u2, u3, u4, ?_⟩
  rw [c 1 (by decide) (by decide), c 2 (by decide) (by decide), c 3 (by decide) (by decide), c 4 (by decide) (by decide), d _ (by omega), d _ (by omega), d _ (by omega), d _ (by omega)]
  exact u5
theorem MdAt.c {f f' : Nat → Int32} {s : Sg} {m : Mo} (q : MdAt f s m) (h : ∀ j, j ≠ 6 → j < 65 → f' j = f j) (hn : sN s ≤ 6) : MdAt f' s m := by
  obtain ⟨a0, a1, a2, a3, a4, a5, a6, a7⟩ := q
  refine ⟨by rw [h _ (by omega) (by omega)]; exact a0, by rw [h _ (by omega) (by omega)]; exact a1, by rw [h _ (by omega) (by omega)]; exact a2, by rw [h _ (by omega) (by omega)]; exact a3, by rw [h _ (by omega) (by omega)]; exact a4, fun t ht => by rw [h _ (by omega) (by omega)]; exact a5 t ht, fun t ht => by rw [h _ (by omega) (by omega), h _ (by omega) (by omega)]; exact a6 t ht, fun k hk => ?_⟩
  rw [h _ (by omega) (by omega), h _ (by omega) (by omega), h _ (by omega) (by omega), h _ (by omega) (by omega), h _ (by omega) (by omega)]
  exact a7 k hk
theorem Core.c {h h' : Hp} {s : Sg} {m : Mo} (q : Core h s m) (a : ∀ c, 1 ≤ c → c ≤ 15 → c ≠ 12 → h' c = h c) (b : h' 84 4 = h 84 4) (d : ∀ j, j ≠ 6 → (j < 65 ∨ 89 ≤ j) → h' 85 j = h 85 j) : Core h' s m := by
  obtain ⟨q1, q2, q3, q4, q5, q6⟩ := q
  exact ⟨q1, q2, q3.congr (fun c c1 c2 => a c c1 (by omega) (by omega)), q4.congr (a _ (by decide) (by decide) (by decide)) (a _ (by decide) (by decide) (by decide)) (a _ (by decide) (by decide) (by decide)), ⟨q5.1.c (fun j h1 h2 => d j h1 (Or.inl h2)) q1.1, q5.2.congr (fun j hj => d j (by omega) (by omega))⟩, by rw [b]; exact q6⟩
theorem s_11s {h : Hp} {v : Int32} {n : Nat} (hn : n ≤ 100) : S_11 v (nI 0) (nI n - nI 1) h = some (bI (scn n v), h) := by
  rw [s_11, scn_eq hn]
theorem s_177s {h : Hp} {v : Int32} {n : Nat} (hn : n ≤ 100) : S_177 (Int32.toInt64 v) (Int32.toInt64 (nI 0)) (Int32.toInt64 (nI n - nI 1)) h = some (bI (scn n v), h) := by
  rw [s_177, Int32.toInt_toInt64, Int32.toInt_toInt64, Int32.toInt_toInt64, scn_eq hn]
theorem rng_mono {a b : Nat} {v : Int32} (h : rng 0 b v = false) : rng a b v = false := by
  unfold rng at h ⊢
  have := of_decide_eq_false h
  exact decide_eq_false (by omega)
theorem rng_f {a b n : Nat} (h : ¬ (a ≤ n ∧ n ≤ b)) (h3 : n < 2147483648) : rng a b (nI n) = false := by
  unfold rng
  rw [nI_toInt h3]
  exact decide_eq_false (by omega)
theorem p_forget : Pub S_125 S_262 := by
  intro h I
  obtain ⟨⟨s, m, C⟩, ⟨n, K, A, L, M, r1, r2, r3, r4⟩, d2, d3, d4, d5, d6, d7⟩ := id I
  refine ⟨nI n, wr h 16 4 (nI 0), wr (wr h 16 4 (nI 0)) 85 6 (nI 0), by simp (disch := omega) only [R_125_0, S_125, gd_t, bI_, bV_, bR_, and_self, and_true, true_and, ↓reduceIte, eq_self, oj_84, bI_1, bI_0, L0, L1, L4, L6, L16, r2], by simp (disch := omega) only [R_262_7, R_262_0, S_262, gd_t, bI_, bV_, bR_, and_self, and_true, true_and, ↓reduceIte, eq_self, oj_84, bI_1, bI_0, L0, L1, L4, L6, L16, s_197, wr_c, r3], ⟨s, m, C.c (fun c _ _ _ => by simp (disch := omega) only [wr_c]) (by simp (disch := omega) only [wr_c]) (fun j _ _ => by simp (disch := omega) only [wr_k, wr_c])⟩, ⟨0, K, A, L, M, by decide, by simp (disch := omega) only [wr_c, wr_s], by simp (disch := omega) only [wr_s], fun r hr => by omega⟩, d2.c (by simp (disch := omega) only [wr_c]) (by simp (disch := omega) only [wr_c]) (fun i hi => by simp (disch := omega) only [wr_c]), d3.c (by simp (disch := omega) only [wr_c]) (by simp (disch := omega) only [wr_c]) (by simp (disch := omega) only [wr_c]) (by simp (disch := omega) only [wr_c]), d4.c (by simp (disch := omega) only [wr_c]) (by simp (disch := omega) only [wr_c]) (by simp (disch := omega) only [wr_c]) (by simp (disch := omega) only [wr_c]), d5.c (fun i hi => by simp (disch := omega) only [wr_c]), d6.c (fun i hi => by simp (disch := omega) only [wr_c]), d7.c (by simp (disch := omega) only [wr_c]) (by simp (disch := omega) only [wr_c]) (by simp (disch := omega) only [wr_c]) (by simp (disch := omega) only [wr_c])⟩
theorem p_report {v w u z : Int32} : Pub (S_123 v w u z) (S_261 v w u z) := by
  intro h I
  obtain ⟨⟨s, m, C⟩, ⟨n, K, A, L, M, r1, r2, r3, r4⟩, d2, d3, d4, d5, d6, d7⟩ := id I
  have BAD : ∀ (_ : S_123 v w u z h = some (-nI 1, h)) (_ : S_261 v w u z h = some (-nI 1, h)), ∃ x h1 h2, S_123 v w u z h = some (x, h1) ∧ S_261 v w u z h1 = some (x, h2) ∧ Inv h2 := fun a b => ⟨-nI 1, h, h, a, b, I⟩
  cases hr : rng 0 15 v with
  | false =>
    refine BAD (by simp (disch := omega) only [R_123_19, R_123_62, R_123_76, R_123_64, R_123_56, R_123_53, R_123_45, R_123_42, R_123_30, R_123_25, R_123_21, R_123_16, R_123_10, R_123_7, R_123_0, S_123, gd_t, bI_, bV_, bR_, and_self, and_true, true_and, ↓reduceIte, eq_self, oj_84, bI_1, bI_0, L0, L1, L15, L99, L999, s_11r, hr]) ?_
    by_cases c : w = nI 0 <;> simp (disch := omega) only [R_261_62, R_261_79, R_261_76, R_261_64, R_261_59, R_261_48, R_261_45, R_261_36, R_261_33, R_261_26, R_261_23, R_261_9, R_261_4, R_261_0, S_261, gd_t, bI_, bV_, bR_, and_self, and_true, true_and, ↓reduceIte, eq_self, oj_84, bI_1, bI_0, L0, L1, L2, L3, L4, L6, L15, L65, L85, L99, L999, J0, J15, s_177r, hr, c]
  | true =>
    cases hr2 : rng 0 1 w with
    | false =>
      have c : w = nI 0 ↔ False := iff_of_eq (rng_ne hr2 (by decide) (by decide) (by decide))
      exact BAD (by simp (disch := omega) only [R_123_19, R_123_62, R_123_76, R_123_64, R_123_56, R_123_53, R_123_45, R_123_42, R_123_30, R_123_25, R_123_21, R_123_16, R_123_10, R_123_7, R_123_0, S_123, gd_t, bI_, bV_, bR_, and_self, and_true, true_and, ↓reduceIte, eq_self, oj_84, bI_1, bI_0, L0, L1, L2, L3, L4, L6, L15, L65, L85, L99, L999, s_11r, hr, hr2, eq_f]) (by simp (disch := omega) only [R_261_62, R_261_79, R_261_76, R_261_64, R_261_59, R_261_48, R_261_45, R_261_36, R_261_33, R_261_26, R_261_23, R_261_9, R_261_4, R_261_0, S_261, gd_t, bI_, bV_, bR_, and_self, and_true, true_and, ↓reduceIte, eq_self, oj_84, bI_1, bI_0, L0, L1, L2, L3, L4, L6, L15, L65, L85, L99, L999, J0, J15, J1, s_177r, hr, hr2, c, eq_f])
    | true =>
      obtain ⟨x, -, hx, rfl⟩ := rng_t hr
      obtain ⟨a, -, ha, rfl⟩ := rng_t hr2
      rcases (show a = 0 ∨ a = 1 by omega) with rfl | rfl
      · cases hr3 : rng 0 99 u with
        | false => exact BAD (by simp (disch := omega) only [R_123_19, R_123_62, R_123_76, R_123_64, R_123_56, R_123_53, R_123_45, R_123_42, R_123_30, R_123_25, R_123_21, R_123_16, R_123_10, R_123_7, R_123_0, S_123, gd_t, bI_, bV_, bR_, and_self, and_true, true_and, ↓reduceIte, eq_self, oj_84, bI_1, bI_0, L0, L1, L2, L3, L4, L6, L15, L65, L85, L99, L999, le_t, le_f, lt_t, lt_f, eq_t, eq_f, ncl, nI_add, nmul, nsub, ndiv, nrem, nrem', nrN, s_11r, hr, hr2, hr3]) (by simp (disch := omega) only [R_261_62, R_261_79, R_261_76, R_261_64, R_261_59, R_261_48, R_261_45, R_261_36, R_261_33, R_261_26, R_261_23, R_261_9, R_261_4, R_261_0, S_261, gd_t, bI_, bV_, bR_, and_self, and_true, true_and, ↓reduceIte, eq_self, oj_84, bI_1, bI_0, L0, L1, L2, L3, L4, L6, L15, L65, L85, L99, L999, le_t, le_f, lt_t, lt_f, eq_t, eq_f, ncl, nI_add, nmul, nsub, ndiv, nrem, nrem', nrN, J0, J15, J1, s_177r, hr, hr2, hr3])
        | true =>
          obtain ⟨y, -, hy, rfl⟩ := rng_t hr3
          cases hr4 : rng 0 99 z with
          | false =>
            have e4 : rng y 99 z = false := rng_mono hr4
            exact BAD (by simp (disch := omega) only [R_123_19, R_123_62, R_123_76, R_123_64, R_123_56, R_123_53, R_123_45, R_123_42, R_123_30, R_123_25, R_123_21, R_123_16, R_123_10, R_123_7, R_123_0, S_123, gd_t, bI_, bV_, bR_, and_self, and_true, true_and, ↓reduceIte, eq_self, oj_84, bI_1, bI_0, L0, L1, L2, L3, L4, L6, L15, L65, L85, L99, L999, le_t, le_f, lt_t, lt_f, eq_t, eq_f, ncl, nI_add, nmul, nsub, ndiv, nrem, nrem', nrN, s_11r, hr, hr2, hr3, hr4]) (by simp (disch := omega) only [R_261_62, R_261_79, R_261_76, R_261_64, R_261_59, R_261_48, R_261_45, R_261_36, R_261_33, R_261_26, R_261_23, R_261_9, R_261_4, R_261_0, S_261, gd_t, bI_, bV_, bR_, and_self, and_true, true_and, ↓reduceIte, eq_self, oj_84, bI_1, bI_0, L0, L1, L2, L3, L4, L6, L15, L65, L85, L99, L999, le_t, le_f, lt_t, lt_f, eq_t, eq_f, ncl, nI_add, nmul, nsub, ndiv, nrem, nrem', nrN, J0, J15, J1, s_177r, hr, hr2, hr3, e4])
          | true =>
            obtain ⟨t, -, ht, rfl⟩ := rng_t hr4
            by_cases c : y ≤ t
            · have e4 : rng y 99 (nI t) = true := rng_n c ht (by omega)
              by_cases c6 : n < 6
              · have hlt : ∀ {r : Nat}, r < n + 1 → r ≠ n → r < n := fun a b => by omega
                refine ⟨nI n, wr (wr (wr (wr (wr h 17 n (nI x)) 18 n (nI 0)) 19 n (nI y)) 20 n (nI t)) 16 4 (nI (n + 1)), wr (wr (wr (wr (wr (wr (wr (wr (wr (wr h 17 n (nI x)) 18 n (nI 0)) 19 n (nI y)) 20 n (nI t)) 16 4 (nI (n + 1))) 85 (65 + 4 * n) (nI x)) 85 (65 + 4 * n + 1) (nI 0)) 85 (65 + 4 * n + 2) (nI y)) 85 (65 + 4 * n + 3) (nI t)) 85 6 (nI (n + 1)), ?_, ?_, ⟨s, m, C.c (fun c _ _ _ => by simp (disch := omega) only [wr_c]) (by simp (disch := omega) only [wr_c]) (fun j _ _ => by simp (disch := omega) only [wr_k, wr_c])⟩, ⟨n + 1, upN K n x, upN A n 0, upN L n y, upN M n t, by omega, by simp (disch := omega) only [wr_c, wr_s], by simp (disch := omega) only [wr_s], fun r hr => ?_⟩, d2.c (by simp (disch := omega) only [wr_c]) (by simp (disch := omega) only [wr_c]) (fun i hi => by simp (disch := omega) only [wr_c]), d3.c (by simp (disch := omega) only [wr_c]) (by simp (disch := omega) only [wr_c]) (by simp (disch := omega) only [wr_c]) (by simp (disch := omega) only [wr_c]), d4.c (by simp (disch := omega) only [wr_c]) (by simp (disch := omega) only [wr_c]) (by simp (disch := omega) only [wr_c]) (by simp (disch := omega) only [wr_c]), d5.c (fun i hi => by simp (disch := omega) only [wr_c]), d6.c (fun i hi => by simp (disch := omega) only [wr_c]), d7.c (by simp (disch := omega) only [wr_c]) (by simp (disch := omega) only [wr_c]) (by simp (disch := omega) only [wr_c]) (by simp (disch := omega) only [wr_c])⟩
                · simp (disch := omega) only [R_123_19, R_123_62, R_123_76, R_123_64, R_123_56, R_123_53, R_123_45, R_123_42, R_123_30, R_123_25, R_123_21, R_123_16, R_123_10, R_123_7, R_123_0, S_123, R_124_12, R_124_9, R_124_0, S_124, gd_t, bI_, bV_, bR_, and_self, and_true, true_and, ↓reduceIte, eq_self, oj_84, bI_1, bI_0, L0, L1, L2, L4, L6, L15, L16, L17, L18, L19, L20, L99, L999, le_t, le_f, lt_t, lt_f, eq_t, eq_f, ncl, nI_add, nmul, nsub, ndiv, nrem, nrem', nrN, s_11r, hr, hr2, hr3, hr4, r2, wr_c, ia_17, ia_18, ia_19, ia_20]
                · simp (disch := omega) only [R_261_62, R_261_79, R_261_76, R_261_64, R_261_59, R_261_48, R_261_45, R_261_36, R_261_33, R_261_26, R_261_23, R_261_9, R_261_4, R_261_0, S_261, gd_t, bI_, bV_, bR_, and_self, and_true, true_and, ↓reduceIte, eq_self, oj_84, bI_1, bI_0, L0, L1, L2, L3, L4, L6, L15, L65, L85, L99, L999, le_t, le_f, lt_t, lt_f, eq_t, eq_f, ncl, nI_add, nmul, nsub, ndiv, nrem, nrem', nrN, J0, J15, J1, s_177r, hr, hr2, hr3, e4, wr_c, wr_k, r3, ia_85]
                · by_cases e : r = n
                  · rw [e, upN_s, upN_s, upN_s, upN_s]
                    simp (disch := omega) only [wr_c, wr_k, wr_s, and_true]
                    omega
                  · rw [upN_n e, upN_n e, upN_n e, upN_n e]
                    simp (disch := omega) only [wr_c, wr_k]
                    exact r4 r (hlt hr e)
              · have e6 : n = 6 := by omega
                subst e6
                exact ⟨-nI 2, h, h, by simp (disch := omega) only [R_123_19, R_123_62, R_123_76, R_123_64, R_123_56, R_123_53, R_123_45, R_123_42, R_123_30, R_123_25, R_123_21, R_123_16, R_123_10, R_123_7, R_123_0, S_123, R_124_12, R_124_9, R_124_0, S_124, gd_t, bI_, bV_, bR_, and_self, and_true, true_and, ↓reduceIte, eq_self, oj_84, bI_1, bI_0, L0, L1, L2, L3, L4, L6, L15, L16, L17, L18, L19, L20, L65, L85, L99, L999, le_t, le_f, lt_t, lt_f, eq_t, eq_f, ncl, nI_add, nmul, nsub, ndiv, nrem, nrem', nrN, s_11r, hr, hr2, hr3, hr4, r2], by simp (disch := omega) only [R_261_62, R_261_79, R_261_76, R_261_64, R_261_59, R_261_48, R_261_45, R_261_36, R_261_33, R_261_26, R_261_23, R_261_9, R_261_4, R_261_0, S_261, gd_t, bI_, bV_, bR_, and_self, and_true, true_and, ↓reduceIte, eq_self, oj_84, bI_1, bI_0, L0, L1, L2, L3, L4, L6, L15, L16, L17, L18, L19, L20, L65, L85, L99, L999, le_t, le_f, lt_t, lt_f, eq_t, eq_f, ncl, nI_add, nmul, nsub, ndiv, nrem, nrem', nrN, J0, J15, J1, s_177r, hr, hr2, hr3, e4, r3, ia_85], I⟩
            · have e4 : rng y 99 (nI t) = false := rng_f (by omega) (by omega)
              exact BAD (by simp (disch := omega) only [R_123_19, R_123_62, R_123_76, R_123_64, R_123_56, R_123_53, R_123_45, R_123_42, R_123_30, R_123_25, R_123_21, R_123_16, R_123_10, R_123_7, R_123_0, S_123, gd_t, bI_, bV_, bR_, and_self, and_true, true_and, ↓reduceIte, eq_self, oj_84, bI_1, bI_0, L0, L1, L2, L3, L4, L6, L15, L65, L85, L99, L999, le_t, le_f, lt_t, lt_f, eq_t, eq_f, ncl, nI_add, nmul, nsub, ndiv, nrem, nrem', nrN, s_11r, hr, hr2, hr3, hr4]) (by simp (disch := omega) only [R_261_62, R_261_79, R_261_76, R_261_64, R_261_59, R_261_48, R_261_45, R_261_36, R_261_33, R_261_26, R_261_23, R_261_9, R_261_4, R_261_0, S_261, gd_t, bI_, bV_, bR_, and_self, and_true, true_and, ↓reduceIte, eq_self, oj_84, bI_1, bI_0, L0, L1, L2, L3, L4, L6, L15, L65, L85, L99, L999, le_t, le_f, lt_t, lt_f, eq_t, eq_f, ncl, nI_add, nmul, nsub, ndiv, nrem, nrem', nrN, J0, J15, J1, s_177r, hr, hr2, hr3, e4])
      · cases hr3 : rng 0 999 u with
        | false => exact BAD (by simp (disch := omega) only [R_123_19, R_123_62, R_123_76, R_123_64, R_123_56, R_123_53, R_123_45, R_123_42, R_123_30, R_123_25, R_123_21, R_123_16, R_123_10, R_123_7, R_123_0, S_123, gd_t, bI_, bV_, bR_, and_self, and_true, true_and, ↓reduceIte, eq_self, oj_84, bI_1, bI_0, L0, L1, L2, L3, L4, L6, L15, L65, L85, L99, L999, le_t, le_f, lt_t, lt_f, eq_t, eq_f, ncl, nI_add, nmul, nsub, ndiv, nrem, nrem', nrN, s_11r, hr, hr2, hr3]) (by simp (disch := omega) only [R_261_62, R_261_79, R_261_76, R_261_64, R_261_59, R_261_48, R_261_45, R_261_36, R_261_33, R_261_26, R_261_23, R_261_9, R_261_4, R_261_0, S_261, gd_t, bI_, bV_, bR_, and_self, and_true, true_and, ↓reduceIte, eq_self, oj_84, bI_1, bI_0, L0, L1, L2, L3, L4, L6, L15, L65, L85, L99, L999, le_t, le_f, lt_t, lt_f, eq_t, eq_f, ncl, nI_add, nmul, nsub, ndiv, nrem, nrem', nrN, J0, J15, J1, s_177r, hr, hr2, hr3])
        | true =>
          obtain ⟨y, -, hy, rfl⟩ := rng_t hr3
          cases hr4 : rng 0 999 z with
          | false =>
            have e4 : rng y 999 z = false := rng_mono hr4
            exact BAD (by simp (disch := omega) only [R_123_19, R_123_62, R_123_76, R_123_64, R_123_56, R_123_53, R_123_45, R_123_42, R_123_30, R_123_25, R_123_21, R_123_16, R_123_10, R_123_7, R_123_0, S_123, gd_t, bI_, bV_, bR_, and_self, and_true, true_and, ↓reduceIte, eq_self, oj_84, bI_1, bI_0, L0, L1, L2, L3, L4, L6, L15, L65, L85, L99, L999, le_t, le_f, lt_t, lt_f, eq_t, eq_f, ncl, nI_add, nmul, nsub, ndiv, nrem, nrem', nrN, s_11r, hr, hr2, hr3, hr4]) (by simp (disch := omega) only [R_261_62, R_261_79, R_261_76, R_261_64, R_261_59, R_261_48, R_261_45, R_261_36, R_261_33, R_261_26, R_261_23, R_261_9, R_261_4, R_261_0, S_261, gd_t, bI_, bV_, bR_, and_self, and_true, true_and, ↓reduceIte, eq_self, oj_84, bI_1, bI_0, L0, L1, L2, L3, L4, L6, L15, L65, L85, L99, L999, le_t, le_f, lt_t, lt_f, eq_t, eq_f, ncl, nI_add, nmul, nsub, ndiv, nrem, nrem', nrN, J0, J15, J1, s_177r, hr, hr2, hr3, e4])
          | true =>
            obtain ⟨t, -, ht, rfl⟩ := rng_t hr4
            by_cases c : y ≤ t
            · have e4 : rng y 999 (nI t) = true := rng_n c ht (by omega)
              by_cases c6 : n < 6
              · have hlt : ∀ {r : Nat}, r < n + 1 → r ≠ n → r < n := fun a b => by omega
                refine ⟨nI n, wr (wr (wr (wr (wr h 17 n (nI x)) 18 n (nI 1)) 19 n (nI y)) 20 n (nI t)) 16 4 (nI (n + 1)), wr (wr (wr (wr (wr (wr (wr (wr (wr (wr h 17 n (nI x)) 18 n (nI 1)) 19 n (nI y)) 20 n (nI t)) 16 4 (nI (n + 1))) 85 (65 + 4 * n) (nI x)) 85 (65 + 4 * n + 1) (nI 1)) 85 (65 + 4 * n + 2) (nI y)) 85 (65 + 4 * n + 3) (nI t)) 85 6 (nI (n + 1)), ?_, ?_, ⟨s, m, C.c (fun c _ _ _ => by simp (disch := omega) only [wr_c]) (by simp (disch := omega) only [wr_c]) (fun j _ _ => by simp (disch := omega) only [wr_k, wr_c])⟩, ⟨n + 1, upN K n x, upN A n 1, upN L n y, upN M n t, by omega, by simp (disch := omega) only [wr_c, wr_s], by simp (disch := omega) only [wr_s], fun r hr => ?_⟩, d2.c (by simp (disch := omega) only [wr_c]) (by simp (disch := omega) only [wr_c]) (fun i hi => by simp (disch := omega) only [wr_c]), d3.c (by simp (disch := omega) only [wr_c]) (by simp (disch := omega) only [wr_c]) (by simp (disch := omega) only [wr_c]) (by simp (disch := omega) only [wr_c]), d4.c (by simp (disch := omega) only [wr_c]) (by simp (disch := omega) only [wr_c]) (by simp (disch := omega) only [wr_c]) (by simp (disch := omega) only [wr_c]), d5.c (fun i hi => by simp (disch := omega) only [wr_c]), d6.c (fun i hi => by simp (disch := omega) only [wr_c]), d7.c (by simp (disch := omega) only [wr_c]) (by simp (disch := omega) only [wr_c]) (by simp (disch := omega) only [wr_c]) (by simp (disch := omega) only [wr_c])⟩
                · simp (disch := omega) only [R_123_19, R_123_62, R_123_76, R_123_64, R_123_56, R_123_53, R_123_45, R_123_42, R_123_30, R_123_25, R_123_21, R_123_16, R_123_10, R_123_7, R_123_0, S_123, R_124_12, R_124_9, R_124_0, S_124, gd_t, bI_, bV_, bR_, and_self, and_true, true_and, ↓reduceIte, eq_self, oj_84, bI_1, bI_0, L0, L1, L2, L4, L6, L15, L16, L17, L18, L19, L20, L99, L999, le_t, le_f, lt_t, lt_f, eq_t, eq_f, ncl, nI_add, nmul, nsub, ndiv, nrem, nrem', nrN, s_11r, hr, hr2, hr3, hr4, r2, wr_c, ia_17, ia_18, ia_19, ia_20]
                · simp (disch := omega) only [R_261_62, R_261_79, R_261_76, R_261_64, R_261_59, R_261_48, R_261_45, R_261_36, R_261_33, R_261_26, R_261_23, R_261_9, R_261_4, R_261_0, S_261, gd_t, bI_, bV_, bR_, and_self, and_true, true_and, ↓reduceIte, eq_self, oj_84, bI_1, bI_0, L0, L1, L2, L3, L4, L6, L15, L65, L85, L99, L999, le_t, le_f, lt_t, lt_f, eq_t, eq_f, ncl, nI_add, nmul, nsub, ndiv, nrem, nrem', nrN, J0, J15, J1, s_177r, hr, hr2, hr3, e4, wr_c, wr_k, r3, ia_85]
                · by_cases e : r = n
                  · rw [e, upN_s, upN_s, upN_s, upN_s]
                    simp (disch := omega) only [wr_c, wr_k, wr_s, and_true]
                    omega
                  · rw [upN_n e, upN_n e, upN_n e, upN_n e]
                    simp (disch := omega) only [wr_c, wr_k]
                    exact r4 r (hlt hr e)
              · have e6 : n = 6 := by omega
                subst e6
                exact ⟨-nI 2, h, h, by simp (disch := omega) only [R_123_19, R_123_62, R_123_76, R_123_64, R_123_56, R_123_53, R_123_45, R_123_42, R_123_30, R_123_25, R_123_21, R_123_16, R_123_10, R_123_7, R_123_0, S_123, R_124_12, R_124_9, R_124_0, S_124, gd_t, bI_, bV_, bR_, and_self, and_true, true_and, ↓reduceIte, eq_self, oj_84, bI_1, bI_0, L0, L1, L2, L3, L4, L6, L15, L16, L17, L18, L19, L20, L65, L85, L99, L999, le_t, le_f, lt_t, lt_f, eq_t, eq_f, ncl, nI_add, nmul, nsub, ndiv, nrem, nrem', nrN, s_11r, hr, hr2, hr3, hr4, r2], by simp (disch := omega) only [R_261_62, R_261_79, R_261_76, R_261_64, R_261_59, R_261_48, R_261_45, R_261_36, R_261_33, R_261_26, R_261_23, R_261_9, R_261_4, R_261_0, S_261, gd_t, bI_, bV_, bR_, and_self, and_true, true_and, ↓reduceIte, eq_self, oj_84, bI_1, bI_0, L0, L1, L2, L3, L4, L6, L15, L16, L17, L18, L19, L20, L65, L85, L99, L999, le_t, le_f, lt_t, lt_f, eq_t, eq_f, ncl, nI_add, nmul, nsub, ndiv, nrem, nrem', nrN, J0, J15, J1, s_177r, hr, hr2, hr3, e4, r3, ia_85], I⟩
            · have e4 : rng y 999 (nI t) = false := rng_f (by omega) (by omega)
              exact BAD (by simp (disch := omega) only [R_123_19, R_123_62, R_123_76, R_123_64, R_123_56, R_123_53, R_123_45, R_123_42, R_123_30, R_123_25, R_123_21, R_123_16, R_123_10, R_123_7, R_123_0, S_123, gd_t, bI_, bV_, bR_, and_self, and_true, true_and, ↓reduceIte, eq_self, oj_84, bI_1, bI_0, L0, L1, L2, L3, L4, L6, L15, L65, L85, L99, L999, le_t, le_f, lt_t, lt_f, eq_t, eq_f, ncl, nI_add, nmul, nsub, ndiv, nrem, nrem', nrN, s_11r, hr, hr2, hr3, hr4]) (by simp (disch := omega) only [R_261_62, R_261_79, R_261_76, R_261_64, R_261_59, R_261_48, R_261_45, R_261_36, R_261_33, R_261_26, R_261_23, R_261_9, R_261_4, R_261_0, S_261, gd_t, bI_, bV_, bR_, and_self, and_true, true_and, ↓reduceIte, eq_self, oj_84, bI_1, bI_0, L0, L1, L2, L3, L4, L6, L15, L65, L85, L99, L999, le_t, le_f, lt_t, lt_f, eq_t, eq_f, ncl, nI_add, nmul, nsub, ndiv, nrem, nrem', nrN, J0, J15, J1, s_177r, hr, hr2, hr3, e4])
theorem s_141 {h : Hp} {v w : Int32} {n : Nat} (hn : n ≤ 4) (e : h 0 8 = nI n) : S_141 v w h = some (bI (scn n v && rng 0 2 w), h) := by
  cases hr : scn n v <;> cases hr2 : rng 0 2 w <;> simp (disch := omega) only [R_141_27, R_141_23, R_141_20, R_141_14, R_141_11, R_141_0, S_141, gd_t, bI_, bV_, bR_, and_self, and_true, true_and, ↓reduceIte, eq_self, oj_84, bI_1, bI_0, L0, L1, L2, L8, e, s_11s, s_11r, hr, hr2, eq_f, Bool.and_false, Bool.false_and, Bool.and_self]
theorem p_row {v w : Int32} : Pub (S_140 v w) (S_272 v w) := by
  intro h I
  obtain ⟨⟨s, m, C⟩, d1, d2, d3, ⟨n, n1, n2, n3, n4⟩, d5, d6, d7⟩ := id I
  cases hr : scn n v with
  | false => exact ⟨-nI 9, h, h, by simp (disch := omega) only [R_140_22, R_140_9, R_140_6, R_140_0, S_140, gd_t, bI_, bV_, bR_, and_self, and_true, true_and, ↓reduceIte, eq_self, oj_84, bI_1, bI_0, L0, L1, L2, L3, L9, L27, L63, L84, L93, s_141 n1 n2, hr, Bool.false_and], by simp (disch := omega) only [R_272_41, R_272_28, R_272_25, R_272_16, R_272_13, R_272_0, S_272, gd_t, bI_, bV_, bR_, and_self, and_true, true_and, ↓reduceIte, eq_self, oj_84, bI_1, bI_0, L0, L1, L2, L3, L9, L27, L63, L84, L93, J0, n3, s_177s, hr], I⟩
  | true =>
    cases hr2 : rng 0 2 w with
    | false => exact ⟨-nI 9, h, h, by simp (disch := omega) only [R_140_22, R_140_9, R_140_6, R_140_0, S_140, gd_t, bI_, bV_, bR_, and_self, and_true, true_and, ↓reduceIte, eq_self, oj_84, bI_1, bI_0, L0, L1, L2, L3, L9, L27, L63, L84, L93, s_141 n1 n2, hr, hr2, Bool.and_false], by simp (disch := omega) only [R_272_41, R_272_28, R_272_25, R_272_16, R_272_13, R_272_0, S_272, gd_t, bI_, bV_, bR_, and_self, and_true, true_and, ↓reduceIte, eq_self, oj_84, bI_1, bI_0, L0, L1, L2, L3, L9, L27, L63, L84, L93, J0, J2, n3, s_177s, s_177r, hr, hr2, eq_f], I⟩
    | true =>
      obtain ⟨k, hk, rfl⟩ := scn_t hr
      obtain ⟨x, -, hx, rfl⟩ := rng_t hr2
      have e := n4 (3 * k + x) (by omega)
      have e3 : k * 3 + x = 3 * k + x := by omega
      exact ⟨h 93 (3 * k + x), h, h, by simp (disch := omega) only [R_140_22, R_140_9, R_140_6, R_140_0, S_140, gd_t, bI_, bV_, bR_, and_self, and_true, true_and, ↓reduceIte, eq_self, oj_84, bI_1, bI_0, L0, L1, L2, L3, L9, L27, L63, L84, L93, s_141 n1 n2, hr, hr2, Bool.and_self, eq_f, nmul, nI_add, e3, ia_63, ncl, e], by simp (disch := omega) only [R_272_41, R_272_28, R_272_25, R_272_16, R_272_13, R_272_0, S_272, gd_t, bI_, bV_, bR_, and_self, and_true, true_and, ↓reduceIte, eq_self, oj_84, bI_1, bI_0, L0, L1, L2, L3, L9, L27, L63, L84, L93, J0, J2, n3, s_177s, s_177r, hr, hr2, eq_f, nmul, nI_add, ia_93, ncl], I⟩
theorem p_alterRow {v w u : Int32} : Pub (S_142 v w u) (S_273 v w u) := by
  intro h I
  obtain ⟨⟨s, m, C⟩, d1, d2, d3, ⟨n, n1, n2, n3, n4⟩, d5, d6, d7⟩ := id I
  cases hr : scn n v with
  | false => exact ⟨-nI 9, h, h, by simp (disch := omega) only [R_142_25, R_142_22, R_142_9, R_142_6, R_142_0, S_142, gd_t, bI_, bV_, bR_, and_self, and_true, true_and, ↓reduceIte, eq_self, oj_84, bI_1, bI_0, L0, L1, L2, L3, L9, L27, L63, L84, L93, s_141 n1 n2, hr, Bool.false_and], by simp (disch := omega) only [R_273_28, R_273_31, R_273_25, R_273_16, R_273_13, R_273_0, S_273, gd_t, bI_, bV_, bR_, and_self, and_true, true_and, ↓reduceIte, eq_self, oj_84, bI_1, bI_0, L0, L1, L2, L3, L9, L27, L63, L84, L93, J0, n3, s_177s, hr], I⟩
  | true =>
    cases hr2 : rng 0 2 w with
    | false => exact ⟨-nI 9, h, h, by simp (disch := omega) only [R_142_25, R_142_22, R_142_9, R_142_6, R_142_0, S_142, gd_t, bI_, bV_, bR_, and_self, and_true, true_and, ↓reduceIte, eq_self, oj_84, bI_1, bI_0, L0, L1, L2, L3, L9, L27, L63, L84, L93, s_141 n1 n2, hr, hr2, Bool.and_false], by simp (disch := omega) only [R_273_28, R_273_31, R_273_25, R_273_16, R_273_13, R_273_0, S_273, gd_t, bI_, bV_, bR_, and_self, and_true, true_and, ↓reduceIte, eq_self, oj_84, bI_1, bI_0, L0, L1, L2, L3, L9, L27, L63, L84, L93, J0, J2, n3, s_177s, s_177r, hr, hr2, eq_f], I⟩
    | true =>
      obtain ⟨k, hk, rfl⟩ := scn_t hr
      obtain ⟨x, -, hx, rfl⟩ := rng_t hr2
      have e := n4 (3 * k + x) (by omega)
      have e3 : k * 3 + x = 3 * k + x := by omega
      refine ⟨h 93 (3 * k + x), wr h 63 (3 * k + x) u, wr (wr h 63 (3 * k + x) u) 93 (3 * k + x) u, by simp (disch := omega) only [R_142_25, R_142_22, R_142_9, R_142_6, R_142_0, S_142, R_29_0, S_29, gd_t, bI_, bV_, bR_, and_self, and_true, true_and, ↓reduceIte, eq_self, oj_84, bI_1, bI_0, L0, L1, L2, L3, L9, L27, L63, L84, L93, s_141 n1 n2, hr, hr2, Bool.and_self, eq_f, nmul, nI_add, e3, ia_63, ncl, e], by simp (disch := omega) only [R_273_28, R_273_31, R_273_25, R_273_16, R_273_13, R_273_0, S_273, gd_t, bI_, bV_, bR_, and_self, and_true, true_and, ↓reduceIte, eq_self, oj_84, bI_1, bI_0, L0, L1, L2, L3, L9, L27, L63, L84, L93, J0, J2, wr_c, n3, s_177s, s_177r, hr, hr2, eq_f, nmul, nI_add, ia_93, ncl], ⟨s, m, C.c (fun c _ _ _ => by simp (disch := omega) only [wr_c]) (by simp (disch := omega) only [wr_c]) (fun j _ _ => by simp (disch := omega) only [wr_c])⟩, d1.c (by simp (disch := omega) only [wr_c]) (fun i _ _ => by simp (disch := omega) only [wr_c]) (fun j _ => by simp (disch := omega) only [wr_c]), d2.c (by simp (disch := omega) only [wr_c]) (by simp (disch := omega) only [wr_c]) (fun i hi => by simp (disch := omega) only [wr_c]), d3.c (by simp (disch := omega) only [wr_c]) (by simp (disch := omega) only [wr_c]) (by simp (disch := omega) only [wr_c]) (by simp (disch := omega) only [wr_c]), ⟨n, n1, by simp (disch := omega) only [wr_c]; exact n2, by simp (disch := omega) only [wr_c]; exact n3, fun j hj => ?_⟩, d5.c (fun i hi => by simp (disch := omega) only [wr_c]), d6.c (fun i hi => by simp (disch := omega) only [wr_c]), d7.c (by simp (disch := omega) only [wr_c]) (by simp (disch := omega) only [wr_c]) (by simp (disch := omega) only [wr_c]) (by simp (disch := omega) only [wr_c])⟩
      by_cases ej : j = 3 * k + x
      · rw [ej]
        simp (disch := omega) only [wr_c, wr_s]
      · simp (disch := omega) only [wr_c, wr_k]
        exact n4 j hj
theorem p_trace {v : Int32} : Pub (S_169 v) (S_291 v) := by
  intro h I
  obtain ⟨⟨s, m, C⟩, d1, d2, d3, d4, d5, d6, ⟨n, n1, n2, n3, n4⟩⟩ := id I
  cases hr : scn n v with
  | false => exact ⟨-nI 3, h, h, by simp (disch := omega) only [R_169_29, R_169_17, R_169_14, R_169_0, S_169, gd_t, bI_, bV_, bR_, and_self, and_true, true_and, ↓reduceIte, eq_self, oj_84, bI_1, bI_0, L0, L1, L3, L35, L61, L62, L84, L100, n2, s_11s, hr], by simp (disch := omega) only [R_291_25, R_291_16, R_291_13, R_291_0, S_291, gd_t, bI_, bV_, bR_, and_self, and_true, true_and, ↓reduceIte, eq_self, oj_84, bI_1, bI_0, L0, L1, L3, L35, L61, L62, L84, L100, J0, n3, s_177s, hr], I⟩
  | true =>
    obtain ⟨k, hk, rfl⟩ := scn_t hr
    exact ⟨h 100 k, h, h, by simp (disch := omega) only [R_169_29, R_169_17, R_169_14, R_169_0, S_169, gd_t, bI_, bV_, bR_, and_self, and_true, true_and, ↓reduceIte, eq_self, oj_84, bI_1, bI_0, L0, L1, L3, L35, L61, L62, L84, L100, n2, s_11s, hr, eq_f, ia_62, ncl, n4], by simp (disch := omega) only [R_291_25, R_291_16, R_291_13, R_291_0, S_291, gd_t, bI_, bV_, bR_, and_self, and_true, true_and, ↓reduceIte, eq_self, oj_84, bI_1, bI_0, L0, L1, L3, L35, L61, L62, L84, L100, J0, n3, s_177s, hr, eq_f, ia_100, ncl], I⟩
