/-! part 67: sheet, write, item, shelf, taken -/
theorem z1 : nI 0 - nI 1 = -nI 1 := rfl
theorem z2 : -nI 1 + nI 1 = nI 0 := rfl
theorem eq_m1 {a : Nat} (h : a < 2147483648) : (nI a = -nI 1) = False := eq_false (fun e => by
  have := congrArg Int32.toInt e
  rw [nI_toInt h] at this
  have h2 : (-nI 1).toInt = -1 := rfl
  omega)
theorem iaI {t k : Nat} (ht : t < 4) (hk : k < 40) : IA (54 + t) (nI k) = True := eq_true (by
  rcases (show t = 0 ∨ t = 1 ∨ t = 2 ∨ t = 3 by omega) with rfl | rfl | rfl | rfl <;> exact IA.of rfl hk (by decide))
theorem lt_neg {v : Int32} {a : Nat} : rng 0 a v = true → (v < nI 0) = False := fun h => eq_false (fun q => by
  obtain ⟨n, -, hn, rfl⟩ := rng_t h
  have h2 := of_decide_eq_true h
  rw [Int32.lt_iff_toInt_lt] at q
  have : (nI 0).toInt = 0 := rfl
  omega)
theorem s_147 {h : Hp} {v : Int32} : S_147 v h = some (bI (rng 0 3 v), h) := by
  cases hr : rng 0 3 v with
  | true =>
    obtain ⟨n, -, hn, rfl⟩ := rng_t hr
    simp (disch := omega) only [R_147_13, R_147_9, R_147_4, R_147_0, S_147, gd_t, bI_, bV_, bR_, and_self, and_true, true_and, ↓reduceIte, eq_self, oj_84, bI_1, bI_0, L0, L1, L4, le_t, le_f, lt_t, lt_f, eq_t, eq_f, ncl, nI_add, nmul, nsub, ndiv, nrem, nrem', nrN]
  | false =>
    have := of_decide_eq_false hr
    by_cases c : v < nI 0
    · simp (disch := omega) only [R_147_13, R_147_9, R_147_4, R_147_0, S_147, gd_t, bI_, bV_, bR_, and_self, and_true, true_and, ↓reduceIte, eq_self, oj_84, bI_1, bI_0, L0, L1, L4, c]
    · have c2 : nI 4 ≤ v := by
        rw [Int32.le_iff_toInt_le]
        rw [Int32.lt_iff_toInt_lt] at c
        have e0 : (nI 0).toInt = 0 := rfl
        have e4 : (nI 4).toInt = 4 := rfl
        omega
      simp (disch := omega) only [R_147_13, R_147_9, R_147_4, R_147_0, S_147, gd_t, bI_, bV_, bR_, and_self, and_true, true_and, ↓reduceIte, eq_self, oj_84, bI_1, bI_0, L0, L1, L4, c, c2]
theorem s_158 {h : Hp} {v : Int32} : S_158 v h = some (bI (rng 0 3 v), h) := by
  cases hr : rng 0 3 v with
  | true =>
    obtain ⟨n, -, hn, rfl⟩ := rng_t hr
    simp (disch := omega) only [R_158_13, R_158_9, R_158_4, R_158_0, S_158, gd_t, bI_, bV_, bR_, and_self, and_true, true_and, ↓reduceIte, eq_self, oj_84, bI_1, bI_0, L0, L1, L4, le_t, le_f, lt_t, lt_f, eq_t, eq_f, ncl, nI_add, nmul, nsub, ndiv, nrem, nrem', nrN]
  | false =>
    have := of_decide_eq_false hr
    by_cases c : v < nI 0
    · simp (disch := omega) only [R_158_13, R_158_9, R_158_4, R_158_0, S_158, gd_t, bI_, bV_, bR_, and_self, and_true, true_and, ↓reduceIte, eq_self, oj_84, bI_1, bI_0, L0, L1, L4, c]
    · have c2 : nI 4 ≤ v := by
        rw [Int32.le_iff_toInt_le]
        rw [Int32.lt_iff_toInt_lt] at c
        have e0 : (nI 0).toInt = 0 := rfl
        have e4 : (nI 4).toInt = 4 := rfl
        omega
      simp (disch := omega) only [R_158_13, R_158_9, R_158_4, R_158_0, S_158, gd_t, bI_, bV_, bR_, and_self, and_true, true_and, ↓reduceIte, eq_self, oj_84, bI_1, bI_0, L0, L1, L4, c, c2]
theorem s_276 {h : Hp} {v : Int32} : S_276 v h = some (bI (rng 0 3 v), h) := by
  simp (disch := omega) only [R_276_9, R_276_0, S_276, gd_t, bI_, bV_, bR_, and_self, and_true, true_and, ↓reduceIte, eq_self, oj_84, bI_1, bI_0, L0, L1, L3, J0, J3, s_177r, bI_n]
theorem s_150 {h : Hp} {t n : Nat} {v : Int32} (ht : t < 4) (hn : n ≤ 40) (e : h 52 t = nI n) : S_150 (nI t) v h = some (bI (scn n v), h) := by
  cases hr : scn n v with
  | true =>
    obtain ⟨k, hk, rfl⟩ := scn_t hr
    simp (disch := omega) only [R_150_18, R_150_14, R_150_4, R_150_0, S_150, gd_t, bI_, bV_, bR_, and_self, and_true, true_and, ↓reduceIte, eq_self, oj_84, bI_1, bI_0, L0, L1, L52, le_t, le_f, lt_t, lt_f, eq_t, eq_f, ncl, nI_add, nmul, nsub, ndiv, nrem, nrem', nrN, ia_52, e]
  | false =>
    have := of_decide_eq_false hr
    by_cases c : v < nI 0
    · simp (disch := omega) only [R_150_18, R_150_14, R_150_4, R_150_0, S_150, gd_t, bI_, bV_, bR_, and_self, and_true, true_and, ↓reduceIte, eq_self, oj_84, bI_1, bI_0, L0, L1, L52, c]
    · have c2 : nI n ≤ v := by
        rw [Int32.le_iff_toInt_le, nI_toInt (by omega)]
        rw [Int32.lt_iff_toInt_lt] at c
        have e0 : (nI 0).toInt = 0 := rfl
        omega
      simp (disch := omega) only [R_150_18, R_150_14, R_150_4, R_150_0, S_150, gd_t, bI_, bV_, bR_, and_self, and_true, true_and, ↓reduceIte, eq_self, oj_84, bI_1, bI_0, L0, L1, L52, c, c2, ia_52, ncl, e]
theorem s_148 {h : Hp} {t : Nat} {x y : Int32} (ht : t < 4) : ∃ h', S_148 (nI t) x y h = some (nI 1, h') ∧ Same [54 + t] (wr (wr h 51 t x) 52 t y) h' ∧ ∀ j, j < 40 → h' (54 + t) j = nI 0 := by
  have loop : ∀ j i n : Nat, i + j = 40 → j < n → ∀ H, Same [54 + t] (wr (wr h 51 t x) 52 t y) H → (∀ j, j < i → H (54 + t) j = nI 0) → ∃ h', H_148_17 n (nI t) (nI i) H = some (nI 1, h') ∧ Same [54 + t] (wr (wr h 51 t x) 52 t y) h' ∧ ∀ j, j < 40 → h' (54 + t) j = nI 0 := by
    intro j
    induction j with
    | zero =>
      intro i n e hj H sH hz
      obtain ⟨n, rfl⟩ : ∃ p, n = p + 1 := ⟨n - 1, by omega⟩
      have ei : i = 40 := by omega
      refine ⟨H, ?_, sH, fun j hj => hz j (by omega)⟩
      simp (disch := omega) only [H_148_17, R_148_40, R_148_24, R_148_17, R_148_0, S_148, gd_t, bI_, bV_, bR_, and_self, and_true, true_and, ↓reduceIte, eq_self, oj_84, bI_1, bI_0, L0, L1, L4, L40, L51, L52, L54, le_t, le_f, lt_t, lt_f, eq_t, eq_f, ncl, nI_add, nmul, nsub, ndiv, nrem, nrem', nrN, ei]
    | succ j ih =>
      intro i n e hj H sH hz
      obtain ⟨n, rfl⟩ : ∃ p, n = p + 1 := ⟨n - 1, by omega⟩
      have nx := ih (i + 1) n (by omega) (by omega) (wr H (54 + t) i (nI 0)) (sH.wr (by simp)) (fun u hu => by
        by_cases et : u = i
        · rw [et, wr_self]
        · rw [wr_k et]; exact hz u (by omega))
      simp (disch := omega) only [H_148_17, R_148_40, R_148_24, R_148_17, R_148_0, S_148, gd_t, bI_, bV_, bR_, and_self, and_true, true_and, ↓reduceIte, eq_self, oj_84, bI_1, bI_0, L0, L1, L4, L40, L51, L52, L54, le_t, le_f, lt_t, lt_f, eq_t, eq_f, ncl, nI_add, nmul, nsub, ndiv, nrem, nrem', nrN, vpN, iaI]
      exact nx
  obtain ⟨h', g, a, b⟩ := loop 40 0 fuL (by omega) (fuL_gt (by omega)) _ Same.rf (fun t ht => by omega)
  refine ⟨h', ?_, a, b⟩
  simp (disch := omega) only [R_148_40, R_148_24, R_148_17, R_148_0, S_148, gd_t, bI_, bV_, bR_, and_self, and_true, true_and, ↓reduceIte, eq_self, oj_84, bI_1, bI_0, L0, L1, L4, L40, L51, L52, L54, ncl, ia_51, ia_52]
  exact g
theorem l_275 {H0 : Hp} {t : Nat} (ht : t < 4) : ∃ h', H_275_71 fuL (nI t) (nI 0) H0 = some (nI 1, h') ∧ Same [96] H0 h' ∧ (∀ j, j < 40 → h' 96 (40 * t + j) = nI 0) ∧ ∀ j, (j < 40 * t ∨ 40 * t + 40 ≤ j) → h' 96 j = H0 96 j := by
  have loop : ∀ j i n : Nat, i + j = 40 → j < n → ∀ H, Same [96] H0 H → (∀ j, j < i → H 96 (40 * t + j) = nI 0) → (∀ j, (j < 40 * t ∨ 40 * t + 40 ≤ j) → H 96 j = H0 96 j) → ∃ h', H_275_71 n (nI t) (nI i) H = some (nI 1, h') ∧ Same [96] H0 h' ∧ (∀ j, j < 40 → h' 96 (40 * t + j) = nI 0) ∧ ∀ j, (j < 40 * t ∨ 40 * t + 40 ≤ j) → h' 96 j = H0 96 j := by
    intro j
    induction j with
    | zero =>
      intro i n e hj H sH hz ho
      obtain ⟨n, rfl⟩ : ∃ p, n = p + 1 := ⟨n - 1, by omega⟩
      have ei : i = 40 := by omega
      refine ⟨H, ?_, sH, fun j hj => hz j (by omega), ho⟩
      simp (disch := omega) only [H_275_71, R_275_31, R_275_97, R_275_78, R_275_71, R_275_66, R_275_62, R_275_44, R_275_41, R_275_37, R_275_33, R_275_25, R_275_21, R_275_18, R_275_7, R_275_4, R_275_0, S_275, gd_t, bI_, bV_, bR_, and_self, and_true, true_and, ↓reduceIte, eq_self, oj_84, bI_1, bI_0, L0, L1, L4, L14, L40, L94, L95, L96, le_t, le_f, lt_t, lt_f, eq_t, eq_f, ncl, nI_add, nmul, nsub, ndiv, nrem, nrem', nrN, ei]
    | succ j ih =>
      intro i n e hj H sH hz ho
      obtain ⟨n, rfl⟩ : ∃ p, n = p + 1 := ⟨n - 1, by omega⟩
      have nx := ih (i + 1) n (by omega) (by omega) (wr H 96 (40 * t + i) (nI 0)) (sH.wr (by simp)) (fun u hu => by
        by_cases et : u = i
        · rw [et, wr_self]
        · rw [wr_k (by omega)]; exact hz u (by omega)) (fun u hu => by rw [wr_k (by omega)]; exact ho u hu)
      simp (disch := omega) only [H_275_71, R_275_31, R_275_97, R_275_78, R_275_71, R_275_66, R_275_62, R_275_44, R_275_41, R_275_37, R_275_33, R_275_25, R_275_21, R_275_18, R_275_7, R_275_4, R_275_0, S_275, gd_t, bI_, bV_, bR_, and_self, and_true, true_and, ↓reduceIte, eq_self, oj_84, bI_1, bI_0, L0, L1, L4, L14, L40, L94, L95, L96, le_t, le_f, lt_t, lt_f, eq_t, eq_f, ncl, nI_add, nmul, nsub, ndiv, nrem, nrem', nrN, ia_96]
      exact nx
  exact loop 40 0 fuL (by omega) (fuL_gt (by omega)) _ Same.rf (fun t ht => by omega) (fun _ _ => rfl)
/-- what a change of sheets alone leaves -/
theorem Inv.sheets {h h' : Hp} (I : Inv h) (c : ∀ i, ¬ (51 ≤ i ∧ i ≤ 57 ∨ 94 ≤ i ∧ i ≤ 96) → h' i = h i) (q : SheI h') : Inv h' := by
  obtain ⟨⟨s, m, C⟩, d1, d2, d3, d4, d5, d6, d7⟩ := I
  exact ⟨⟨s, m, C.c (fun i _ _ _ => c i (by omega)) (by rw [c 84 (by decide)]) (fun j _ _ => by rw [c 85 (by decide)])⟩, d1.c (by rw [c 16 (by decide)]) (fun i _ _ => c _ (by omega)) (fun j _ => by rw [c 85 (by decide)]), d2.c (by rw [c 0 (by decide)]) (by rw [c 84 (by decide)]) (fun i hi => c i (by omega)), d3.c (by rw [c 21 (by decide)]) (by rw [c 84 (by decide)]) (c 22 (by decide)) (c 89 (by decide)), d4.c (by rw [c 0 (by decide)]) (by rw [c 84 (by decide)]) (c 63 (by decide)) (c 93 (by decide)), q, d6.c (fun i hi => c i (by omega)), d7.c (by rw [c 61 (by decide)]) (by rw [c 84 (by decide)]) (c 62 (by decide)) (c 100 (by decide))⟩
theorem Inv.shelves {h h' : Hp} (I : Inv h) (c : ∀ i, ¬ (58 ≤ i ∧ i ≤ 60 ∨ 97 ≤ i ∧ i ≤ 99) → h' i = h i) (q : ShlI h') : Inv h' := by
  obtain ⟨⟨s, m, C⟩, d1, d2, d3, d4, d5, d6, d7⟩ := I
  exact ⟨⟨s, m, C.c (fun i _ _ _ => c i (by omega)) (by rw [c 84 (by decide)]) (fun j _ _ => by rw [c 85 (by decide)])⟩, d1.c (by rw [c 16 (by decide)]) (fun i _ _ => c _ (by omega)) (fun j _ => by rw [c 85 (by decide)]), d2.c (by rw [c 0 (by decide)]) (by rw [c 84 (by decide)]) (fun i hi => c i (by omega)), d3.c (by rw [c 21 (by decide)]) (by rw [c 84 (by decide)]) (c 22 (by decide)) (c 89 (by decide)), d4.c (by rw [c 0 (by decide)]) (by rw [c 84 (by decide)]) (c 63 (by decide)) (c 93 (by decide)), d5.c (fun i hi => c i (by omega)), q, d7.c (by rw [c 61 (by decide)]) (by rw [c 84 (by decide)]) (c 62 (by decide)) (c 100 (by decide))⟩
def srt (v : Int32) : Bool := decide (-1 ≤ v.toInt ∧ v.toInt ≤ 4)
theorem srt_t {v : Int32} (h : srt v = true) : v = -nI 1 ∨ ∃ n, n ≤ 4 ∧ v = nI n := by
  have h2 := of_decide_eq_true h
  by_cases c : v.toInt = -1
  · left
    apply Int32.toInt_inj.mp
    rw [c]
    rfl
  · right
    obtain ⟨j, hj, rfl⟩ := nI_of (x := v) (by rw [Int32.lt_iff_toInt_lt]; show ¬ v.toInt < 0; omega)
    rw [nI_toInt hj] at h2
    exact ⟨j, by omega, rfl⟩
theorem s_11m {h : Hp} {v : Int32} : S_11 v (-nI 1) (nI 4) h = some (bI (srt v), h) := by
  rw [s_11]
  rfl
theorem s_177m {h : Hp} {v : Int32} : S_177 (Int32.toInt64 v) (-1) 4 h = some (bI (srt v), h) := by
  rw [s_177, Int32.toInt_toInt64]
  rfl
theorem SheI.upd {h h1 h2 : Hp} {t c n : Nat} {x : Int32} (q : SheI h) (ht : t < 4) (hc : c ≤ 5) (hn : n ≤ 40) (ex : x = nI c - nI 1) (s1 : Same [54 + t] (wr (wr h 51 t x) 52 t (nI n)) h1) (z1 : ∀ j, j < 40 → h1 (54 + t) j = nI 0) (s2 : Same [96] (wr (wr h1 94 t (nI c)) 95 t (nI n)) h2) (z2 : ∀ j, j < 40 → h2 96 (40 * t + j) = nI 0) (o2 : ∀ j, (j < 40 * t ∨ 40 * t + 40 ≤ j) → h2 96 j = h1 96 j) : SheI h2 := by
  intro u hu
  have e : ∀ i, i ≠ 96 → h2 i = (wr (wr h1 94 t (nI c)) 95 t (nI n)) i := fun i hi => s2 i (by simpa using hi)
  have e1 : ∀ i, i ≠ 54 + t → h1 i = (wr (wr h 51 t x) 52 t (nI n)) i := fun i hi => s1 i (by simpa using hi)
  by_cases eu : u = t
  · subst eu
    refine ⟨c, n, hc, hn, ?_, ?_, ?_, ?_, fun j hj => ?_⟩
    · rw [e 51 (by decide)]; simp (disch := omega) only [wr_c]; rw [e1 51 (by omega)]; simp (disch := omega) only [wr_c, wr_s]; exact ex
    · rw [e 94 (by decide)]; simp (disch := omega) only [wr_c, wr_s]
    · rw [e 52 (by decide)]; simp (disch := omega) only [wr_c]; rw [e1 52 (by omega)]; simp (disch := omega) only [wr_c, wr_s]
    · rw [e 95 (by decide)]; simp (disch := omega) only [wr_c, wr_s]
    · rw [e (54 + u) (by omega)]; simp (disch := omega) only [wr_c]; rw [z1 j (by omega), z2 j (by omega)]
  · obtain ⟨c', n', h1', h2', h3, h4, h5, h6, h7⟩ := q u hu
    refine ⟨c', n', h1', h2', ?_, ?_, ?_, ?_, fun j hj => ?_⟩
    · rw [e 51 (by decide)]; simp (disch := omega) only [wr_c]; rw [e1 51 (by omega)]; simp (disch := omega) only [wr_c, wr_k]; exact h3
    · rw [e 94 (by decide)]; simp (disch := omega) only [wr_c, wr_k]; rw [e1 94 (by omega)]; simp (disch := omega) only [wr_c]; exact h4
    · rw [e 52 (by decide)]; simp (disch := omega) only [wr_c]; rw [e1 52 (by omega)]; simp (disch := omega) only [wr_c, wr_k]; exact h5
    · rw [e 95 (by decide)]; simp (disch := omega) only [wr_c, wr_k]; rw [e1 95 (by omega)]; simp (disch := omega) only [wr_c]; exact h6
    · rw [e (54 + u) (by omega)]; simp (disch := omega) only [wr_c]; rw [e1 (54 + u) (by omega), o2 _ (by omega), e1 96 (by omega)]; simp (disch := omega) only [wr_c]; exact h7 j hj
theorem p_sheet {v w u : Int32} : Pub (S_146 v w u) (S_275 v w u) := by
  intro h I
  have D5 : SheI h := I.2.2.2.2.2.1
  cases hr : rng 0 3 v with
  | false => exact ⟨-nI 1, h, h, by simp (disch := omega) only [R_146_16, R_146_59, R_146_49, R_146_46, R_146_42, R_146_40, R_146_34, R_146_33, R_146_23, R_146_18, R_146_13, R_146_7, R_146_4, R_146_0, S_146, gd_t, bI_, bV_, bR_, and_self, and_true, true_and, ↓reduceIte, eq_self, oj_84, bI_1, bI_0, L0, L1, L4, L14, L40, L94, L95, L96, s_147, hr], by simp (disch := omega) only [R_275_31, R_275_97, R_275_78, R_275_71, R_275_66, R_275_62, R_275_44, R_275_41, R_275_37, R_275_33, R_275_25, R_275_21, R_275_18, R_275_7, R_275_4, R_275_0, S_275, gd_t, bI_, bV_, bR_, and_self, and_true, true_and, ↓reduceIte, eq_self, oj_84, bI_1, bI_0, L0, L1, L4, L14, L40, L94, L95, L96, s_276, hr], I⟩
  | true =>
    cases hr2 : srt w with
    | false => exact ⟨-nI 1, h, h, by simp (disch := omega) only [R_146_16, R_146_59, R_146_49, R_146_46, R_146_42, R_146_40, R_146_34, R_146_33, R_146_23, R_146_18, R_146_13, R_146_7, R_146_4, R_146_0, S_146, gd_t, bI_, bV_, bR_, and_self, and_true, true_and, ↓reduceIte, eq_self, oj_84, bI_1, bI_0, L0, L1, L4, L14, L40, s_147, hr, s_11m, hr2, eq_f], by simp (disch := omega) only [s_177m, S_275, R_275_0, R_275_4, R_275_7, R_275_18, R_275_31, gd_t, bI_, L0, L1, bI_0, bI_1, ↓reduceIte, s_276, hr, hr2, eq_f, eq_self], I⟩
    | true =>
      obtain ⟨t, -, ht, rfl⟩ := rng_t hr
      have fin : ∀ (c n : Nat) (x : Int32), c ≤ 5 → n ≤ 40 → x = nI c - nI 1 → (∀ h1, S_148 (nI t) x (nI n) h = some (nI 1, h1) → S_146 (nI t) w u h = some (nI 1, h1)) → (∀ h1, S_275 (nI t) w u h1 = H_275_71 fuL (nI t) (nI 0) (wr (wr h1 94 t (nI c)) 95 t (nI n))) → ∃ x h1 h2, S_146 (nI t) w u h = some (x, h1) ∧ S_275 (nI t) w u h1 = some (x, h2) ∧ Inv h2 := by
        intro c n x hc hn ex f1 f2
        obtain ⟨h1, g1, s1, zz1⟩ := s_148 (h := h) (t := t) (x := x) (y := nI n) (by omega)
        obtain ⟨h2, g2, s2, zz2, o2⟩ := l_275 (H0 := wr (wr h1 94 t (nI c)) 95 t (nI n)) (t := t) (by omega)
        refine ⟨nI 1, h1, h2, f1 h1 g1, by rw [f2 h1]; exact g2, I.sheets (fun i hi => ?_) (D5.upd (by omega) hc hn ex s1 zz1 s2 zz2 (fun j hj => by rw [o2 j hj]; simp (disch := omega) only [wr_c]))⟩
        rw [s2 i (by simp; omega)]
        simp (disch := omega) only [wr_c]
        rw [s1 i (by simp; omega)]
        simp (disch := omega) only [wr_c]
      rcases srt_t hr2 with rfl | ⟨c, hc, rfl⟩
      · have l0 : -nI 1 < nI 0 := by decide
        have l1 : ¬ nI 0 ≤ -nI 1 := by decide
        refine fin 0 0 (-nI 1) (by decide) (by decide) z1.symm (fun h1 g => ?_) (fun h1 => ?_)
        · simp (disch := omega) only [R_146_16, R_146_59, R_146_49, R_146_46, R_146_42, R_146_40, R_146_34, R_146_33, R_146_23, R_146_18, R_146_13, R_146_7, R_146_4, R_146_0, S_146, gd_t, bI_, bV_, bR_, and_self, and_true, true_and, ↓reduceIte, eq_self, oj_84, bI_1, bI_0, L0, L1, L4, L14, L40, s_147, hr, s_11m, hr2, eq_f, g]
        · simp (disch := omega) only [s_177m, S_275, R_275_0, R_275_4, R_275_7, R_275_18, R_275_21, R_275_33, R_275_44, R_275_62, gd_t, bI_, L0, L1, bI_0, bI_1, ↓reduceIte, s_276, hr, hr2, eq_f, eq_self, l0, l1, z2, ncl, ia_94, ia_95]
      · have em : (nI c = -nI 1) = False := eq_m1 (by omega)
        by_cases c1 : u ≤ nI 40
        · by_cases c2 : nI 0 ≤ u
          · have e40 : (nI 40).toInt = 40 := rfl
            have e0 : (nI 0).toInt = 0 := rfl
            obtain ⟨n, -, hn, rfl⟩ := rng_t (a := 0) (b := 40) (v := u) (decide_eq_true (by rw [Int32.le_iff_toInt_le] at c1 c2; omega))
            refine fin (c + 1) n (nI c) (by omega) hn (by rw [nsub (by omega)]; rfl) (fun h1 g => ?_) (fun h1 => ?_)
            · simp (disch := omega) only [R_146_16, R_146_59, R_146_49, R_146_46, R_146_42, R_146_40, R_146_34, R_146_33, R_146_23, R_146_18, R_146_13, R_146_7, R_146_4, R_146_0, S_146, gd_t, bI_, bV_, bR_, and_self, and_true, true_and, ↓reduceIte, eq_self, oj_84, bI_1, bI_0, L0, L1, L4, L14, L40, s_147, hr, s_11m, hr2, eq_f, em, c1, c2, g]
            · simp (disch := omega) only [s_177m, S_275, R_275_0, R_275_4, R_275_7, R_275_18, R_275_21, R_275_25, R_275_33, R_275_37, R_275_44, R_275_66, gd_t, bI_, L0, L1, L40, bI_0, bI_1, ↓reduceIte, s_276, hr, hr2, eq_f, eq_self, lt_f, le_t, nI_add, ncl, ia_94, ia_95]
          · exact ⟨-nI 14, h, h, by simp (disch := omega) only [R_146_16, R_146_59, R_146_49, R_146_46, R_146_42, R_146_40, R_146_34, R_146_33, R_146_23, R_146_18, R_146_13, R_146_7, R_146_4, R_146_0, S_146, gd_t, bI_, bV_, bR_, and_self, and_true, true_and, ↓reduceIte, eq_self, oj_84, bI_1, bI_0, L0, L1, L4, L14, L40, s_147, hr, s_11m, hr2, eq_f, em, c1, c2], by simp (disch := omega) only [s_177m, S_275, R_275_0, R_275_4, R_275_7, R_275_18, R_275_21, R_275_25, R_275_33, R_275_37, R_275_41, gd_t, bI_, L0, L1, L14, L40, bI_0, bI_1, ↓reduceIte, s_276, hr, hr2, eq_f, eq_self, lt_f, c1, c2], I⟩
        · exact ⟨-nI 1, h, h, by simp (disch := omega) only [R_146_16, R_146_59, R_146_49, R_146_46, R_146_42, R_146_40, R_146_34, R_146_33, R_146_23, R_146_18, R_146_13, R_146_7, R_146_4, R_146_0, S_146, gd_t, bI_, bV_, bR_, and_self, and_true, true_and, ↓reduceIte, eq_self, oj_84, bI_1, bI_0, L0, L1, L4, L14, L40, s_147, hr, s_11m, hr2, eq_f, em, c1], by simp (disch := omega) only [s_177m, S_275, R_275_0, R_275_4, R_275_7, R_275_18, R_275_21, R_275_25, R_275_31, gd_t, bI_, L0, L1, L40, bI_0, bI_1, ↓reduceIte, s_276, hr, hr2, eq_f, eq_self, lt_f, c1], I⟩
theorem SheI.put {h : Hp} {t i : Nat} {x : Int32} (q : SheI h) (ht : t < 4) (hi : i < 40) : SheI (wr (wr h (54 + t) i x) 96 (40 * t + i) x) := by
  intro u hu
  obtain ⟨c', n', h1', h2', h3, h4, h5, h6, h7⟩ := q u hu
  refine ⟨c', n', h1', h2', by simp (disch := omega) only [wr_c]; exact h3, by simp (disch := omega) only [wr_c]; exact h4, by simp (disch := omega) only [wr_c]; exact h5, by simp (disch := omega) only [wr_c]; exact h6, fun j hj => ?_⟩
  by_cases eu : u = t
  · subst eu
    by_cases ej : j = i
    · subst ej; simp (disch := omega) only [wr_c, wr_s]
    · simp (disch := omega) only [wr_c, wr_k]; exact h7 j hj
  · simp (disch := omega) only [wr_c, wr_k]; exact h7 j hj
theorem p_write {v w u : Int32} : Pub (S_149 v w u) (S_277 v w u) := by
  intro h I
  have D5 : SheI h := I.2.2.2.2.2.1
  cases hr : rng 0 3 v with
  | false => exact ⟨-nI 1, h, h, by simp (disch := omega) only [R_149_63, R_149_40, R_149_37, R_149_34, R_149_25, R_149_22, R_149_9, R_149_7, R_149_4, R_149_0, S_149, gd_t, bI_, bV_, bR_, and_self, and_true, true_and, ↓reduceIte, eq_self, oj_84, bI_1, bI_0, L0, L1, L2, L4, L5, L11, L12, L40, L51, L54, L94, L95, L96, s_147, hr], by simp (disch := omega) only [R_277_100, R_277_96, R_277_92, R_277_88, R_277_82, R_277_77, R_277_71, R_277_66, R_277_42, R_277_39, R_277_36, R_277_21, R_277_18, R_277_9, R_277_7, R_277_4, R_277_0, S_277, gd_t, bI_, bV_, bR_, and_self, and_true, true_and, ↓reduceIte, eq_self, oj_84, bI_1, bI_0, L0, L1, L2, L4, L5, L11, L12, L40, L51, L54, L94, L95, L96, s_276, hr], I⟩
  | true =>
    obtain ⟨t, -, ht, rfl⟩ := rng_t hr
    have ht4 : t < 4 := by omega
    obtain ⟨c, n, c5, n40, q1, q2, q3, q4, q5⟩ := D5 t ht4
    by_cases c0 : c = 0
    · subst c0
      exact ⟨-nI 11, h, h, by simp (disch := omega) only [R_149_63, R_149_40, R_149_37, R_149_34, R_149_25, R_149_22, R_149_9, R_149_7, R_149_4, R_149_0, S_149, gd_t, bI_, bV_, bR_, and_self, and_true, true_and, ↓reduceIte, eq_self, oj_84, bI_1, bI_0, L0, L1, L2, L4, L5, L11, L12, L40, L51, L54, L94, L95, L96, s_147, hr, eq_f, ncl, ia_51, q1, z1], by simp (disch := omega) only [R_277_100, R_277_96, R_277_92, R_277_88, R_277_82, R_277_77, R_277_71, R_277_66, R_277_42, R_277_39, R_277_36, R_277_21, R_277_18, R_277_9, R_277_7, R_277_4, R_277_0, S_277, gd_t, bI_, bV_, bR_, and_self, and_true, true_and, ↓reduceIte, eq_self, oj_84, bI_1, bI_0, L0, L1, L2, L4, L5, L11, L12, L40, L51, L54, L94, L95, L96, s_276, hr, eq_f, ncl, ia_94, q2], I⟩
    · have em : (nI c - nI 1 = -nI 1) = False := by rw [nsub (by omega)]; exact eq_m1 (by omega)
      cases hr2 : scn n w with
      | false => exact ⟨-nI 12, h, h, by simp (disch := omega) only [R_149_63, R_149_40, R_149_37, R_149_34, R_149_25, R_149_22, R_149_9, R_149_7, R_149_4, R_149_0, S_149, gd_t, bI_, bV_, bR_, and_self, and_true, true_and, ↓reduceIte, eq_self, oj_84, bI_1, bI_0, L0, L1, L2, L4, L5, L11, L12, L40, L51, L54, L94, L95, L96, s_147, hr, eq_f, ncl, ia_51, q1, em, s_150 ht4 n40 q3, hr2], by simp (disch := omega) only [R_277_100, R_277_96, R_277_92, R_277_88, R_277_82, R_277_77, R_277_71, R_277_66, R_277_42, R_277_39, R_277_36, R_277_21, R_277_18, R_277_9, R_277_7, R_277_4, R_277_0, S_277, gd_t, bI_, bV_, bR_, and_self, and_true, true_and, ↓reduceIte, eq_self, oj_84, bI_1, bI_0, L0, L1, L2, L4, L5, L11, L12, L40, L51, L54, L94, L95, L96, s_276, hr, eq_f, ncl, ia_94, q2, ia_95, q4, J0, s_177s, hr2], I⟩
      | true =>
        obtain ⟨i, hi, rfl⟩ := scn_t hr2
        have fin : ∀ x : Int32, (S_151 (nI c - nI 1) u h = some (x, h)) → (∀ H : Hp, H 94 t = nI c → R_277_42 (nI t) (nI i) u H = some (nI 1, wr H 96 (40 * t + i) x)) → ∃ x h1 h2, S_149 (nI t) (nI i) u h = some (x, h1) ∧ S_277 (nI t) (nI i) u h1 = some (x, h2) ∧ Inv h2 := by
          intro x f1 f2
          have e94 : (wr h (54 + t) i x) 94 t = nI c := by simp (disch := omega) only [wr_c]; exact q2
          refine ⟨nI 1, wr h (54 + t) i x, wr (wr h (54 + t) i x) 96 (40 * t + i) x, ?_, ?_, I.sheets (fun j hj => by simp (disch := omega) only [wr_c]) (D5.put ht4 (by omega))⟩
          · simp (disch := omega) only [R_149_63, R_149_40, R_149_37, R_149_34, R_149_25, R_149_22, R_149_9, R_149_7, R_149_4, R_149_0, S_149, gd_t, bI_, bV_, bR_, and_self, and_true, true_and, ↓reduceIte, eq_self, oj_84, bI_1, bI_0, L0, L1, L4, L11, L12, L51, L54, s_147, hr, eq_f, ncl, ia_51, q1, em, s_150 ht4 n40 q3, hr2, vpN, f1, iaI]
          · have g := f2 _ e94
            simp (disch := omega) only [S_277, R_277_0, R_277_4, R_277_9, R_277_21, R_277_36, gd_t, bI_, bV_, bR_, and_self, and_true, true_and, ↓reduceIte, eq_self, oj_84, bI_1, bI_0, L0, L1, L2, L5, L11, L12, L40, L94, L95, L96, s_276, hr, eq_f, ncl, ia_94, q2, wr_c, ia_95, q4, J0, s_177s, hr2]
            exact g
        rcases (show c = 1 ∨ c = 2 ∨ c = 3 ∨ c = 4 ∨ c = 5 by omega) with rfl | rfl | rfl | rfl | rfl
        · exact fin (u.toInt8.toInt32) (by simp (disch := omega) only [R_151_36, R_151_39, R_151_52, R_151_50, R_151_46, R_151_42, R_151_0, S_151, gd_t, bI_, bV_, bR_, and_self, and_true, true_and, ↓reduceIte, eq_self, oj_84, bI_1, bI_0, L0, L1, L2, L3, L4, L5, L11, L12, L40, L94, L95, L96, le_t, le_f, lt_t, lt_f, eq_t, eq_f, ncl, nI_add, nmul, nsub, ndiv, nrem, nrem', nrN]) (fun H e => by simp (disch := omega) only [R_277_100, R_277_96, R_277_92, R_277_88, R_277_82, R_277_77, R_277_71, R_277_66, R_277_42, R_277_39, R_277_36, R_277_21, R_277_18, R_277_9, R_277_7, R_277_4, R_277_0, S_277, gd_t, bI_, bV_, bR_, and_self, and_true, true_and, ↓reduceIte, eq_self, oj_84, bI_1, bI_0, L0, L1, L2, L3, L4, L5, L11, L12, L40, L94, L95, L96, le_t, le_f, lt_t, lt_f, eq_t, eq_f, ncl, nI_add, nmul, nsub, ndiv, nrem, nrem', nrN, ia_94, ia_96, e])
        · exact fin (u.toInt16.toInt32) (by simp (disch := omega) only [R_151_36, R_151_39, R_151_52, R_151_50, R_151_46, R_151_42, R_151_0, S_151, gd_t, bI_, bV_, bR_, and_self, and_true, true_and, ↓reduceIte, eq_self, oj_84, bI_1, bI_0, L0, L1, L2, L3, L4, L5, L11, L12, L40, L94, L95, L96, le_t, le_f, lt_t, lt_f, eq_t, eq_f, ncl, nI_add, nmul, nsub, ndiv, nrem, nrem', nrN]) (fun H e => by simp (disch := omega) only [R_277_100, R_277_96, R_277_92, R_277_88, R_277_82, R_277_77, R_277_71, R_277_66, R_277_42, R_277_39, R_277_36, R_277_21, R_277_18, R_277_9, R_277_7, R_277_4, R_277_0, S_277, gd_t, bI_, bV_, bR_, and_self, and_true, true_and, ↓reduceIte, eq_self, oj_84, bI_1, bI_0, L0, L1, L2, L3, L4, L5, L11, L12, L40, L94, L95, L96, le_t, le_f, lt_t, lt_f, eq_t, eq_f, ncl, nI_add, nmul, nsub, ndiv, nrem, nrem', nrN, ia_94, ia_96, e])
        · exact fin (u) (by simp (disch := omega) only [R_151_36, R_151_39, R_151_52, R_151_50, R_151_46, R_151_42, R_151_0, S_151, gd_t, bI_, bV_, bR_, and_self, and_true, true_and, ↓reduceIte, eq_self, oj_84, bI_1, bI_0, L0, L1, L2, L3, L4, L5, L11, L12, L40, L94, L95, L96, le_t, le_f, lt_t, lt_f, eq_t, eq_f, ncl, nI_add, nmul, nsub, ndiv, nrem, nrem', nrN]) (fun H e => by simp (disch := omega) only [R_277_100, R_277_96, R_277_92, R_277_88, R_277_82, R_277_77, R_277_71, R_277_66, R_277_42, R_277_39, R_277_36, R_277_21, R_277_18, R_277_9, R_277_7, R_277_4, R_277_0, S_277, gd_t, bI_, bV_, bR_, and_self, and_true, true_and, ↓reduceIte, eq_self, oj_84, bI_1, bI_0, L0, L1, L2, L3, L4, L5, L11, L12, L40, L94, L95, L96, le_t, le_f, lt_t, lt_f, eq_t, eq_f, ncl, nI_add, nmul, nsub, ndiv, nrem, nrem', nrN, ia_94, ia_96, e])
        · exact fin (u) (by simp (disch := omega) only [R_151_36, R_151_39, R_151_52, R_151_50, R_151_46, R_151_42, R_151_0, S_151, gd_t, bI_, bV_, bR_, and_self, and_true, true_and, ↓reduceIte, eq_self, oj_84, bI_1, bI_0, L0, L1, L2, L3, L4, L5, L11, L12, L40, L94, L95, L96, le_t, le_f, lt_t, lt_f, eq_t, eq_f, ncl, nI_add, nmul, nsub, ndiv, nrem, nrem', nrN]) (fun H e => by simp (disch := omega) only [R_277_100, R_277_96, R_277_92, R_277_88, R_277_82, R_277_77, R_277_71, R_277_66, R_277_42, R_277_39, R_277_36, R_277_21, R_277_18, R_277_9, R_277_7, R_277_4, R_277_0, S_277, gd_t, bI_, bV_, bR_, and_self, and_true, true_and, ↓reduceIte, eq_self, oj_84, bI_1, bI_0, L0, L1, L2, L3, L4, L5, L11, L12, L40, L94, L95, L96, le_t, le_f, lt_t, lt_f, eq_t, eq_f, ncl, nI_add, nmul, nsub, ndiv, nrem, nrem', nrN, ia_94, ia_96, e])
        · by_cases cu : u = nI 0
          · exact fin (nI 0) (by simp (disch := omega) only [R_151_36, R_151_39, R_151_52, R_151_50, R_151_46, R_151_42, R_151_0, S_151, gd_t, bI_, bV_, bR_, and_self, and_true, true_and, ↓reduceIte, eq_self, oj_84, bI_1, bI_0, L0, L1, L2, L3, L4, L5, L11, L12, L40, L94, L95, L96, le_t, le_f, lt_t, lt_f, eq_t, eq_f, ncl, nI_add, nmul, nsub, ndiv, nrem, nrem', nrN, cu]) (fun H e => by simp (disch := omega) only [R_277_100, R_277_96, R_277_92, R_277_88, R_277_82, R_277_77, R_277_71, R_277_66, R_277_42, R_277_39, R_277_36, R_277_21, R_277_18, R_277_9, R_277_7, R_277_4, R_277_0, S_277, gd_t, bI_, bV_, bR_, and_self, and_true, true_and, ↓reduceIte, eq_self, oj_84, bI_1, bI_0, L0, L1, L2, L3, L4, L5, L11, L12, L40, L94, L95, L96, le_t, le_f, lt_t, lt_f, eq_t, eq_f, ncl, nI_add, nmul, nsub, ndiv, nrem, nrem', nrN, ia_94, ia_96, e, cu])
          · exact fin (nI 1) (by simp (disch := omega) only [R_151_36, R_151_39, R_151_52, R_151_50, R_151_46, R_151_42, R_151_0, S_151, gd_t, bI_, bV_, bR_, and_self, and_true, true_and, ↓reduceIte, eq_self, oj_84, bI_1, bI_0, L0, L1, L2, L3, L4, L5, L11, L12, L40, L94, L95, L96, le_t, le_f, lt_t, lt_f, eq_t, eq_f, ncl, nI_add, nmul, nsub, ndiv, nrem, nrem', nrN, cu]) (fun H e => by simp (disch := omega) only [R_277_100, R_277_96, R_277_92, R_277_88, R_277_82, R_277_77, R_277_71, R_277_66, R_277_42, R_277_39, R_277_36, R_277_21, R_277_18, R_277_9, R_277_7, R_277_4, R_277_0, S_277, gd_t, bI_, bV_, bR_, and_self, and_true, true_and, ↓reduceIte, eq_self, oj_84, bI_1, bI_0, L0, L1, L2, L3, L4, L5, L11, L12, L40, L94, L95, L96, le_t, le_f, lt_t, lt_f, eq_t, eq_f, ncl, nI_add, nmul, nsub, ndiv, nrem, nrem', nrN, ia_94, ia_96, e, cu])
theorem s_153 {h : Hp} {t c b : Nat} (ht : t < 4) (hc : c ≤ 5) (hb : b ≤ 4) (q1 : h 51 t = nI c - nI 1) : S_153 (nI t) (nI b) h = some (if c = 0 then -nI 11 else if c = b + 1 then nI 0 else -nI 13, h) := by
  by_cases c0 : c = 0
  · subst c0
    simp (disch := omega) only [R_153_27, R_153_23, R_153_13, R_153_10, R_153_0, S_153, gd_t, bI_, bV_, bR_, and_self, and_true, true_and, ↓reduceIte, eq_self, oj_84, bI_1, bI_0, L0, L1, L11, L13, L51, ncl, ia_51, q1, z1]
  · have em : (nI c - nI 1 = -nI 1) = False := by rw [nsub (by omega)]; exact eq_m1 (by omega)
    rw [if_neg c0]
    by_cases c1 : c = b + 1
    · have e : nI c - nI 1 = nI b := by rw [c1, nsub (by omega)]; rfl
      rw [if_pos c1]
      simp (disch := omega) only [R_153_27, R_153_23, R_153_13, R_153_10, R_153_0, S_153, gd_t, bI_, bV_, bR_, and_self, and_true, true_and, ↓reduceIte, eq_self, oj_84, bI_1, bI_0, L0, L1, L11, L13, L51, ncl, ia_51, q1, em, e]
      rw [e] at em
      simp (disch := omega) only [em, if_false]
    · have e : (nI c - nI 1 = nI b) = False := by rw [nsub (by omega)]; exact eq_f (by omega) (by omega) (by omega)
      rw [if_neg c1]
      simp (disch := omega) only [R_153_27, R_153_23, R_153_13, R_153_10, R_153_0, S_153, gd_t, bI_, bV_, bR_, and_self, and_true, true_and, ↓reduceIte, eq_self, oj_84, bI_1, bI_0, L0, L1, L11, L13, L51, ncl, ia_51, q1, em, e]
theorem p_item {v w u : Int32} : Pub (S_152 v w u) (S_278 v w u) := by
  intro h I
  have D5 : SheI h := I.2.2.2.2.2.1
  cases hr : rng 0 3 v with
  | false => exact ⟨-nI 1, h, h, by simp (disch := omega) only [R_152_16, R_152_63, R_152_49, R_152_46, R_152_37, R_152_34, R_152_27, R_152_18, R_152_13, R_152_7, R_152_4, R_152_0, S_152, gd_t, bI_, bV_, bR_, and_self, and_true, true_and, ↓reduceIte, eq_self, oj_84, bI_1, bI_0, L0, L1, L4, L11, L12, L13, L40, L54, L94, L95, L96, s_147, hr], by simp (disch := omega) only [R_278_19, R_278_80, R_278_66, R_278_63, R_278_48, R_278_45, R_278_33, R_278_30, R_278_21, R_278_16, R_278_7, R_278_4, R_278_0, S_278, gd_t, bI_, bV_, bR_, and_self, and_true, true_and, ↓reduceIte, eq_self, oj_84, bI_1, bI_0, L0, L1, L4, L11, L12, L13, L40, L54, L94, L95, L96, s_276, hr], I⟩
  | true =>
    cases hr3 : rng 0 4 w with
    | false => exact ⟨-nI 1, h, h, by simp (disch := omega) only [R_152_16, R_152_63, R_152_49, R_152_46, R_152_37, R_152_34, R_152_27, R_152_18, R_152_13, R_152_7, R_152_4, R_152_0, S_152, gd_t, bI_, bV_, bR_, and_self, and_true, true_and, ↓reduceIte, eq_self, oj_84, bI_1, bI_0, L0, L1, L4, L11, L12, L13, L40, L54, L94, L95, L96, s_147, s_11r, hr, hr3, eq_f], by simp (disch := omega) only [R_278_19, R_278_80, R_278_66, R_278_63, R_278_48, R_278_45, R_278_33, R_278_30, R_278_21, R_278_16, R_278_7, R_278_4, R_278_0, S_278, gd_t, bI_, bV_, bR_, and_self, and_true, true_and, ↓reduceIte, eq_self, oj_84, bI_1, bI_0, L0, L1, L4, L11, L12, L13, L40, L54, L94, L95, L96, s_276, hr, hr3, eq_f, J0, J4, s_177r], I⟩
    | true =>
      obtain ⟨t, -, ht, rfl⟩ := rng_t hr
      obtain ⟨b, -, hb, rfl⟩ := rng_t hr3
      have ht4 : t < 4 := by omega
      obtain ⟨c, n, c5, n40, q1, q2, q3, q4, q5⟩ := D5 t ht4
      have g := s_153 ht4 c5 hb q1
      by_cases c0 : c = 0
      · subst c0
        rw [if_pos rfl] at g
        have n11 : (-nI 11 = nI 0) = False := eq_false (by decide)
        exact ⟨-nI 11, h, h, by simp (disch := omega) only [R_152_16, R_152_63, R_152_49, R_152_46, R_152_37, R_152_34, R_152_27, R_152_18, R_152_13, R_152_7, R_152_4, R_152_0, S_152, gd_t, bI_, bV_, bR_, and_self, and_true, true_and, ↓reduceIte, eq_self, oj_84, bI_1, bI_0, L0, L1, L4, L11, L12, L13, L40, L54, L94, L95, L96, s_147, s_11r, hr, hr3, eq_f, g, n11], by simp (disch := omega) only [R_278_19, R_278_80, R_278_66, R_278_63, R_278_48, R_278_45, R_278_33, R_278_30, R_278_21, R_278_16, R_278_7, R_278_4, R_278_0, S_278, gd_t, bI_, bV_, bR_, and_self, and_true, true_and, ↓reduceIte, eq_self, oj_84, bI_1, bI_0, L0, L1, L4, L11, L12, L13, L40, L54, L94, L95, L96, s_276, hr, hr3, eq_f, J0, J4, s_177r, ncl, ia_94, q2], I⟩
      · rw [if_neg c0] at g
        by_cases c1 : c = b + 1
        · rw [if_pos c1] at g
          cases hr2 : scn n u with
          | false => exact ⟨-nI 12, h, h, by simp (disch := omega) only [R_152_16, R_152_63, R_152_49, R_152_46, R_152_37, R_152_34, R_152_27, R_152_18, R_152_13, R_152_7, R_152_4, R_152_0, S_152, gd_t, bI_, bV_, bR_, and_self, and_true, true_and, ↓reduceIte, eq_self, oj_84, bI_1, bI_0, L0, L1, L4, L11, L12, L13, L40, L54, L94, L95, L96, s_147, s_11r, hr, hr3, eq_f, g, s_150 ht4 n40 q3, hr2], by simp (disch := omega) only [R_278_19, R_278_80, R_278_66, R_278_63, R_278_48, R_278_45, R_278_33, R_278_30, R_278_21, R_278_16, R_278_7, R_278_4, R_278_0, S_278, gd_t, bI_, bV_, bR_, and_self, and_true, true_and, ↓reduceIte, eq_self, oj_84, bI_1, bI_0, L0, L1, L4, L11, L12, L13, L40, L54, L94, L95, L96, s_276, hr, hr3, eq_f, eq_t, J0, J4, s_177r, s_177s, ncl, ia_94, q2, ia_95, q4, nI_add, hr2], I⟩
          | true =>
            obtain ⟨i, hi, rfl⟩ := scn_t hr2
            have e := q5 i hi
            exact ⟨h 96 (40 * t + i), h, h, by simp (disch := omega) only [R_152_16, R_152_63, R_152_49, R_152_46, R_152_37, R_152_34, R_152_27, R_152_18, R_152_13, R_152_7, R_152_4, R_152_0, S_152, gd_t, bI_, bV_, bR_, and_self, and_true, true_and, ↓reduceIte, eq_self, oj_84, bI_1, bI_0, L0, L1, L4, L11, L12, L13, L40, L54, L94, L95, L96, s_147, s_11r, hr, hr3, eq_f, g, s_150 ht4 n40 q3, hr2, vpN, iaI, ncl, e], by simp (disch := omega) only [R_278_19, R_278_80, R_278_66, R_278_63, R_278_48, R_278_45, R_278_33, R_278_30, R_278_21, R_278_16, R_278_7, R_278_4, R_278_0, S_278, gd_t, bI_, bV_, bR_, and_self, and_true, true_and, ↓reduceIte, eq_self, oj_84, bI_1, bI_0, L0, L1, L4, L11, L12, L13, L40, L54, L94, L95, L96, s_276, hr, hr3, eq_f, eq_t, J0, J4, s_177r, s_177s, ncl, ia_94, q2, ia_95, q4, nI_add, nmul, hr2, ia_96], I⟩
        · rw [if_neg c1] at g
          have n13 : (-nI 13 = nI 0) = False := eq_false (by decide)
          exact ⟨-nI 13, h, h, by simp (disch := omega) only [R_152_16, R_152_63, R_152_49, R_152_46, R_152_37, R_152_34, R_152_27, R_152_18, R_152_13, R_152_7, R_152_4, R_152_0, S_152, gd_t, bI_, bV_, bR_, and_self, and_true, true_and, ↓reduceIte, eq_self, oj_84, bI_1, bI_0, L0, L1, L4, L11, L12, L13, L40, L54, L94, L95, L96, s_147, s_11r, hr, hr3, eq_f, g, n13], by simp (disch := omega) only [R_278_19, R_278_80, R_278_66, R_278_63, R_278_48, R_278_45, R_278_33, R_278_30, R_278_21, R_278_16, R_278_7, R_278_4, R_278_0, S_278, gd_t, bI_, bV_, bR_, and_self, and_true, true_and, ↓reduceIte, eq_self, oj_84, bI_1, bI_0, L0, L1, L4, L11, L12, L13, L40, L54, L94, L95, L96, s_276, hr, hr3, eq_f, J0, J4, s_177r, ncl, ia_94, q2, nI_add], I⟩
