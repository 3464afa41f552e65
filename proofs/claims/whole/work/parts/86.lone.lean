/-! part 86: one alone, and the reports it misses (class) -/
def bitsN (p : Nat → Bool) : Nat → Nat
  | 0 => 0
  | i + 1 => bitsN p i ||| (if p i = true then 2 ^ i else 0)
theorem bitsN_s (p : Nat → Bool) (i : Nat) : bitsN p (i + 1) = bitsN p i ||| (if p i = true then 2 ^ i else 0) := rfl
theorem bitsN_bit (p : Nat → Bool) : ∀ n r, (bitsN p n).testBit r = (decide (r < n) && p r)
  | 0, r => by
    show (0 : Nat).testBit r = _
    rw [Nat.zero_testBit, decide_eq_false (by omega), Bool.false_and]
  | n + 1, r => by
    rw [bitsN_s, Nat.testBit_or, bitsN_bit p n r]
    by_cases e : r = n
    · subst e
      cases c : p r with
      | true => rw [if_pos rfl, Nat.testBit_two_pow_self, Bool.or_true, decide_eq_true (by omega)]; rfl
      | false => rw [if_neg (by decide), Nat.zero_testBit]; simp
    · have : (if p n = true then 2 ^ n else 0).testBit r = false := by
        split
        · rw [Nat.testBit_two_pow]; exact decide_eq_false (fun w => e w.symm)
        · exact Nat.zero_testBit r
      rw [this, Bool.or_false]
      congr 1
      exact decide_eq_decide.mpr ⟨fun w => by omega, fun w => by omega⟩
theorem bitsN_lt (p : Nat → Bool) : ∀ n, bitsN p n < 2 ^ n
  | 0 => Nat.one_pos
  | n + 1 => by
    rw [bitsN_s]
    refine Nat.or_lt_two_pow (Nat.lt_of_lt_of_le (bitsN_lt p n) (Nat.pow_le_pow_right (by decide) (Nat.le_succ n))) ?_
    split
    · exact Nat.pow_lt_pow_right (by decide) (Nat.lt_succ_self n)
    · exact Nat.two_pow_pos _
def accN (P : Nat → Nat → Bool) (n : Nat) : Nat → Nat
  | 0 => 0
  | t + 1 => accN P n t ||| bitsN (P t) n
theorem accN_s (P : Nat → Nat → Bool) (n t : Nat) : accN P n (t + 1) = accN P n t ||| bitsN (P t) n := rfl
theorem accN_lt (P : Nat → Nat → Bool) (n : Nat) : ∀ t, accN P n t < 2 ^ n
  | 0 => Nat.two_pow_pos _
  | t + 1 => by
    rw [accN_s]
    exact Nat.or_lt_two_pow (accN_lt P n t) (bitsN_lt _ n)
theorem accN_bit {q : Nat → Nat → Bool} {K : Nat → Nat} {n : Nat} : ∀ t r, (accN (fun t r => decide (K r = t) && q t r) n t).testBit r = (decide (r < n) && (decide (K r < t) && q (K r) r))
  | 0, r => by
    show (0 : Nat).testBit r = _
    rw [Nat.zero_testBit, decide_eq_false (p := K r < 0) (by omega), Bool.false_and, Bool.and_false]
  | t + 1, r => by
    rw [accN_s, Nat.testBit_or, accN_bit t r, bitsN_bit]
    by_cases e : K r = t
    · rw [decide_eq_true e, decide_eq_false (p := K r < t) (by omega), decide_eq_true (p := K r < t + 1) (by omega), e]
      simp
    · rw [decide_eq_false e, Bool.false_and, Bool.and_false, Bool.or_false]
      congr 2
      exact decide_eq_decide.mpr ⟨fun w => by omega, fun w => by omega⟩
def lTD (s : Sg) (kind pretty first : Nat) : Nat → Nat × Nat
  | 0 => (first, 0)
  | t + 1 => (min 99 ((lTD s kind pretty first t).1 + learnsK kind (railS s t) (lTD s kind pretty first t).1 t), (lTD s kind pretty first t).2 + drawsK kind pretty (min 99 ((lTD s kind pretty first t).1 + learnsK kind (railS s t) (lTD s kind pretty first t).1 t)) 0)
theorem lTD_s (s : Sg) (kind pretty first t : Nat) : lTD s kind pretty first (t + 1) = (min 99 ((lTD s kind pretty first t).1 + learnsK kind (railS s t) (lTD s kind pretty first t).1 t), (lTD s kind pretty first t).2 + drawsK kind pretty (min 99 ((lTD s kind pretty first t).1 + learnsK kind (railS s t) (lTD s kind pretty first t).1 t)) 0) := rfl
theorem lTD_le {s : Sg} {kind pretty first : Nat} (hp : pretty ≤ 9) (hf : first ≤ 99) : ∀ t, (lTD s kind pretty first t).1 ≤ 99 ∧ (lTD s kind pretty first t).2 ≤ 56 * t
  | 0 => ⟨hf, Nat.le_refl 0⟩
  | t + 1 => by
    have ⟨a, b⟩ := lTD_le (s := s) (kind := kind) hp hf t
    have c := drawsK_le (k := kind) (t := (min 99 ((lTD s kind pretty first t).1 + learnsK kind (railS s t) (lTD s kind pretty first t).1 t))) (n := 0) hp (by decide)
    rw [lTD_s]
    exact ⟨Nat.min_le_left _ _, by show (lTD s kind pretty first t).2 + drawsK _ _ _ _ ≤ _; omega⟩
theorem railS_le {s : Sg} (so : SgOk s) (t : Nat) : railS s t ≤ 3 := by
  have := houseS_le so t
  unfold railS
  omega
def okR (A L M : Nat → Nat) (x : Nat × Nat) (r : Nat) : Bool := decide (L r ≤ (if A r = 0 then x.1 else x.2) ∧ (if A r = 0 then x.1 else x.2) ≤ M r)
def badP (A L M K : Nat → Nat) (f : Nat → Nat × Nat) (t r : Nat) : Bool := decide (K r = t) && !okR A L M (f t) r
def goodP (A L M K : Nat → Nat) (f : Nat → Nat × Nat) (t r : Nat) : Bool := decide (K r = t) && okR A L M (f t) r
def RepC (h : Hp) (n : Nat) (K A L M : Nat → Nat) : Prop := n ≤ 6 ∧ h 16 4 = nI n ∧ ∀ r, r < n → K r ≤ 15 ∧ A r ≤ 1 ∧ L r ≤ M r ∧ M r ≤ 999 ∧ h 17 r = nI (K r) ∧ h 18 r = nI (A r) ∧ h 19 r = nI (L r) ∧ h 20 r = nI (M r)
theorem s_130 {h : Hp} {n : Nat} {K A L M : Nat → Nat} (R : RepC h n K A L M) {t : Nat} {f : Nat → Nat × Nat} (ht : t ≤ 16) (hT : (f t).1 ≤ 99) (hD : (f t).2 ≤ 1000) : S_130 (nI t) (nI (f t).1) (nI (f t).2) h = some (nI (bitsN (badP A L M K f t) n), h) := by
  obtain ⟨n6, e4, e⟩ := R
  have loop : ∀ (j i fu : Nat), i + j = n → j < fu → H_130_6 fu (nI t) (nI (f t).1) (nI (f t).2) (nI (bitsN (badP A L M K f t) i)) (nI i) h = some (nI (bitsN (badP A L M K f t) n), h) := by
    intro j
    induction j with
    | zero =>
      intro i fu ei hf
      obtain ⟨fu, rfl⟩ : ∃ p, fu = p + 1 := ⟨fu - 1, by omega⟩
      have ei' : i = n := by omega
      simp (disch := omega) only [H_130_6, R_130_85, R_130_70, R_130_79, R_130_58, R_130_43, R_130_39, R_130_29, R_130_26, R_130_15, R_130_6, R_130_0, S_130, gd_t, bI_, bV_, bR_, and_self, and_true, true_and, ↓reduceIte, eq_self, oj_84, bI_1, bI_0, L0, L1, L4, L16, L17, L18, L19, L20, L31, le_t, le_f, lt_t, lt_f, eq_t, eq_f, ncl, nI_add, nmul, nsub, ndiv, nrem, nrem', nrN, e4, ei']
    | succ j ih =>
      intro i fu ei hf
      obtain ⟨fu, rfl⟩ : ∃ p, fu = p + 1 := ⟨fu - 1, by omega⟩
      have hi : i < n := by omega
      obtain ⟨u1, u2, u3, u4, v1, v2, v3, v4⟩ := e i hi
      have nx := ih (i + 1) fu (by omega) (by omega)
      have hb := p64 (bitsN_lt (badP A L M K f t) i) (show i ≤ 6 by omega)
      have h2 := p2_64 (show i < 6 by omega)
      rw [bitsN_s] at nx
      by_cases ck : K i = t
      · by_cases ca : A i = 0
        · by_cases c1 : L i ≤ (f t).1
          · by_cases c2 : (f t).1 ≤ M i
            · rw [show badP A L M K f t i = false by unfold badP okR; rw [if_pos ca]; simp [ck, c1, c2], if_neg (by decide), Nat.or_zero] at nx
              simp (disch := omega) only [H_130_6, R_130_85, R_130_70, R_130_79, R_130_58, R_130_43, R_130_39, R_130_29, R_130_26, R_130_15, R_130_6, R_130_0, S_130, gd_t, bI_, bV_, bR_, and_self, and_true, true_and, ↓reduceIte, eq_self, oj_84, bI_1, bI_0, L0, L1, L4, L16, L17, L18, L19, L20, L31, le_t, le_f, lt_t, lt_f, eq_t, eq_f, ncl, nI_add, nmul, nsub, ndiv, nrem, nrem', nrN, e4, ia_17, ia_18, ia_19, ia_20, v1, v2, v3, v4, ck, ca]
              exact nx
            · rw [show badP A L M K f t i = true by unfold badP okR; rw [if_pos ca]; simp [ck, c1, c2], if_pos rfl] at nx
              simp (disch := omega) only [H_130_6, R_130_85, R_130_70, R_130_79, R_130_58, R_130_43, R_130_39, R_130_29, R_130_26, R_130_15, R_130_6, R_130_0, S_130, gd_t, bI_, bV_, bR_, and_self, and_true, true_and, ↓reduceIte, eq_self, oj_84, bI_1, bI_0, L0, L1, L4, L16, L17, L18, L19, L20, L31, le_t, le_f, lt_t, lt_f, eq_t, eq_f, ncl, nI_add, nmul, nsub, ndiv, nrem, nrem', nrN, e4, ia_17, ia_18, ia_19, ia_20, v1, v2, v3, v4, ck, ca, nbit', nor']
              exact nx
          · rw [show badP A L M K f t i = true by unfold badP okR; rw [if_pos ca]; simp [ck, c1], if_pos rfl] at nx
            simp (disch := omega) only [H_130_6, R_130_85, R_130_70, R_130_79, R_130_58, R_130_43, R_130_39, R_130_29, R_130_26, R_130_15, R_130_6, R_130_0, S_130, gd_t, bI_, bV_, bR_, and_self, and_true, true_and, ↓reduceIte, eq_self, oj_84, bI_1, bI_0, L0, L1, L4, L16, L17, L18, L19, L20, L31, le_t, le_f, lt_t, lt_f, eq_t, eq_f, ncl, nI_add, nmul, nsub, ndiv, nrem, nrem', nrN, e4, ia_17, ia_18, ia_19, ia_20, v1, v2, v3, v4, ck, ca, nbit', nor']
            exact nx
        · by_cases c1 : L i ≤ (f t).2
          · by_cases c2 : (f t).2 ≤ M i
            · rw [show badP A L M K f t i = false by unfold badP okR; rw [if_neg ca]; simp [ck, c1, c2], if_neg (by decide), Nat.or_zero] at nx
              simp (disch := omega) only [H_130_6, R_130_85, R_130_70, R_130_79, R_130_58, R_130_43, R_130_39, R_130_29, R_130_26, R_130_15, R_130_6, R_130_0, S_130, gd_t, bI_, bV_, bR_, and_self, and_true, true_and, ↓reduceIte, eq_self, oj_84, bI_1, bI_0, L0, L1, L4, L16, L17, L18, L19, L20, L31, le_t, le_f, lt_t, lt_f, eq_t, eq_f, ncl, nI_add, nmul, nsub, ndiv, nrem, nrem', nrN, e4, ia_17, ia_18, ia_19, ia_20, v1, v2, v3, v4, ck, ca]
              exact nx
            · rw [show badP A L M K f t i = true by unfold badP okR; rw [if_neg ca]; simp [ck, c1, c2], if_pos rfl] at nx
              simp (disch := omega) only [H_130_6, R_130_85, R_130_70, R_130_79, R_130_58, R_130_43, R_130_39, R_130_29, R_130_26, R_130_15, R_130_6, R_130_0, S_130, gd_t, bI_, bV_, bR_, and_self, and_true, true_and, ↓reduceIte, eq_self, oj_84, bI_1, bI_0, L0, L1, L4, L16, L17, L18, L19, L20, L31, le_t, le_f, lt_t, lt_f, eq_t, eq_f, ncl, nI_add, nmul, nsub, ndiv, nrem, nrem', nrN, e4, ia_17, ia_18, ia_19, ia_20, v1, v2, v3, v4, ck, ca, nbit', nor']
              exact nx
          · rw [show badP A L M K f t i = true by unfold badP okR; rw [if_neg ca]; simp [ck, c1], if_pos rfl] at nx
            simp (disch := omega) only [H_130_6, R_130_85, R_130_70, R_130_79, R_130_58, R_130_43, R_130_39, R_130_29, R_130_26, R_130_15, R_130_6, R_130_0, S_130, gd_t, bI_, bV_, bR_, and_self, and_true, true_and, ↓reduceIte, eq_self, oj_84, bI_1, bI_0, L0, L1, L4, L16, L17, L18, L19, L20, L31, le_t, le_f, lt_t, lt_f, eq_t, eq_f, ncl, nI_add, nmul, nsub, ndiv, nrem, nrem', nrN, e4, ia_17, ia_18, ia_19, ia_20, v1, v2, v3, v4, ck, ca, nbit', nor']
            exact nx
      · rw [show badP A L M K f t i = false by unfold badP; simp [ck], if_neg (by decide), Nat.or_zero] at nx
        simp (disch := omega) only [H_130_6, R_130_85, R_130_70, R_130_79, R_130_58, R_130_43, R_130_39, R_130_29, R_130_26, R_130_15, R_130_6, R_130_0, S_130, gd_t, bI_, bV_, bR_, and_self, and_true, true_and, ↓reduceIte, eq_self, oj_84, bI_1, bI_0, L0, L1, L4, L16, L17, L18, L19, L20, L31, le_t, le_f, lt_t, lt_f, eq_t, eq_f, ncl, nI_add, nmul, nsub, ndiv, nrem, nrem', nrN, e4, ia_17, v1, ck]
        exact nx
  have g := loop n 0 fuL (by omega) (fuL_gt (by omega))
  simp (disch := omega) only [S_130, R_130_0, gd_t, bI_, bV_, bR_, and_self, and_true, true_and, ↓reduceIte, eq_self, oj_84, bI_1, bI_0, L0, L1, L4, L16, L17, L18, L19, L20, L31]
  exact g
theorem s_129 {h : Hp} {s : Sg} {n : Nat} {K A L M : Nat → Nat} (so : SgOk s) (hs : SgAt h s) (R : RepC h n K A L M) {lst kind pretty first : Nat} (hl : lst ≤ 16) (hk : 1 ≤ kind) (hk5 : kind ≤ 5) (hp : pretty ≤ 9) (hf : first ≤ 99) : S_129 1 (nI lst - nI 1) (nI kind) (nI pretty) (nI first) h = some (nI (accN (badP A L M K (lTD s kind pretty first)) n lst), h) := by
  have n6 := R.1
  have loop : ∀ (j t fu : Nat), t + j = lst → j < fu → H_129_13 fu 1 (nI lst - nI 1) (nI kind) (nI pretty) (nI (accN (badP A L M K (lTD s kind pretty first)) n t)) (nI (lTD s kind pretty first t).1) (nI (lTD s kind pretty first t).2) (nI t) h = some (nI (accN (badP A L M K (lTD s kind pretty first)) n lst), h) := by
    intro j
    induction j with
    | zero =>
      intro t fu et hfu
      obtain ⟨fu, rfl⟩ : ∃ p, fu = p + 1 := ⟨fu - 1, by omega⟩
      have et' : t = lst := by omega
      subst et'
      have lt : (nI t - nI 1 < nI t) = True := eq_true (by rw [Int32.lt_iff_toInt_lt, pk_sub_toInt (by omega) (by omega), nI_toInt (by omega)]; omega)
      simp (disch := omega) only [H_129_13, R_129_13, R_129_78, gd_t, bI_, bV_, bR_, and_self, and_true, true_and, ↓reduceIte, eq_self, oj_84, bI_1, bI_0, L0, L1, L6, L99, lt]
    | succ j ih =>
      intro t fu et hfu
      obtain ⟨fu, rfl⟩ : ∃ p, fu = p + 1 := ⟨fu - 1, by omega⟩
      obtain ⟨a1, a2⟩ := lTD_le (s := s) (kind := kind) (pretty := pretty) (first := first) hp hf t
      have nx := ih (t + 1) fu (by omega) (by omega)
      have b1 := p64 (accN_lt (badP A L M K (lTD s kind pretty first)) n t) n6
      have b2 := p64 (bitsN_lt (badP A L M K (lTD s kind pretty first) t) n) n6
      have lt : (nI lst - nI 1 < nI t) = False := eq_false (by rw [Int32.lt_iff_toInt_lt, pk_sub_toInt (by omega) (by omega), nI_toInt (by omega)]; omega)
      have g130 := s_130 R (t := t) (f := lTD s kind pretty first) (by omega) a1 (by omega)
      have hr := railS_le so t
      have g18 := s_18 (h := h) (k := kind) (r := railS s t) (t := (lTD s kind pretty first t).1) (n := t) hk hk5 hr a1 (by omega)
      have hle := learnsK_le (k := kind) (n := t) hr a1
      have em : (if nI ((lTD s kind pretty first t).1 + learnsK kind (railS s t) (lTD s kind pretty first t).1 t) < nI 99 then nI ((lTD s kind pretty first t).1 + learnsK kind (railS s t) (lTD s kind pretty first t).1 t) else nI 99) = nI (min 99 ((lTD s kind pretty first t).1 + learnsK kind (railS s t) (lTD s kind pretty first t).1 t)) := nmin (by omega) (by omega)
      have g22 := s_22 (h := h) (k := kind) (p := pretty) (t := min 99 ((lTD s kind pretty first t).1 + learnsK kind (railS s t) (lTD s kind pretty first t).1 t)) (n := 0) hk hk5 hp (Nat.min_le_left _ _) (by decide)
      rw [accN_s, lTD_s] at nx
      simp (disch := omega) only [H_129_13, R_129_13, R_129_19, R_129_31, R_129_45, R_129_52, R_129_69, gd_t, bI_, bV_, bR_, and_self, and_true, true_and, ↓reduceIte, eq_self, oj_84, bI_1, bI_0, L0, L1, L6, L99, lt, g130, oj_1, s_17 so hs, g18, nI_add, em, g22, nor']
      exact nx
  have g := loop lst 0 fuL (by omega) (fuL_gt (by omega))
  simp (disch := omega) only [S_129, R_129_0, gd_t, bI_, bV_, bR_, and_self, and_true, true_and, ↓reduceIte, eq_self, oj_84, bI_1, bI_0, L0, L1, L6, L99]
  exact g
