/-! part 87: one alone, in the model -/
def RepD (f : Nat → Int32) (n : Nat) (K A L M : Nat → Nat) : Prop := n ≤ 6 ∧ f 6 = nI n ∧ ∀ r, r < n → K r ≤ 15 ∧ A r ≤ 1 ∧ L r ≤ M r ∧ M r ≤ 999 ∧ f (65 + 4 * r) = nI (K r) ∧ f (65 + 4 * r + 1) = nI (A r) ∧ f (65 + 4 * r + 2) = nI (L r) ∧ f (65 + 4 * r + 3) = nI (M r)
theorem rngN {a b x : Nat} (hx : x < 2147483648) : rng a b (nI x) = decide (a ≤ x ∧ x ≤ b) := by
  unfold rng
  rw [nI_toInt hx]
  exact decide_eq_decide.mpr ⟨fun w => ⟨by omega, by omega⟩, fun w => ⟨by omega, by omega⟩⟩
set_option maxRecDepth 100000 in
theorem s_265 {h : Hp} {s : Sg} {m : Mo} {n : Nat} {K A L M : Nat → Nat} (so : SgOk s) (q : MdAt (h 85) s m) (R : RepD (h 85) n K A L M) {kind pretty first : Nat} (hk : 1 ≤ kind) (hk5 : kind ≤ 5) (hp : pretty ≤ 9) (hf : first ≤ 99) : S_265 (nI kind) (nI pretty) (nI first) h = some (nI (accN (goodP A L M K (lTD s kind pretty first)) n 16), h) := by
  obtain ⟨n6, e6, e⟩ := id R
  have inner : ∀ (rec : Int32 → Int32 → Int32 → Int32 → Int32 → Int32 → Hp → Option (Int32 × Hp)) (G t : Nat) (f : Nat → Nat × Nat), G < 64 → t < 16 → (f t).1 ≤ 99 → (f t).2 ≤ 1000 → ∀ (j i fu : Nat), i + j = n → j < fu → H_265_22 rec fu (nI kind) (nI pretty) (nI (G ||| bitsN (goodP A L M K f t) i)) (nI (f t).1) (nI (f t).2) (nI t) (nI i) h = R_265_147 rec (nI kind) (nI pretty) (nI (G ||| bitsN (goodP A L M K f t) n)) (nI (f t).1) (nI (f t).2) (nI t) h := by
    intro rec G t f hG ht hT hD j
    induction j with
    | zero =>
      intro i fu ei hfu
      obtain ⟨fu, rfl⟩ : ∃ p, fu = p + 1 := ⟨fu - 1, by omega⟩
      have ei' : i = n := by omega
      simp (disch := omega) only [H_265_22, R_265_22, gd_t, bI_, bV_, bR_, and_self, and_true, true_and, ↓reduceIte, eq_self, oj_84, bI_1, bI_0, L0, L1, L2, L3, L4, L6, L7, L16, L31, L65, L85, L99, le_t, le_f, lt_t, lt_f, eq_t, eq_f, ncl, nI_add, nmul, nsub, ndiv, nrem, nrem', nrN, ia_85, e6, ei']
    | succ j ih =>
      intro i fu ei hfu
      obtain ⟨fu, rfl⟩ : ∃ p, fu = p + 1 := ⟨fu - 1, by omega⟩
      have hi : i < n := by omega
      obtain ⟨u1, u2, u3, u4, v1, v2, v3, v4⟩ := e i hi
      have nx := ih (i + 1) fu (by omega) (by omega)
      have hb := p64 (bitsN_lt (goodP A L M K f t) i) (show i ≤ 6 by omega)
      have hGb : G ||| bitsN (goodP A L M K f t) i < 64 := Nat.or_lt_two_pow (n := 6) hG hb
      have h2 := p2_64 (show i < 6 by omega)
      rw [bitsN_s, ← Nat.or_assoc] at nx
      by_cases ck : K i = t
      · by_cases ca : A i = 0
        · have g := s_177r (h := h) (v := nI (f t).1) (a := L i) (b := M i) (by omega) (by omega)
          rw [rngN (by omega)] at g
          by_cases c : L i ≤ (f t).1 ∧ (f t).1 ≤ M i
          · rw [decide_eq_true c] at g
            rw [show goodP A L M K f t i = true by unfold goodP okR; rw [if_pos ca]; simp [ck, c], if_pos rfl] at nx
            simp (disch := omega) only [H_265_22, R_265_22, R_265_34, R_265_51, R_265_77, R_265_113, R_265_116, R_265_120, gd_t, bI_, bV_, bR_, and_self, and_true, true_and, ↓reduceIte, eq_self, oj_84, bI_1, bI_0, L0, L1, L2, L3, L4, L6, L7, L16, L31, L65, L85, L99, le_t, le_f, lt_t, lt_f, eq_t, eq_f, ncl, nI_add, nmul, nsub, ndiv, nrem, nrem', nrN, ia_85, e6, v1, v2, v3, v4, ck, ca, g, nbit', nor']
            exact nx
          · rw [decide_eq_false c] at g
            rw [show goodP A L M K f t i = false by unfold goodP okR; rw [if_pos ca, decide_eq_false c, Bool.and_false], if_neg (by decide)] at nx
            simp (disch := omega) only [H_265_22, R_265_22, R_265_34, R_265_51, R_265_77, R_265_113, R_265_116, R_265_120, gd_t, bI_, bV_, bR_, and_self, and_true, true_and, ↓reduceIte, eq_self, oj_84, bI_1, bI_0, L0, L1, L2, L3, L4, L6, L7, L16, L31, L65, L85, L99, le_t, le_f, lt_t, lt_f, eq_t, eq_f, ncl, nI_add, nmul, nsub, ndiv, nrem, nrem', nrN, ia_85, e6, v1, v2, v3, v4, ck, ca, g, nbit', nor']
            exact nx
        · have g := s_177r (h := h) (v := nI (f t).2) (a := L i) (b := M i) (by omega) (by omega)
          rw [rngN (by omega)] at g
          by_cases c : L i ≤ (f t).2 ∧ (f t).2 ≤ M i
          · rw [decide_eq_true c] at g
            rw [show goodP A L M K f t i = true by unfold goodP okR; rw [if_neg ca]; simp [ck, c], if_pos rfl] at nx
            simp (disch := omega) only [H_265_22, R_265_22, R_265_34, R_265_56, R_265_77, R_265_113, R_265_116, R_265_120, gd_t, bI_, bV_, bR_, and_self, and_true, true_and, ↓reduceIte, eq_self, oj_84, bI_1, bI_0, L0, L1, L2, L3, L4, L6, L7, L16, L31, L65, L85, L99, le_t, le_f, lt_t, lt_f, eq_t, eq_f, ncl, nI_add, nmul, nsub, ndiv, nrem, nrem', nrN, ia_85, e6, v1, v2, v3, v4, ck, ca, g, nbit', nor']
            exact nx
          · rw [decide_eq_false c] at g
            rw [show goodP A L M K f t i = false by unfold goodP okR; rw [if_neg ca, decide_eq_false c, Bool.and_false], if_neg (by decide)] at nx
            simp (disch := omega) only [H_265_22, R_265_22, R_265_34, R_265_56, R_265_77, R_265_113, R_265_116, R_265_120, gd_t, bI_, bV_, bR_, and_self, and_true, true_and, ↓reduceIte, eq_self, oj_84, bI_1, bI_0, L0, L1, L2, L3, L4, L6, L7, L16, L31, L65, L85, L99, le_t, le_f, lt_t, lt_f, eq_t, eq_f, ncl, nI_add, nmul, nsub, ndiv, nrem, nrem', nrN, ia_85, e6, v1, v2, v3, v4, ck, ca, g, nbit', nor']
            exact nx
      · rw [show goodP A L M K f t i = false by unfold goodP; simp [ck], if_neg (by decide)] at nx
        by_cases ca : A i = 0
        · simp (disch := omega) only [H_265_22, R_265_22, R_265_34, R_265_51, R_265_120, gd_t, bI_, bV_, bR_, and_self, and_true, true_and, ↓reduceIte, eq_self, oj_84, bI_1, bI_0, L0, L1, L2, L3, L4, L6, L7, L16, L31, L65, L85, L99, le_t, le_f, lt_t, lt_f, eq_t, eq_f, ncl, nI_add, nmul, nsub, ndiv, nrem, nrem', nrN, ia_85, e6, v1, v2, ck, ca, nor']
          exact nx
        · simp (disch := omega) only [H_265_22, R_265_22, R_265_34, R_265_56, R_265_120, gd_t, bI_, bV_, bR_, and_self, and_true, true_and, ↓reduceIte, eq_self, oj_84, bI_1, bI_0, L0, L1, L2, L3, L4, L6, L7, L16, L31, L65, L85, L99, le_t, le_f, lt_t, lt_f, eq_t, eq_f, ncl, nI_add, nmul, nsub, ndiv, nrem, nrem', nrN, ia_85, e6, v1, v2, ck, ca, nor']
          exact nx
  have loop : ∀ (j t fu : Nat), t + j = 16 → j < fu → H_265_12 fu (nI kind) (nI pretty) (nI (accN (goodP A L M K (lTD s kind pretty first)) n t)) (nI (lTD s kind pretty first t).1) (nI (lTD s kind pretty first t).2) (nI t) h = some (nI (accN (goodP A L M K (lTD s kind pretty first)) n 16), h) := by
    intro j
    induction j with
    | zero =>
      intro t fu et hfu
      obtain ⟨fu, rfl⟩ : ∃ p, fu = p + 1 := ⟨fu - 1, by omega⟩
      have et' : t = 16 := by omega
      subst et'
      simp (disch := omega) only [H_265_22, H_265_12, R_265_12, R_265_197, gd_t, bI_, bV_, bR_, and_self, and_true, true_and, ↓reduceIte, eq_self, oj_84, bI_1, bI_0, L0, L1, L2, L3, L4, L6, L7, L16, L31, L65, L85, L99, le_t, le_f, lt_t, lt_f, eq_t, eq_f, ncl, nI_add, nmul, nsub, ndiv, nrem, nrem', nrN]
    | succ j ih =>
      intro t fu et hfu
      obtain ⟨fu, rfl⟩ : ∃ p, fu = p + 1 := ⟨fu - 1, by omega⟩
      obtain ⟨a1, a2⟩ := lTD_le (s := s) (kind := kind) (pretty := pretty) (first := first) hp hf t
      have nx := ih (t + 1) fu (by omega) (by omega)
      have b1 := p64 (accN_lt (goodP A L M K (lTD s kind pretty first)) n t) n6
      have hr := railS_le so t
      have er : railS s t = sHouse s t / 4 := by unfold railS houseS; rw [if_pos (by omega)]
      have hle := learnsK_le (k := kind) (n := t) hr a1
      have hh := so.2.2.1 t (by omega)
      have g185 := s_185 (h := h) (k := kind) (r := railS s t) (t := (lTD s kind pretty first t).1) (n := t) hk hk5 hr a1 (by omega)
      rw [er] at g185
      have g186 := s_186 (h := h) (a := (lTD s kind pretty first t).1 + learnsK kind (sHouse s t / 4) (lTD s kind pretty first t).1 t) (b := 99) (by rw [← er]; omega) (by decide)
      rw [Nat.min_comm] at g186
      have g189 := s_189 (h := h) (k := kind) (p := pretty) (t := min 99 ((lTD s kind pretty first t).1 + learnsK kind (sHouse s t / 4) (lTD s kind pretty first t).1 t)) (n := 0) hk hk5 hp (Nat.min_le_left _ _) (by decide)
      have gi := inner (H_265_12 fu) (accN (goodP A L M K (lTD s kind pretty first)) n t) t (lTD s kind pretty first) b1 (by omega) a1 (by omega) n 0 fuL (by omega) (fuL_gt (by omega))
      rw [show bitsN (goodP A L M K (lTD s kind pretty first) t) 0 = 0 from rfl, Nat.or_zero] at gi
      rw [accN_s, lTD_s, er] at nx
      have ed : nI (sHouse s t) / nI 4 = nI (sHouse s t / 4) := ndiv (by omega) (by decide) (by decide)
      have c16 : (nI 16 ≤ nI t) = False := le_f (by omega) (by omega)
      simp (disch := omega) only [H_265_12, R_265_12, R_265_19, gd_t, bI_, bV_, bR_, and_self, and_true, true_and, ↓reduceIte, eq_self, oj_84, bI_1, bI_0, L0, L1, L2, L3, L4, L6, L7, L16, L31, L65, L85, L99, c16, gi, R_265_147, nI_add, ia_85, ncl, q.house, ed, g185, R_265_169, g186, R_265_176, g189, R_265_188]
      exact nx
  have g := loop 16 0 fuL (by omega) (fuL_gt (by omega))
  simp (disch := omega) only [S_265, R_265_0, gd_t, bI_, bV_, bR_, and_self, and_true, true_and, ↓reduceIte, eq_self, oj_84, bI_1, bI_0, L0, L1, L2, L3, L4, L6, L7, L16, L31, L65, L85, L99]
  exact g
/-- missed and good -/
theorem miss_good {A L M K : Nat → Nat} {f : Nat → Nat × Nat} {n lst : Nat} (hn : n ≤ 6) (h15 : ∀ r, r < n → K r < lst ∧ K r < 16) : accN (badP A L M K f) n lst = (2 ^ n - 1) &&& (accN (goodP A L M K f) n 16 ^^^ 63) := by
  refine Nat.eq_of_testBit_eq (fun r => ?_)
  have h1 : (accN (badP A L M K f) n lst).testBit r = (decide (r < n) && (decide (K r < lst) && !okR A L M (f (K r)) r)) := accN_bit (q := fun t r => !okR A L M (f t) r) lst r
  have h2 : (accN (goodP A L M K f) n 16).testBit r = (decide (r < n) && (decide (K r < 16) && okR A L M (f (K r)) r)) := accN_bit (q := fun t r => okR A L M (f t) r) 16 r
  have h3 : (63 : Nat).testBit r = decide (r < 6) := Nat.testBit_two_pow_sub_one 6 r
  rw [Nat.testBit_and, Nat.testBit_xor, Nat.testBit_two_pow_sub_one, h1, h2, h3]
  by_cases c : r < n
  · obtain ⟨k1, k2⟩ := h15 r c
    rw [decide_eq_true c, decide_eq_true k1, decide_eq_true k2, decide_eq_true (show r < 6 by omega)]
    cases okR A L M (f (K r)) r <;> rfl
  · rw [decide_eq_false c]
    rfl
