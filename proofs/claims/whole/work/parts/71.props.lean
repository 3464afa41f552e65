/-! part 71: props, billing -/
def scF (s : Sg) (f : Nat) : Nat → Nat
  | 0 => 0
  | i + 1 => scF s f i ||| (if sPlace s i = f then 2 ^ i else 0)
theorem scF_s (s : Sg) (f i : Nat) : scF s f (i + 1) = scF s f i ||| (if sPlace s i = f then 2 ^ i else 0) := rfl
theorem scF_lt (s : Sg) (f : Nat) : ∀ i, scF s f i < 2 ^ i
  | 0 => Nat.two_pow_pos 0
  | i + 1 => by
    rw [scF_s]
    refine Nat.or_lt_two_pow (Nat.lt_of_lt_of_le (scF_lt s f i) (Nat.pow_le_pow_right (by decide) (by omega))) ?_
    split
    · exact Nat.pow_lt_pow_right (by decide) (by omega)
    · exact Nat.two_pow_pos _
def scS (s : Sg) (f : Nat) : Nat := scF s f (sN s)
theorem p64 {x n : Nat} (h : x < 2 ^ n) (hn : n ≤ 6) : x < 64 := Nat.lt_of_lt_of_le h (Nat.pow_le_pow_right (by decide) hn)
def propF (s : Sg) : Nat → Nat → Nat
  | 0, S => S
  | p + 1, S => if scS s p = 0 then S else propF s p (S ||| scS s p)
theorem propF_s (s : Sg) (p S : Nat) : propF s (p + 1) S = if scS s p = 0 then S else propF s p (S ||| scS s p) := rfl
theorem addneg (a b : Int32) : a + -b = a - b := (Int32.sub_eq_add_neg a b).symm
theorem m1lt : (nI 0 - nI 1 < nI 0) = True := eq_true (pk_sneg (a := 0) (b := 1) (by decide) (by decide))
theorem nbit7 : ∀ k, k < 7 → (nI 1) <<< ((nI k) &&& nI 31) = nI (2 ^ k) := by decide +kernel
theorem nbit'' {k : Nat} (h : k < 7) : (nI 1) <<< ((nI k) &&& nI 31) = nI (2 ^ k) := nbit7 k h
theorem p2_64 {k : Nat} (h : k < 6) : 2 ^ k < 64 := p64 (Nat.pow_lt_pow_right (a := 2) (n := 6) (by decide) h) (Nat.le_refl 6)
theorem s_97 {h : Hp} {s : Sg} (so : SgOk s) (hs : SgAt h s) {f : Nat} (hf : f ≤ 5) : S_97 (nI f) h = some (nI (scS s f), h) := by
  have hn := so.1
  have loop : ∀ j i n : Nat, i + j = sN s → j < n → H_97_4 n (nI f) (nI (scF s f i)) (nI i) h = some (nI (scS s f), h) := by
    intro j
    induction j with
    | zero =>
      intro i n e hj
      obtain ⟨n, rfl⟩ : ∃ p, n = p + 1 := ⟨n - 1, by omega⟩
      have : i = sN s := by omega
      simp (disch := omega) only [H_97_4, R_97_34, R_97_28, R_97_22, R_97_12, R_97_4, R_97_0, S_97, gd_t, bI_, bV_, bR_, and_self, and_true, true_and, ↓reduceIte, eq_self, oj_84, bI_1, bI_0, L0, L1, L3, L7, L31, le_t, le_f, lt_t, lt_f, eq_t, eq_f, ncl, nI_add, nmul, nsub, ndiv, nrem, nrem', nrN, hs.n, this]
      rfl
    | succ j ih =>
      intro i n e hj
      obtain ⟨n, rfl⟩ : ∃ p, n = p + 1 := ⟨n - 1, by omega⟩
      have hi : i < sN s := by omega
      have hp := (so.2.1 i hi).2.2
      have nx := ih (i + 1) n (by omega) (by omega)
      have h64 := p64 (scF_lt s f i) (by omega)
      have hb := p2_64 (k := i) (by omega)
      rw [scF_s] at nx
      by_cases c : sPlace s i = f
      · rw [if_pos c] at nx
        simp (disch := omega) only [H_97_4, R_97_34, R_97_28, R_97_22, R_97_12, R_97_4, R_97_0, S_97, gd_t, bI_, bV_, bR_, and_self, and_true, true_and, ↓reduceIte, eq_self, oj_84, bI_1, bI_0, L0, L1, L3, L7, L31, le_t, le_f, lt_t, lt_f, eq_t, eq_f, ncl, nI_add, nmul, nsub, ndiv, nrem, nrem', nrN, hs.n, ia_3, hs.place, c, nbit', nor']
        exact nx
      · rw [if_neg c, Nat.or_zero] at nx
        simp (disch := omega) only [H_97_4, R_97_34, R_97_28, R_97_22, R_97_12, R_97_4, R_97_0, S_97, gd_t, bI_, bV_, bR_, and_self, and_true, true_and, ↓reduceIte, eq_self, oj_84, bI_1, bI_0, L0, L1, L3, L7, L31, le_t, le_f, lt_t, lt_f, eq_t, eq_f, ncl, nI_add, nmul, nsub, ndiv, nrem, nrem', nrN, hs.n, ia_3, hs.place, c]
        exact nx
  simp (disch := omega) only [R_97_34, R_97_28, R_97_22, R_97_12, R_97_4, R_97_0, S_97, gd_t, bI_, bV_, bR_, and_self, and_true, true_and, ↓reduceIte, eq_self, oj_84, bI_1, bI_0, L0, L1, L3, L7, L31, le_t, le_f, lt_t, lt_f, eq_t, eq_f, ncl, nI_add, nmul, nsub, ndiv, nrem, nrem', nrN]
  exact loop (sN s) 0 fuL (by omega) (fuL_gt (by omega))
theorem s_239 {h : Hp} {s : Sg} {m : Mo} (so : SgOk s) (q : MdAt (h 85) s m) {f : Nat} (hf : f ≤ 5) : S_239 (nI f) h = some (nI (scS s f), h) := by
  have hn := so.1
  have loop : ∀ j i n : Nat, i + j = sN s → j < n → H_239_4 n (nI f) (nI (scF s f i)) (nI i) h = some (nI (scS s f), h) := by
    intro j
    induction j with
    | zero =>
      intro i n e hj
      obtain ⟨n, rfl⟩ : ∃ p, n = p + 1 := ⟨n - 1, by omega⟩
      have : i = sN s := by omega
      simp (disch := omega) only [H_239_4, R_239_40, R_239_31, R_239_25, R_239_21, R_239_14, R_239_4, R_239_0, S_239, gd_t, bI_, bV_, bR_, and_self, and_true, true_and, ↓reduceIte, eq_self, oj_84, bI_1, bI_0, L0, L1, L3, L31, L85, le_t, le_f, lt_t, lt_f, eq_t, eq_f, ncl, nI_add, nmul, nsub, ndiv, nrem, nrem', nrN, ia_85, q.n, this]
      rfl
    | succ j ih =>
      intro i n e hj
      obtain ⟨n, rfl⟩ : ∃ p, n = p + 1 := ⟨n - 1, by omega⟩
      have hi : i < sN s := by omega
      have hp := (so.2.1 i hi).2.2
      have nx := ih (i + 1) n (by omega) (by omega)
      have h64 := p64 (scF_lt s f i) (by omega)
      have hb := p2_64 (k := i) (by omega)
      rw [scF_s] at nx
      by_cases c : sPlace s i = f
      · rw [if_pos c] at nx
        simp (disch := omega) only [H_239_4, R_239_40, R_239_31, R_239_25, R_239_21, R_239_14, R_239_4, R_239_0, S_239, gd_t, bI_, bV_, bR_, and_self, and_true, true_and, ↓reduceIte, eq_self, oj_84, bI_1, bI_0, L0, L1, L3, L31, L85, le_t, le_f, lt_t, lt_f, eq_t, eq_f, ncl, nI_add, nmul, nsub, ndiv, nrem, nrem', nrN, ia_85, q.n, of3 q so, c, nbit', nor']
        exact nx
      · rw [if_neg c] at nx
        simp (disch := omega) only [H_239_4, R_239_40, R_239_31, R_239_25, R_239_21, R_239_14, R_239_4, R_239_0, S_239, gd_t, bI_, bV_, bR_, and_self, and_true, true_and, ↓reduceIte, eq_self, oj_84, bI_1, bI_0, L0, L1, L3, L31, L85, le_t, le_f, lt_t, lt_f, eq_t, eq_f, ncl, nI_add, nmul, nsub, ndiv, nrem, nrem', nrN, ia_85, q.n, of3 q so, c, nor']
        exact nx
  simp (disch := omega) only [R_239_40, R_239_31, R_239_25, R_239_21, R_239_14, R_239_4, R_239_0, S_239, gd_t, bI_, bV_, bR_, and_self, and_true, true_and, ↓reduceIte, eq_self, oj_84, bI_1, bI_0, L0, L1, L3, L31, L85, le_t, le_f, lt_t, lt_f, eq_t, eq_f, ncl, nI_add, nmul, nsub, ndiv, nrem, nrem', nrN]
  exact loop (sN s) 0 fuL (by omega) (fuL_gt (by omega))
theorem p_props {v : Int32} : Pub (S_96 v) (S_238 v) := by
  intro h I
  obtain ⟨⟨s, m, C⟩, D⟩ := id I
  obtain ⟨so, mo, hs, hm, q, h4⟩ := id C
  have hn := so.1
  cases hr : scn (sN s) v with
  | false => exact ⟨-nI 1, h, h, by simp (disch := omega) only [R_96_59, R_96_48, R_96_45, R_96_38, R_96_30, R_96_26, R_96_10, R_96_8, R_96_5, R_96_0, S_96, gd_t, bI_, bV_, bR_, and_self, and_true, true_and, ↓reduceIte, eq_self, oj_84, bI_1, bI_0, L0, L1, L3, L31, s_14 hn hs.1.n, hr], by simp (disch := omega) only [R_238_49, R_238_41, R_238_35, R_238_32, R_238_27, R_238_23, R_238_20, R_238_10, R_238_8, R_238_5, R_238_0, S_238, gd_t, bI_, bV_, bR_, and_self, and_true, true_and, ↓reduceIte, eq_self, oj_84, bI_1, bI_0, L0, L1, L3, L31, s_180 hn q.1.n, hr], I⟩
  | true =>
    obtain ⟨k, hk, rfl⟩ := scn_t hr
    have hp := (so.2.1 k hk).2.2
    have hb := p2_64 (k := k) (by omega)
    have lc : ∀ (p S fu : Nat), p < fu → p ≤ 5 → S < 64 → H_96_26 fu (nI S) (nI p - nI 1) h = some (nI (propF s p S), h) := by
      intro p
      induction p with
      | zero =>
        intro S fu hf hp hS
        obtain ⟨fu, rfl⟩ : ∃ p, fu = p + 1 := ⟨fu - 1, by omega⟩
        simp (disch := omega) only [H_96_26, R_96_59, R_96_48, R_96_45, R_96_38, R_96_30, R_96_26, R_96_10, R_96_8, R_96_5, R_96_0, S_96, gd_t, bI_, bV_, bR_, and_self, and_true, true_and, ↓reduceIte, eq_self, oj_84, bI_1, bI_0, L0, L1, L3, L31, m1lt]
        rfl
      | succ p ih =>
        intro S fu hf hp hS
        obtain ⟨fu, rfl⟩ : ∃ p, fu = p + 1 := ⟨fu - 1, by omega⟩
        have hc : scS s p < 64 := p64 (scF_lt s p _) hn
        have e : nI (p + 1) - nI 1 = nI p := nsub (by omega)
        rw [propF_s, e]
        by_cases c : scS s p = 0
        · rw [if_pos c]
          simp (disch := omega) only [H_96_26, R_96_59, R_96_48, R_96_45, R_96_38, R_96_30, R_96_26, R_96_10, R_96_8, R_96_5, R_96_0, S_96, gd_t, bI_, bV_, bR_, and_self, and_true, true_and, ↓reduceIte, eq_self, oj_84, bI_1, bI_0, L0, L1, L3, L31, lt_f, s_97 so hs.1, c]
        · rw [if_neg c]
          have nx := ih (S ||| scS s p) fu (by omega) (by omega) (Nat.or_lt_two_pow (n := 6) hS hc)
          simp (disch := omega) only [H_96_26, R_96_59, R_96_48, R_96_45, R_96_38, R_96_30, R_96_26, R_96_10, R_96_8, R_96_5, R_96_0, S_96, gd_t, bI_, bV_, bR_, and_self, and_true, true_and, ↓reduceIte, eq_self, oj_84, bI_1, bI_0, L0, L1, L3, L31, lt_f, s_97 so hs.1, eq_f, nor', addneg]
          exact nx
    have lm : ∀ (p S fu : Nat), p < fu → p ≤ 5 → S < 64 → H_238_23 fu (nI S) (nI p - nI 1) h = some (nI (propF s p S), h) := by
      intro p
      induction p with
      | zero =>
        intro S fu hf hp hS
        obtain ⟨fu, rfl⟩ : ∃ p, fu = p + 1 := ⟨fu - 1, by omega⟩
        simp (disch := omega) only [H_238_23, R_238_49, R_238_41, R_238_35, R_238_32, R_238_27, R_238_23, R_238_20, R_238_10, R_238_8, R_238_5, R_238_0, S_238, gd_t, bI_, bV_, bR_, and_self, and_true, true_and, ↓reduceIte, eq_self, oj_84, bI_1, bI_0, L0, L1, L3, L31, m1lt]
        rfl
      | succ p ih =>
        intro S fu hf hp hS
        obtain ⟨fu, rfl⟩ : ∃ p, fu = p + 1 := ⟨fu - 1, by omega⟩
        have hc : scS s p < 64 := p64 (scF_lt s p _) hn
        have e : nI (p + 1) - nI 1 = nI p := nsub (by omega)
        rw [propF_s, e]
        by_cases c : scS s p = 0
        · rw [if_pos c]
          simp (disch := omega) only [H_238_23, R_238_49, R_238_41, R_238_35, R_238_32, R_238_27, R_238_23, R_238_20, R_238_10, R_238_8, R_238_5, R_238_0, S_238, gd_t, bI_, bV_, bR_, and_self, and_true, true_and, ↓reduceIte, eq_self, oj_84, bI_1, bI_0, L0, L1, L3, L31, lt_f, s_239 so q.1, c]
        · rw [if_neg c]
          have nx := ih (S ||| scS s p) fu (by omega) (by omega) (Nat.or_lt_two_pow (n := 6) hS hc)
          simp (disch := omega) only [H_238_23, R_238_49, R_238_41, R_238_35, R_238_32, R_238_27, R_238_23, R_238_20, R_238_10, R_238_8, R_238_5, R_238_0, S_238, gd_t, bI_, bV_, bR_, and_self, and_true, true_and, ↓reduceIte, eq_self, oj_84, bI_1, bI_0, L0, L1, L3, L31, lt_f, s_239 so q.1, eq_f, nor', addneg]
          exact nx
    have g1 := lc (sPlace s k) (2 ^ k) fuL (fuL_gt (by omega)) hp hb
    have g2 := lm (sPlace s k) (2 ^ k) fuL (fuL_gt (by omega)) hp hb
    refine ⟨nI (propF s (sPlace s k) (2 ^ k)), h, h, ?_, ?_, I⟩
    · simp (disch := omega) only [S_96, R_96_0, R_96_5, R_96_10, gd_t, bI_, bV_, bR_, and_self, and_true, true_and, ↓reduceIte, eq_self, oj_84, bI_1, bI_0, L0, L1, L3, L31, s_14 hn hs.1.n, hr, eq_f, ncl, ia_3, hs.1.place, nbit', g1]
    · simp (disch := omega) only [S_238, R_238_0, R_238_5, R_238_10, R_238_20, gd_t, bI_, bV_, bR_, and_self, and_true, true_and, ↓reduceIte, eq_self, oj_84, bI_1, bI_0, L0, L1, L3, L31, s_180 hn q.1.n, hr, eq_f, of3 q.1 so, nbit', g2]
def drwS (s : Sg) (m : Mo) (S : Nat) : Nat → Nat
  | 0 => 0
  | i + 1 => drwS s m S i + (if S.testBit i then drawsS s m i else 0)
theorem drwS_s (s : Sg) (m : Mo) (S i : Nat) : drwS s m S (i + 1) = drwS s m S i + (if S.testBit i then drawsS s m i else 0) := rfl
theorem drwS_le {s : Sg} {m : Mo} (so : SgOk s) (mo : MoOk s m) (S : Nat) : ∀ i, i ≤ sN s → drwS s m S i ≤ 65 * i
  | 0, _ => Nat.le_refl 0
  | i + 1, h => by
    have h1 := drwS_le so mo S i (by omega)
    have h2 := drawsS_le so mo (k := i) (by omega)
    rw [drwS_s]
    split <;> omega
theorem s_106 {h : Hp} {s : Sg} {m : Mo} (so : SgOk s) (mo : MoOk s m) (hs : SgAt h s) (hm : MoAt h 13 s m) {S : Nat} (hS : S < 64) : S_106 13 (nI S) h = some (nI (drwS s m S (sN s)), h) := by
  have hn := so.1
  have loop : ∀ j i n : Nat, i + j = sN s → j < n → H_106_5 n 13 (nI S) (nI (drwS s m S i)) (nI i) h = some (nI (drwS s m S (sN s)), h) := by
    intro j
    induction j with
    | zero =>
      intro i n e hj
      obtain ⟨n, rfl⟩ : ∃ p, n = p + 1 := ⟨n - 1, by omega⟩
      have : i = sN s := by omega
      simp (disch := omega) only [H_106_5, R_106_40, R_106_34, R_106_32, R_106_24, R_106_14, R_106_5, R_106_0, S_106, gd_t, bI_, bV_, bR_, and_self, and_true, true_and, ↓reduceIte, eq_self, oj_84, bI_1, bI_0, L0, L1, L7, L31, le_t, le_f, lt_t, lt_f, eq_t, eq_f, ncl, nI_add, nmul, nsub, ndiv, nrem, nrem', nrN, hs.n, this]
    | succ j ih =>
      intro i n e hj
      obtain ⟨n, rfl⟩ : ∃ p, n = p + 1 := ⟨n - 1, by omega⟩
      have nx := ih (i + 1) n (by omega) (by omega)
      rw [drwS_s] at nx
      cases c : S.testBit i with
      | true =>
        rw [c] at nx
        simp (disch := omega) only [H_106_5, R_106_40, R_106_34, R_106_32, R_106_24, R_106_14, R_106_5, R_106_0, S_106, gd_t, bI_, bV_, bR_, and_self, and_true, true_and, ↓reduceIte, eq_self, oj_84, bI_1, bI_0, L0, L1, L7, L31, le_t, le_f, lt_t, lt_f, eq_t, eq_f, ncl, nI_add, nmul, nsub, ndiv, nrem, nrem', nrN, hs.n, nset', c, Bool.toNat_true, s_21 mo13 so mo hs hm]
        exact nx
      | false =>
        rw [c] at nx
        simp (disch := omega) only [H_106_5, R_106_40, R_106_34, R_106_32, R_106_24, R_106_14, R_106_5, R_106_0, S_106, gd_t, bI_, bV_, bR_, and_self, and_true, true_and, ↓reduceIte, eq_self, oj_84, bI_1, bI_0, L0, L1, L7, L31, le_t, le_f, lt_t, lt_f, eq_t, eq_f, ncl, nI_add, nmul, nsub, ndiv, nrem, nrem', nrN, hs.n, nset', c, Bool.toNat_false]
        exact nx
  simp (disch := omega) only [R_106_40, R_106_34, R_106_32, R_106_24, R_106_14, R_106_5, R_106_0, S_106, gd_t, bI_, bV_, bR_, and_self, and_true, true_and, ↓reduceIte, eq_self, oj_84, bI_1, bI_0, L0, L1, L7, L31, le_t, le_f, lt_t, lt_f, eq_t, eq_f, ncl, nI_add, nmul, nsub, ndiv, nrem, nrem', nrN]
  exact loop (sN s) 0 fuL (by omega) (fuL_gt (by omega))
def bilT (s : Sg) (m : Mo) (v S : Nat) (b : Option Nat) : Option Nat := if v ≤ drwS s m S (sN s) ∧ onesN S 6 < (match b with | none => 7 | some x => onesN x 6) then some S else b
def bilF (s : Sg) (m : Mo) (v : Nat) : Nat → Nat → Option Nat → Option Nat
  | 0, _, b => b
  | j + 1, S, b => bilF s m v j (S + 1) (bilT s m v S b)
def fewO : Option Nat → Nat
  | none => 7
  | some x => onesN x 6
theorem p_billing {v : Int32} : Pub (S_104 v) (S_244 v) := by
  intro h I
  obtain ⟨⟨s, m, C⟩, D⟩ := id I
  obtain ⟨so, mo, hs, hm, q, h4⟩ := id C
  have hn := so.1
  cases hr : rng 0 999 v with
  | false => exact ⟨-nI 1, h, h, by simp (disch := omega) only [R_104_78, R_104_72, R_104_66, R_104_62, R_104_49, R_104_41, R_104_36, R_104_22, R_104_13, R_104_11, R_104_8, R_104_0, S_104, gd_t, bI_, bV_, bR_, and_self, and_true, true_and, ↓reduceIte, eq_self, oj_84, bI_1, bI_0, L0, L1, L3, L7, L13, L31, L85, L999, s_11r, hr], by simp (disch := omega) only [R_244_105, R_244_97, R_244_93, R_244_90, R_244_86, R_244_82, R_244_78, R_244_72, R_244_62, R_244_48, R_244_37, R_244_31, R_244_19, R_244_14, R_244_12, R_244_9, R_244_0, S_244, gd_t, bI_, bV_, bR_, and_self, and_true, true_and, ↓reduceIte, eq_self, oj_84, bI_1, bI_0, L0, L1, L3, L7, L13, L31, L85, L999, J0, J999, s_177r, hr], I⟩
  | true =>
    obtain ⟨x, -, hx, rfl⟩ := rng_t hr
    have h2n : 2 ^ sN s ≤ 64 := Nat.pow_le_pow_right (n := 2) (by decide) hn
    have lc : ∀ (j S fu : Nat) (b : Option Nat), S + j = 2 ^ sN s → j < fu → H_104_22 fu (nI x) (onI b) (nI (fewO b)) (nI S) h = some (onI (bilF s m x j S b), h) := by
      intro j
      induction j with
      | zero =>
        intro S fu b e hf
        obtain ⟨fu, rfl⟩ : ∃ p, fu = p + 1 := ⟨fu - 1, by omega⟩
        simp (disch := omega) only [H_104_22, R_104_78, R_104_72, R_104_66, R_104_62, R_104_49, R_104_41, R_104_36, R_104_22, R_104_13, R_104_11, R_104_8, R_104_0, S_104, gd_t, bI_, bV_, bR_, and_self, and_true, true_and, ↓reduceIte, eq_self, oj_84, bI_1, bI_0, L0, L1, L3, L7, L13, L31, L999, le_t, le_f, lt_t, lt_f, eq_t, eq_f, ncl, nI_add, nmul, nsub, ndiv, nrem, nrem', nrN, hs.1.n, nbit'']
        rfl
      | succ j ih =>
        intro S fu b e hf
        obtain ⟨fu, rfl⟩ : ∃ p, fu = p + 1 := ⟨fu - 1, by omega⟩
        have hS : S < 64 := by omega
        have ho := onesN_le S 6
        have hd := drwS_le so mo S (sN s) (Nat.le_refl _)
        have hfw : fewO b ≤ 7 := by
          cases b with
          | none => exact Nat.le_refl 7
          | some y => have := onesN_le y 6; show onesN y 6 ≤ 7; omega
        have eT : bilT s m x S b = if x ≤ drwS s m S (sN s) ∧ onesN S 6 < fewO b then some S else b := by
          cases b <;> rfl
        have nx := ih (S + 1) fu (bilT s m x S b) (by omega) (by omega)
        rw [show bilF s m x (j + 1) S b = bilF s m x j (S + 1) (bilT s m x S b) from rfl]
        rw [eT] at nx ⊢
        by_cases c1 : onesN S 6 < fewO b
        · by_cases c2 : x ≤ drwS s m S (sN s)
          · rw [if_pos ⟨c2, c1⟩] at nx ⊢
            simp (disch := omega) only [H_104_22, R_104_78, R_104_72, R_104_66, R_104_62, R_104_49, R_104_41, R_104_36, R_104_22, R_104_13, R_104_11, R_104_8, R_104_0, S_104, gd_t, bI_, bV_, bR_, and_self, and_true, true_and, ↓reduceIte, eq_self, oj_84, bI_1, bI_0, L0, L1, L3, L7, L13, L31, L999, le_t, le_f, lt_t, lt_f, eq_t, eq_f, ncl, nI_add, nmul, nsub, ndiv, nrem, nrem', nrN, hs.1.n, nbit'', s_105, s_106 so mo hs.1 hm, c1, c2]
            exact nx
          · rw [if_neg (fun w => c2 w.1)] at nx ⊢
            simp (disch := omega) only [H_104_22, R_104_78, R_104_72, R_104_66, R_104_62, R_104_49, R_104_41, R_104_36, R_104_22, R_104_13, R_104_11, R_104_8, R_104_0, S_104, gd_t, bI_, bV_, bR_, and_self, and_true, true_and, ↓reduceIte, eq_self, oj_84, bI_1, bI_0, L0, L1, L3, L7, L13, L31, L999, le_t, le_f, lt_t, lt_f, eq_t, eq_f, ncl, nI_add, nmul, nsub, ndiv, nrem, nrem', nrN, hs.1.n, nbit'', s_105, s_106 so mo hs.1 hm, c1, c2]
            exact nx
        · rw [if_neg (fun w => c1 w.2)] at nx ⊢
          simp (disch := omega) only [H_104_22, R_104_78, R_104_72, R_104_66, R_104_62, R_104_49, R_104_41, R_104_36, R_104_22, R_104_13, R_104_11, R_104_8, R_104_0, S_104, gd_t, bI_, bV_, bR_, and_self, and_true, true_and, ↓reduceIte, eq_self, oj_84, bI_1, bI_0, L0, L1, L3, L7, L13, L31, L999, le_t, le_f, lt_t, lt_f, eq_t, eq_f, ncl, nI_add, nmul, nsub, ndiv, nrem, nrem', nrN, hs.1.n, nbit'', s_105, c1]
          exact nx
    have inner : ∀ (rec : Int32 → Int32 → Int32 → Hp → Option (Int32 × Hp)) (S : Nat) (bb : Int32), S < 64 → ∀ (j i fu : Nat), i + j = sN s → j < fu → H_244_37 rec fu (nI x) bb (nI S) (nI (drwS s m S i)) (nI i) h = R_244_72 rec (nI x) bb (nI S) (nI (drwS s m S (sN s))) h := by
      intro rec S bb hS j
      induction j with
      | zero =>
        intro i fu e hf
        obtain ⟨fu, rfl⟩ : ∃ p, fu = p + 1 := ⟨fu - 1, by omega⟩
        have ei : i = sN s := by omega
        simp (disch := omega) only [H_244_37, R_244_37, gd_t, bI_, bV_, bR_, and_self, and_true, true_and, ↓reduceIte, eq_self, oj_84, bI_1, bI_0, L0, L1, L3, L31, L85, L999, le_t, le_f, lt_t, lt_f, eq_t, eq_f, ncl, nI_add, nmul, nsub, ndiv, nrem, nrem', nrN, ia_85, q.1.n, ei]
      | succ j ih =>
        intro i fu e hf
        obtain ⟨fu, rfl⟩ : ∃ p, fu = p + 1 := ⟨fu - 1, by omega⟩
        have nx := ih (i + 1) fu (by omega) (by omega)
        rw [drwS_s] at nx
        cases c : S.testBit i with
        | true =>
          rw [c, if_pos rfl] at nx
          simp (disch := omega) only [H_244_37, R_244_37, R_244_48, R_244_62, gd_t, bI_, bV_, bR_, and_self, and_true, true_and, ↓reduceIte, eq_self, oj_84, bI_1, bI_0, L0, L1, L3, L31, L85, L999, le_t, le_f, lt_t, lt_f, eq_t, eq_f, ncl, nI_add, nmul, nsub, ndiv, nrem, nrem', nrN, ia_85, q.1.n, nset', c, Bool.toNat_true, s_188 so mo q.1, Nat.one_mul]
          exact nx
        | false =>
          rw [c] at nx
          simp (disch := omega) only [H_244_37, R_244_37, R_244_48, R_244_62, gd_t, bI_, bV_, bR_, and_self, and_true, true_and, ↓reduceIte, eq_self, oj_84, bI_1, bI_0, L0, L1, L3, L31, L85, L999, le_t, le_f, lt_t, lt_f, eq_t, eq_f, ncl, nI_add, nmul, nsub, ndiv, nrem, nrem', nrN, ia_85, q.1.n, nset', c, Bool.toNat_false, s_188 so mo q.1, Nat.zero_mul]
          exact nx
    have lm : ∀ (j S fu : Nat) (b : Option Nat), (∀ y, b = some y → y < 64) → S + j = 2 ^ sN s → j < fu → H_244_19 fu (nI x) (onI b) (nI S) h = some (onI (bilF s m x j S b), h) := by
      intro j
      induction j with
      | zero =>
        intro S fu b hb e hf
        obtain ⟨fu, rfl⟩ : ∃ p, fu = p + 1 := ⟨fu - 1, by omega⟩
        simp (disch := omega) only [H_244_37, H_244_19, R_244_19, R_244_105, gd_t, bI_, bV_, bR_, and_self, and_true, true_and, ↓reduceIte, eq_self, oj_84, bI_1, bI_0, L0, L1, L3, L31, L85, L999, le_t, le_f, lt_t, lt_f, eq_t, eq_f, ncl, nI_add, nmul, nsub, ndiv, nrem, nrem', nrN, ia_85, q.1.n, nbit'']
        rfl
      | succ j ih =>
        intro S fu b hb e hf
        obtain ⟨fu, rfl⟩ : ∃ p, fu = p + 1 := ⟨fu - 1, by omega⟩
        have hS : S < 64 := by omega
        have ho := onesN_le S 6
        have hd := drwS_le so mo S (sN s) (Nat.le_refl _)
        have eT : bilT s m x S b = if x ≤ drwS s m S (sN s) ∧ onesN S 6 < fewO b then some S else b := by
          cases b <;> rfl
        have hb' : ∀ y, bilT s m x S b = some y → y < 64 := by
          intro y hy
          rw [eT] at hy
          split at hy
          · cases hy; exact hS
          · exact hb y hy
        have nx := ih (S + 1) fu (bilT s m x S b) hb' (by omega) (by omega)
        have gi := inner (H_244_19 fu) S (onI b) hS (sN s) 0 fuL (by omega) (fuL_gt (by omega))
        rw [show drwS s m S 0 = 0 from rfl] at gi
        rw [show bilF s m x (j + 1) S b = bilF s m x j (S + 1) (bilT s m x S b) from rfl]
        rw [eT] at nx ⊢
        by_cases c2 : x ≤ drwS s m S (sN s)
        · cases b with
          | none =>
            have c1 : onesN S 6 < fewO none := by show onesN S 6 < 7; omega
            rw [if_pos ⟨c2, c1⟩] at nx ⊢
            have en : (onI none < nI 0) = True := neg_lt (by decide) (by decide)
            simp (disch := omega) only [H_244_19, R_244_19, R_244_31, gd_t, bI_, bV_, bR_, and_self, and_true, true_and, ↓reduceIte, eq_self, oj_84, bI_1, bI_0, L0, L1, L3, L31, L85, L999, le_t, le_f, lt_t, lt_f, eq_t, eq_f, ncl, nI_add, nmul, nsub, ndiv, nrem, nrem', nrN, ia_85, q.1.n, nbit'', gi, R_244_72, R_244_78, R_244_93, c2, en]
            exact nx
          | some y =>
            have hy := hb y rfl
            have hoy := onesN_le y 6
            have ey : onI (some y) = nI y := rfl
            by_cases c1 : onesN S 6 < onesN y 6
            · rw [if_pos ⟨c2, c1⟩] at nx ⊢
              rw [ey] at gi ⊢
              simp (disch := omega) only [H_244_19, R_244_19, R_244_31, gd_t, bI_, bV_, bR_, and_self, and_true, true_and, ↓reduceIte, eq_self, oj_84, bI_1, bI_0, L0, L1, L3, L31, L85, L999, le_t, le_f, lt_t, lt_f, eq_t, eq_f, ncl, nI_add, nmul, nsub, ndiv, nrem, nrem', nrN, ia_85, q.1.n, nbit'', gi, R_244_72, R_244_78, R_244_82, R_244_86, R_244_90, R_244_93, c2, c1, s_245]
              exact nx
            · rw [if_neg (fun w => c1 w.2)] at nx ⊢
              rw [ey] at gi nx ⊢
              simp (disch := omega) only [H_244_19, R_244_19, R_244_31, gd_t, bI_, bV_, bR_, and_self, and_true, true_and, ↓reduceIte, eq_self, oj_84, bI_1, bI_0, L0, L1, L3, L31, L85, L999, le_t, le_f, lt_t, lt_f, eq_t, eq_f, ncl, nI_add, nmul, nsub, ndiv, nrem, nrem', nrN, ia_85, q.1.n, nbit'', gi, R_244_72, R_244_78, R_244_82, R_244_86, R_244_90, R_244_97, c2, c1, s_245]
              exact nx
        · rw [if_neg (fun w => c2 w.1)] at nx ⊢
          simp (disch := omega) only [H_244_19, R_244_19, R_244_31, gd_t, bI_, bV_, bR_, and_self, and_true, true_and, ↓reduceIte, eq_self, oj_84, bI_1, bI_0, L0, L1, L3, L31, L85, L999, le_t, le_f, lt_t, lt_f, eq_t, eq_f, ncl, nI_add, nmul, nsub, ndiv, nrem, nrem', nrN, ia_85, q.1.n, nbit'', gi, R_244_72, R_244_97, c2]
          exact nx
    have g1 := lc (2 ^ sN s) 0 fuL none (by omega) (fuL_gt (by omega))
    have g2 := lm (2 ^ sN s) 0 fuL none (fun y hy => by cases hy) (by omega) (fuL_gt (by omega))
    refine ⟨onI (bilF s m x (2 ^ sN s) 0 none), h, h, ?_, ?_, I⟩
    · simp (disch := omega) only [S_104, R_104_0, R_104_8, R_104_13, gd_t, bI_, bV_, bR_, and_self, and_true, true_and, ↓reduceIte, eq_self, oj_84, bI_1, bI_0, L0, L1, L3, L7, L13, L31, L999, s_11r, hr, eq_f]
      exact g1
    · simp (disch := omega) only [S_244, R_244_0, R_244_9, R_244_14, gd_t, bI_, bV_, bR_, and_self, and_true, true_and, ↓reduceIte, eq_self, oj_84, bI_1, bI_0, L0, L1, L3, L31, L85, L999, J0, J999, s_177r, hr, eq_f]
      exact g2
