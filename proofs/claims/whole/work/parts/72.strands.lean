/-! part 72: strands -/
def clsS (s : Sg) (m : Mo) (a b : Nat) : Bool := !(mSet m).testBit a && !(mSet m).testBit b && (sPlace s a == sPlace s b || (decide (mTruth m a ≤ mTruth m b + 3) && decide (mTruth m b ≤ mTruth m a + 3)))
theorem nIsub_abs {a b : Nat} (ha : a ≤ 99) (hb : b ≤ 99) : (if nI 0 ≤ nI a - nI b then nI a - nI b else nI 0 - (nI a - nI b)) = nI (a - b + (b - a)) := by
  by_cases c : b ≤ a
  · rw [pk_sub c, if_pos (nI_le (Nat.zero_le _) (by omega)), show a - b + (b - a) = a - b by omega]
  · have h1 : ¬ nI 0 ≤ nI a - nI b := by
      rw [Int32.le_iff_toInt_le, pk_sub_toInt (by omega) (by omega)]
      show ¬ (0 : Int) ≤ _
      omega
    rw [if_neg h1]
    apply Int32.toInt_inj.mp
    rw [nI_toInt (by omega), Int32.toInt_sub, pk_sub_toInt (by omega) (by omega), nI_toInt (by decide)]
    rw [Int.bmod_eq_of_le (by omega) (by omega)]
    omega
theorem s_102 {h : Hp} {s : Sg} {m : Mo} (so : SgOk s) (mo : MoOk s m) (hs : SgAt h s) (hm : MoAt h 13 s m) {a b : Nat} (ha : a < sN s) (hb : b < sN s) : S_102 13 (nI a) (nI b) h = some (bI (clsS s m a b), h) := by
  have hn := so.1
  have hset := mo.set so
  have pa := (so.2.1 a ha).2.2
  have pb := (so.2.1 b hb).2.2
  have ta := (mo.1 a ha).1
  have tb := (mo.1 b hb).1
  have ea : h 14 a = nI (mTruth m a) := hm.truth ha
  have eb : h 14 b = nI (mTruth m b) := hm.truth hb
  unfold clsS
  cases ca : (mSet m).testBit a with
  | true =>
    have e1 : stB m a = 1 := by unfold stB; rw [ca]; rfl
    simp (disch := omega) only [R_102_16, R_102_53, R_102_57, R_102_33, R_102_18, R_102_13, R_102_8, R_102_5, R_102_0, S_102, gd_t, bI_, bV_, bR_, and_self, and_true, true_and, ↓reduceIte, eq_self, oj_84, bI_1, bI_0, L0, L1, L3, le_t, le_f, lt_t, lt_f, eq_t, eq_f, ncl, nI_add, nmul, nsub, ndiv, nrem, nrem', nrN, oj_13, s_15 mo13 hm, e1]
    rfl
  | false =>
    have e1 : stB m a = 0 := by unfold stB; rw [ca]; rfl
    cases cb : (mSet m).testBit b with
    | true =>
      have e2 : stB m b = 1 := by unfold stB; rw [cb]; rfl
      simp (disch := omega) only [R_102_16, R_102_53, R_102_57, R_102_33, R_102_18, R_102_13, R_102_8, R_102_5, R_102_0, S_102, gd_t, bI_, bV_, bR_, and_self, and_true, true_and, ↓reduceIte, eq_self, oj_84, bI_1, bI_0, L0, L1, L3, le_t, le_f, lt_t, lt_f, eq_t, eq_f, ncl, nI_add, nmul, nsub, ndiv, nrem, nrem', nrN, oj_13, s_15 mo13 hm, e1, e2]
      rfl
    | false =>
      have e2 : stB m b = 0 := by unfold stB; rw [cb]; rfl
      by_cases cp : sPlace s a = sPlace s b
      · simp (disch := omega) only [R_102_16, R_102_53, R_102_57, R_102_33, R_102_18, R_102_13, R_102_8, R_102_5, R_102_0, S_102, gd_t, bI_, bV_, bR_, and_self, and_true, true_and, ↓reduceIte, eq_self, oj_84, bI_1, bI_0, L0, L1, L3, le_t, le_f, lt_t, lt_f, eq_t, eq_f, ncl, nI_add, nmul, nsub, ndiv, nrem, nrem', nrN, oj_13, s_15 mo13 hm, e1, e2, ia_3, hs.place, cp]
        simp [cp, bI]; rfl
      · have cp' : (sPlace s a == sPlace s b) = false := by simpa using cp
        by_cases c3 : mTruth m a - mTruth m b + (mTruth m b - mTruth m a) ≤ 3
        · have e3 : (decide (mTruth m a ≤ mTruth m b + 3) && decide (mTruth m b ≤ mTruth m a + 3)) = true := by simp; omega
          rw [cp', e3]
          simp (disch := omega) only [R_102_16, R_102_53, R_102_57, R_102_33, R_102_18, R_102_13, R_102_8, R_102_5, R_102_0, S_102, gd_t, bI_, bV_, bR_, and_self, and_true, true_and, ↓reduceIte, eq_self, oj_84, bI_1, bI_0, L0, L1, L3, oj_13, s_15 mo13 hm, e1, e2, ncl, ia_3, iaT mo13, hs.place, ea, eb, eq_f, nIsub_abs, lt_f]
          rfl
        · have e3 : (decide (mTruth m a ≤ mTruth m b + 3) && decide (mTruth m b ≤ mTruth m a + 3)) = false := by simp; omega
          rw [cp', e3]
          simp (disch := omega) only [R_102_16, R_102_53, R_102_57, R_102_33, R_102_18, R_102_13, R_102_8, R_102_5, R_102_0, S_102, gd_t, bI_, bV_, bR_, and_self, and_true, true_and, ↓reduceIte, eq_self, oj_84, bI_1, bI_0, L0, L1, L3, oj_13, s_15 mo13 hm, e1, e2, ncl, ia_3, iaT mo13, hs.place, ea, eb, eq_f, nIsub_abs, lt_t]
          rfl
theorem s_243 {h : Hp} {a b : Nat} (ha : a ≤ 99) (hb : b ≤ 99) : S_243 (nI a - nI b) h = some (nI (a - b + (b - a)), h) := by
  rw [← nIsub_abs ha hb]
  by_cases c : nI 0 ≤ nI a - nI b
  · simp only [R_243_9, R_243_4, R_243_0, S_243, gd_t, bI_, bV_, bR_, and_self, and_true, true_and, ↓reduceIte, eq_self, oj_84, bI_1, bI_0, L0, L1, c]
  · simp only [R_243_9, R_243_4, R_243_0, S_243, gd_t, bI_, bV_, bR_, and_self, and_true, true_and, ↓reduceIte, eq_self, oj_84, bI_1, bI_0, L0, L1, c]
    rw [show nI 0 - (nI a - nI b) = -(nI a - nI b) from Int32.zero_sub _]
theorem s_242 {h : Hp} {s : Sg} {m : Mo} (so : SgOk s) (mo : MoOk s m) (q : MdAt (h 85) s m) {a b : Nat} (ha : a < sN s) (hb : b < sN s) : S_242 (nI a) (nI b) h = some (bI (clsS s m a b), h) := by
  have hn := so.1
  have pa := (so.2.1 a ha).2.2
  have pb := (so.2.1 b hb).2.2
  have ta := (mo.1 a ha).1
  have tb := (mo.1 b hb).1
  unfold clsS
  cases ca : (mSet m).testBit a with
  | true =>
    have e1 : stB m a = 1 := by unfold stB; rw [ca]; rfl
    have lb := stB_le m b
    simp (disch := omega) only [R_242_55, R_242_51, R_242_47, R_242_43, R_242_37, R_242_31, R_242_28, R_242_22, R_242_16, R_242_12, R_242_6, R_242_0, S_242, gd_t, bI_, bV_, bR_, and_self, and_true, true_and, ↓reduceIte, eq_self, oj_84, bI_1, bI_0, L0, L1, L3, L4, le_t, le_f, lt_t, lt_f, eq_t, eq_f, ncl, nI_add, nmul, nsub, ndiv, nrem, nrem', nrN, of4 q so, e1]
    rfl
  | false =>
    have e1 : stB m a = 0 := by unfold stB; rw [ca]; rfl
    cases cb : (mSet m).testBit b with
    | true =>
      have e2 : stB m b = 1 := by unfold stB; rw [cb]; rfl
      simp (disch := omega) only [R_242_55, R_242_51, R_242_47, R_242_43, R_242_37, R_242_31, R_242_28, R_242_22, R_242_16, R_242_12, R_242_6, R_242_0, S_242, gd_t, bI_, bV_, bR_, and_self, and_true, true_and, ↓reduceIte, eq_self, oj_84, bI_1, bI_0, L0, L1, L3, L4, le_t, le_f, lt_t, lt_f, eq_t, eq_f, ncl, nI_add, nmul, nsub, ndiv, nrem, nrem', nrN, of4 q so, e1, e2]
      rfl
    | false =>
      have e2 : stB m b = 0 := by unfold stB; rw [cb]; rfl
      by_cases cp : sPlace s a = sPlace s b
      · simp (disch := omega) only [R_242_55, R_242_51, R_242_47, R_242_43, R_242_37, R_242_31, R_242_28, R_242_22, R_242_16, R_242_12, R_242_6, R_242_0, S_242, gd_t, bI_, bV_, bR_, and_self, and_true, true_and, ↓reduceIte, eq_self, oj_84, bI_1, bI_0, L0, L1, L3, L4, le_t, le_f, lt_t, lt_f, eq_t, eq_f, ncl, nI_add, nmul, nsub, ndiv, nrem, nrem', nrN, of4 q so, of3 q so, e1, e2, cp]
        simp [cp, bI]; rfl
      · have cp' : (sPlace s a == sPlace s b) = false := by simpa using cp
        by_cases c3 : mTruth m a - mTruth m b + (mTruth m b - mTruth m a) ≤ 3
        · have e3 : (decide (mTruth m a ≤ mTruth m b + 3) && decide (mTruth m b ≤ mTruth m a + 3)) = true := by simp; omega
          rw [cp', e3]
          simp (disch := omega) only [R_242_55, R_242_51, R_242_47, R_242_43, R_242_37, R_242_31, R_242_28, R_242_22, R_242_16, R_242_12, R_242_6, R_242_0, S_242, gd_t, bI_, bV_, bR_, and_self, and_true, true_and, ↓reduceIte, eq_self, oj_84, bI_1, bI_0, L0, L1, L3, L4, of4 q so, of3 q so, of1 q so, e1, e2, nI_add, eq_t, eq_f, s_243, lt_f]
          rfl
        · have e3 : (decide (mTruth m a ≤ mTruth m b + 3) && decide (mTruth m b ≤ mTruth m a + 3)) = false := by simp; omega
          rw [cp', e3]
          simp (disch := omega) only [R_242_55, R_242_51, R_242_47, R_242_43, R_242_37, R_242_31, R_242_28, R_242_22, R_242_16, R_242_12, R_242_6, R_242_0, S_242, gd_t, bI_, bV_, bR_, and_self, and_true, true_and, ↓reduceIte, eq_self, oj_84, bI_1, bI_0, L0, L1, L3, L4, of4 q so, of3 q so, of1 q so, e1, e2, nI_add, eq_t, eq_f, s_243, lt_t]
          rfl
/-- closed under c, of n -/
def Cl (c : Nat → Nat → Bool) (n S : Nat) : Prop := ∀ i j, i < n → j < n → S.testBit i = true → c i j = true → S.testBit j = true
def Sub (S T : Nat) : Prop := ∀ i, S.testBit i = true → T.testBit i = true
theorem Sub.rf {S : Nat} : Sub S S := fun _ h => h
theorem Sub.tr {S T U : Nat} (a : Sub S T) (b : Sub T U) : Sub S U := fun i h => b i (a i h)
theorem Sub.eq {S T : Nat} (a : Sub S T) (b : Sub T S) : S = T := by
  apply Nat.eq_of_testBit_eq
  intro i
  cases h : S.testBit i with
  | true => rw [a i h]
  | false =>
    cases h2 : T.testBit i with
    | true => rw [b i h2] at h; cases h
    | false => rfl
theorem Sub.or {S T U : Nat} (a : Sub S U) (b : Sub T U) : Sub (S ||| T) U := fun i h => by
  rw [Nat.testBit_or, Bool.or_eq_true] at h
  rcases h with h | h
  · exact a i h
  · exact b i h
theorem Sub.l {S T : Nat} : Sub S (S ||| T) := fun i h => by rw [Nat.testBit_or, h]; rfl
theorem Sub.r {S T : Nat} : Sub T (S ||| T) := fun i h => by rw [Nat.testBit_or, h, Bool.or_true]
theorem bit_lt {S n i : Nat} (h : S < 2 ^ n) (hb : S.testBit i = true) : i < n := by
  rcases Nat.lt_or_ge i n with c | c
  · exact c
  · rw [Nat.testBit_lt_two_pow (Nat.lt_of_lt_of_le h (Nat.pow_le_pow_right (by decide) c))] at hb
    cases hb
theorem ones_lt : ∀ S, S < 64 → ∀ T, T < 64 → S ||| T = T → S ≠ T → onesN S 6 < onesN T 6 := by decide +kernel
theorem ones_all : ∀ n, n < 7 → ∀ S, S < 64 → S < 2 ^ n → n ≤ onesN S 6 → S = 2 ^ n - 1 := by decide +kernel
/-- what a round of looking for neighbours does -/
def StpG (c : Nat → Nat → Bool) (n : Nat) (F : Nat → Nat) : Prop := ∀ S, S < 2 ^ n → F S < 2 ^ n ∧ Sub S (F S) ∧ (F S = S → Cl c n S) ∧ ∀ T, Cl c n T → Sub S T → Sub (F S) T
def itF (F : Nat → Nat) : Nat → Nat → Nat
  | 0, S => S
  | r + 1, S => itF F r (F S)
theorem itF_s (F : Nat → Nat) (r S : Nat) : itF F (r + 1) S = itF F r (F S) := rfl
theorem it_min {c : Nat → Nat → Bool} {n : Nat} {F : Nat → Nat} (hF : StpG c n F) : ∀ (r S : Nat), S < 2 ^ n → itF F r S < 2 ^ n ∧ Sub S (itF F r S) ∧ ∀ T, Cl c n T → Sub S T → Sub (itF F r S) T
  | 0, S, h => ⟨h, Sub.rf, fun _ _ w => w⟩
  | r + 1, S, h => by
    obtain ⟨a1, a2, a3, a4⟩ := hF S h
    obtain ⟨b1, b2, b3⟩ := it_min hF r (F S) a1
    exact ⟨b1, a2.tr b2, fun T hT hS => b3 T hT (a4 T hT hS)⟩
theorem it_fix {c : Nat → Nat → Bool} {n : Nat} {F : Nat → Nat} (hF : StpG c n F) {S : Nat} (h : S < 2 ^ n) (hc : Cl c n S) : ∀ r, itF F r S = S
  | 0 => rfl
  | r + 1 => by
    obtain ⟨a1, a2, a3, a4⟩ := hF S h
    have e : F S = S := Sub.eq (a4 S hc Sub.rf) a2
    rw [itF_s, e]
    exact it_fix hF h hc r
theorem all_bit {n i : Nat} (h : i < n) : (2 ^ n - 1).testBit i = true := by rw [Nat.testBit_two_pow_sub_one]; exact decide_eq_true h
theorem it_cl {c : Nat → Nat → Bool} {n : Nat} {F : Nat → Nat} (hF : StpG c n F) (hn : n ≤ 6) : ∀ (r S : Nat), S < 2 ^ n → n ≤ onesN S 6 + r → Cl c n (itF F r S)
  | 0, S, h, ho => by
    have e := ones_all n (by omega) S (p64 h hn) h (by omega)
    intro i j _ hj _ _
    show S.testBit j = true
    rw [e]
    exact all_bit hj
  | r + 1, S, h, ho => by
    obtain ⟨a1, a2, a3, a4⟩ := hF S h
    by_cases e : F S = S
    · rw [it_fix hF h (a3 e)]
      exact a3 e
    · rw [itF_s]
      refine it_cl hF hn r (F S) a1 ?_
      have := ones_lt S (p64 h hn) (F S) (p64 a1 hn) (Sub.eq (Sub.or a2 Sub.rf) Sub.r) (fun q => e q.symm)
      omega
/-- two ways of rounds come to the same -/
theorem it_same {c : Nat → Nat → Bool} {n : Nat} {F G : Nat → Nat} (hF : StpG c n F) (hG : StpG c n G) (hn : n ≤ 6) {S r t : Nat} (h : S < 2 ^ n) (hr : n ≤ onesN S 6 + r) (ht : n ≤ onesN S 6 + t) : itF F r S = itF G t S := by
  obtain ⟨a1, a2, a3⟩ := it_min hF r S h
  obtain ⟨b1, b2, b3⟩ := it_min hG t S h
  exact Sub.eq (a3 _ (it_cl hG hn t S h ht) b2) (b3 _ (it_cl hF hn r S h hr) a2)
/-- neighbours of i among the first j -/
def nbR (c : Nat → Nat → Bool) (i : Nat) : Nat → Nat
  | 0 => 0
  | j + 1 => nbR c i j ||| (if c i j then 2 ^ j else 0)
theorem nbR_s (c : Nat → Nat → Bool) (i j : Nat) : nbR c i (j + 1) = nbR c i j ||| (if c i j then 2 ^ j else 0) := rfl
theorem nbR_lt (c : Nat → Nat → Bool) (i : Nat) : ∀ j, nbR c i j < 2 ^ j
  | 0 => Nat.two_pow_pos 0
  | j + 1 => by
    rw [nbR_s]
    refine Nat.or_lt_two_pow (Nat.lt_of_lt_of_le (nbR_lt c i j) (Nat.pow_le_pow_right (by decide) (by omega))) ?_
    split
    · exact Nat.pow_lt_pow_right (by decide) (by omega)
    · exact Nat.two_pow_pos _
theorem nbR_bit (c : Nat → Nat → Bool) (i : Nat) : ∀ j k, (nbR c i j).testBit k = (decide (k < j) && c i k)
  | 0, k => by
    show (0 : Nat).testBit k = _
    rw [Nat.zero_testBit]
    simp
  | j + 1, k => by
    rw [nbR_s, Nat.testBit_or, nbR_bit c i j k]
    by_cases e : k = j
    · subst e
      cases hc : c i k <;> simp [Nat.testBit_two_pow_self]
    · have e' : ¬ j = k := fun q => e q.symm
      have hz : (if c i j then 2 ^ j else 0).testBit k = false := by
        split
        · rw [Nat.testBit_two_pow]; simpa using e'
        · exact Nat.zero_testBit k
      rw [hz, Bool.or_false]
      by_cases hk : k < j
      · rw [decide_eq_true hk, decide_eq_true (by omega)]
      · rw [decide_eq_false hk, decide_eq_false (by omega)]
/-- the class's round: neighbours of the members of S among the first i -/
def nbC (c : Nat → Nat → Bool) (n S : Nat) : Nat → Nat
  | 0 => 0
  | i + 1 => nbC c n S i ||| (if S.testBit i then nbR c i n else 0)
theorem nbC_s (c : Nat → Nat → Bool) (n S i : Nat) : nbC c n S (i + 1) = nbC c n S i ||| (if S.testBit i then nbR c i n else 0) := rfl
theorem nbC_lt (c : Nat → Nat → Bool) (n S : Nat) : ∀ i, nbC c n S i < 2 ^ n
  | 0 => Nat.two_pow_pos n
  | i + 1 => by
    rw [nbC_s]
    refine Nat.or_lt_two_pow (nbC_lt c n S i) ?_
    split
    · exact nbR_lt c i n
    · exact Nat.two_pow_pos _
def FC (c : Nat → Nat → Bool) (n S : Nat) : Nat := S ||| nbC c n S n
theorem FC_stp (c : Nat → Nat → Bool) (n : Nat) : StpG c n (FC c n) := by
  intro S h
  refine ⟨Nat.or_lt_two_pow h (nbC_lt c n S n), Sub.l, fun e i j hi hj hb hc => ?_, fun T hT hS => hS.or ?_⟩
  · have key : ∀ k, i < k → (nbC c n S k).testBit j = true := by
      intro k
      induction k with
      | zero => intro q; omega
      | succ k ih =>
        intro q
        rw [nbC_s, Nat.testBit_or]
        by_cases ek : i = k
        · subst ek
          rw [if_pos hb, nbR_bit, decide_eq_true hj, hc]
          exact Bool.or_true _
        · rw [ih (by omega)]
          rfl
    rw [← e]
    exact Sub.r j (key n hi)
  · have key : ∀ k, k ≤ n → Sub (nbC c n S k) T := by
      intro k
      induction k with
      | zero => intro _ i hi; rw [show nbC c n S 0 = 0 from rfl, Nat.zero_testBit] at hi; cases hi
      | succ k ih =>
        intro hk
        rw [nbC_s]
        refine (ih (by omega)).or ?_
        by_cases hb : S.testBit k = true
        · rw [if_pos hb]
          intro j hj
          rw [nbR_bit, Bool.and_eq_true] at hj
          exact hT k j (by omega) (of_decide_eq_true hj.1) (hS k hb) hj.2
        · rw [if_neg hb]
          intro j hj
          rw [Nat.zero_testBit] at hj
          cases hj
    exact key n (Nat.le_refl n)
/-- the model's round, in place -/
def inR (c : Nat → Nat → Bool) (a : Nat) : Nat → Nat → Nat → Nat
  | 0, _, S => S
  | j + 1, b, S => inR c a j (b + 1) (S ||| (if S.testBit a && c a b then 2 ^ b else 0))
def inC (c : Nat → Nat → Bool) (n : Nat) : Nat → Nat → Nat → Nat
  | 0, _, S => S
  | j + 1, a, S => inC c n j (a + 1) (inR c a n 0 S)
def FM (c : Nat → Nat → Bool) (n S : Nat) : Nat := inC c n n 0 S
theorem inR_s (c : Nat → Nat → Bool) (a j b S : Nat) : inR c a (j + 1) b S = inR c a j (b + 1) (S ||| (if S.testBit a && c a b then 2 ^ b else 0)) := rfl
theorem inC_s (c : Nat → Nat → Bool) (n j a S : Nat) : inC c n (j + 1) a S = inC c n j (a + 1) (inR c a n 0 S) := rfl
theorem inR_p (c : Nat → Nat → Bool) {n a : Nat} (ha : a < n) : ∀ (j b S : Nat), b + j = n → S < 2 ^ n → inR c a j b S < 2 ^ n ∧ Sub S (inR c a j b S) ∧ (∀ k, b ≤ k → k < n → S.testBit a = true → c a k = true → (inR c a j b S).testBit k = true) ∧ ∀ T, Cl c n T → Sub S T → Sub (inR c a j b S) T
  | 0, b, S, hb, h => ⟨h, Sub.rf, fun k h1 h2 _ _ => by omega, fun _ _ w => w⟩
  | j + 1, b, S, hb, h => by
    have hlt : S ||| (if S.testBit a && c a b then 2 ^ b else 0) < 2 ^ n := by
      refine Nat.or_lt_two_pow h ?_
      split
      · exact Nat.pow_lt_pow_right (by decide) (by omega)
      · exact Nat.two_pow_pos _
    obtain ⟨r1, r2, r3, r4⟩ := inR_p c ha j (b + 1) _ (by omega) hlt
    rw [inR_s]
    refine ⟨r1, Sub.l.tr r2, fun k h1 h2 hb1 hc => ?_, fun T hT hS => r4 T hT (hS.or ?_)⟩
    · by_cases ek : k = b
      · subst ek
        refine r2 k ?_
        rw [hb1, hc]
        exact Sub.r k (Nat.testBit_two_pow_self)
      · exact r3 k (by omega) h2 (Sub.l a hb1) hc
    · intro i hi
      by_cases hq : (S.testBit a && c a b) = true
      · rw [if_pos hq, Nat.testBit_two_pow] at hi
        have ei := of_decide_eq_true hi
        subst ei
        rw [Bool.and_eq_true] at hq
        exact hT a b ha (by omega) (hS a hq.1) hq.2
      · rw [if_neg hq, Nat.zero_testBit] at hi
        cases hi
theorem inC_p (c : Nat → Nat → Bool) {n : Nat} : ∀ (j a S : Nat), a + j = n → S < 2 ^ n → inC c n j a S < 2 ^ n ∧ Sub S (inC c n j a S) ∧ (∀ i k, a ≤ i → i < n → k < n → S.testBit i = true → c i k = true → (inC c n j a S).testBit k = true) ∧ ∀ T, Cl c n T → Sub S T → Sub (inC c n j a S) T
  | 0, a, S, hb, h => ⟨h, Sub.rf, fun i k h1 h2 _ _ => by omega, fun _ _ w => w⟩
  | j + 1, a, S, hb, h => by
    obtain ⟨p1, p2, p3, p4⟩ := inR_p c (show a < n by omega) n 0 S (by omega) h
    obtain ⟨r1, r2, r3, r4⟩ := inC_p c j (a + 1) _ (by omega) p1
    rw [inC_s]
    refine ⟨r1, p2.tr r2, fun i k h1 h2 h3 hb1 hc => ?_, fun T hT hS => r4 T hT (p4 T hT hS)⟩
    by_cases ei : i = a
    · subst ei
      exact r2 k (p3 k (Nat.zero_le _) h3 hb1 hc)
    · exact r3 i k (by omega) h2 h3 (p2 i hb1) hc
theorem FM_stp (c : Nat → Nat → Bool) (n : Nat) : StpG c n (FM c n) := by
  intro S h
  obtain ⟨a1, a2, a3, a4⟩ := inC_p c n 0 S (by omega) h
  exact ⟨a1, a2, fun e i j hi hj hb hc => by
    have := a3 i j (Nat.zero_le _) hi hj hb hc
    rwa [show inC c n n 0 S = S from e] at this, a4⟩
