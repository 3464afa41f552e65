/-! part 73: strands of class and model -/
def strS (s : Sg) (m : Mo) (k : Nat) : Nat := if (mSet m).testBit k then 0 else itF (FC (clsS s m) (sN s)) (sN s - 1) (2 ^ k)
theorem s_101 {h : Hp} {s : Sg} {m : Mo} (so : SgOk s) (mo : MoOk s m) (hs : SgAt h s) (hm : MoAt h 13 s m) {S : Nat} (hS : S < 2 ^ sN s) : S_101 (nI S) h = some (nI (nbC (clsS s m) (sN s) S (sN s)), h) := by
  have hn := so.1
  have hS6 := p64 hS hn
  have inner : ∀ (rec : Int32 → Int32 → Int32 → Hp → Option (Int32 × Hp)) (A i : Nat), A < 64 → i < sN s → ∀ (j b fu : Nat), b + j = sN s → j < fu → H_101_29 rec fu (nI S) (nI (A ||| nbR (clsS s m) i b)) (nI i) (nI b) h = R_101_71 rec (nI S) (nI (A ||| nbR (clsS s m) i (sN s))) (nI i) h := by
    intro rec A i hA hi j
    induction j with
    | zero =>
      intro b fu e hf
      obtain ⟨fu, rfl⟩ : ∃ p, fu = p + 1 := ⟨fu - 1, by omega⟩
      have eb : b = sN s := by omega
      simp (disch := omega) only [H_101_29, R_101_29, gd_t, bI_, bV_, bR_, and_self, and_true, true_and, ↓reduceIte, eq_self, oj_84, bI_1, bI_0, L0, L1, L7, L13, L31, le_t, le_f, lt_t, lt_f, eq_t, eq_f, ncl, nI_add, nmul, nsub, ndiv, nrem, nrem', nrN, hs.n, eb]
    | succ j ih =>
      intro b fu e hf
      obtain ⟨fu, rfl⟩ : ∃ p, fu = p + 1 := ⟨fu - 1, by omega⟩
      have nx := ih (b + 1) fu (by omega) (by omega)
      have hr := p64 (nbR_lt (clsS s m) i b) (by omega)
      have hAr : A ||| nbR (clsS s m) i b < 64 := Nat.or_lt_two_pow (n := 6) hA hr
      have hb2 := p2_64 (k := b) (by omega)
      have g := s_102 so mo hs hm hi (show b < sN s by omega)
      rw [nbR_s, ← Nat.or_assoc] at nx
      cases c : clsS s m i b with
      | true =>
        rw [c] at g nx
        simp (disch := omega) only [H_101_29, R_101_29, R_101_41, R_101_55, R_101_58, gd_t, bI_, bV_, bR_, and_self, and_true, true_and, ↓reduceIte, eq_self, oj_84, bI_1, bI_0, L0, L1, L7, L13, L31, le_t, le_f, lt_t, lt_f, eq_t, eq_f, ncl, nI_add, nmul, nsub, ndiv, nrem, nrem', nrN, hs.n, g, nbit', nor']
        exact nx
      | false =>
        rw [c] at g nx
        rw [if_neg (by decide), Nat.or_zero] at nx
        simp (disch := omega) only [H_101_29, R_101_29, R_101_41, R_101_55, R_101_65, gd_t, bI_, bV_, bR_, and_self, and_true, true_and, ↓reduceIte, eq_self, oj_84, bI_1, bI_0, L0, L1, L7, L13, L31, le_t, le_f, lt_t, lt_f, eq_t, eq_f, ncl, nI_add, nmul, nsub, ndiv, nrem, nrem', nrN, hs.n, g]
        exact nx
  have loop : ∀ (j i fu : Nat), i + j = sN s → j < fu → H_101_4 fu (nI S) (nI (nbC (clsS s m) (sN s) S i)) (nI i) h = some (nI (nbC (clsS s m) (sN s) S (sN s)), h) := by
    intro j
    induction j with
    | zero =>
      intro i fu e hf
      obtain ⟨fu, rfl⟩ : ∃ p, fu = p + 1 := ⟨fu - 1, by omega⟩
      have ei : i = sN s := by omega
      simp (disch := omega) only [H_101_4, R_101_4, R_101_77, gd_t, bI_, bV_, bR_, and_self, and_true, true_and, ↓reduceIte, eq_self, oj_84, bI_1, bI_0, L0, L1, L7, L13, L31, le_t, le_f, lt_t, lt_f, eq_t, eq_f, ncl, nI_add, nmul, nsub, ndiv, nrem, nrem', nrN, hs.n, ei]
    | succ j ih =>
      intro i fu e hf
      obtain ⟨fu, rfl⟩ : ∃ p, fu = p + 1 := ⟨fu - 1, by omega⟩
      have nx := ih (i + 1) fu (by omega) (by omega)
      rw [nbC_s] at nx
      have hA := p64 (nbC_lt (clsS s m) (sN s) S i) hn
      cases c : S.testBit i with
      | true =>
        have gi := inner (H_101_4 fu) (nbC (clsS s m) (sN s) S i) i hA (by omega) (sN s) 0 fuL (by omega) (fuL_gt (by omega))
        rw [show nbR (clsS s m) i 0 = 0 from rfl, Nat.or_zero] at gi
        rw [c, if_pos rfl] at nx
        simp (disch := omega) only [H_101_4, R_101_4, R_101_15, R_101_26, gd_t, bI_, bV_, bR_, and_self, and_true, true_and, ↓reduceIte, eq_self, oj_84, bI_1, bI_0, L0, L1, L7, L13, L31, le_t, le_f, lt_t, lt_f, eq_t, eq_f, ncl, nI_add, nmul, nsub, ndiv, nrem, nrem', nrN, hs.n, nset', c, Bool.toNat_true, gi, R_101_71]
        exact nx
      | false =>
        rw [c, if_neg (by decide), Nat.or_zero] at nx
        simp (disch := omega) only [H_101_4, R_101_4, R_101_15, R_101_23, gd_t, bI_, bV_, bR_, and_self, and_true, true_and, ↓reduceIte, eq_self, oj_84, bI_1, bI_0, L0, L1, L7, L13, L31, le_t, le_f, lt_t, lt_f, eq_t, eq_f, ncl, nI_add, nmul, nsub, ndiv, nrem, nrem', nrN, hs.n, nset', c, Bool.toNat_false]
        exact nx
  have g := loop (sN s) 0 fuL (by omega) (fuL_gt (by omega))
  simp (disch := omega) only [S_101, R_101_0, gd_t, bI_, bV_, bR_, and_self, and_true, true_and, ↓reduceIte, eq_self, oj_84, bI_1, bI_0, L0, L1, L7, L13, L31, le_t, le_f, lt_t, lt_f, eq_t, eq_f, ncl, nI_add, nmul, nsub, ndiv, nrem, nrem', nrN]
  exact g
theorem s_100 {h : Hp} {s : Sg} {m : Mo} (so : SgOk s) (mo : MoOk s m) (hs : SgAt h s) (hm : MoAt h 13 s m) {k : Nat} (hk : k < sN s) : S_100 (nI k) h = some (nI (strS s m k), h) := by
  have hn := so.1
  have hset := mo.set so
  unfold strS
  cases ck : (mSet m).testBit k with
  | true =>
    have e1 : stB m k = 1 := by unfold stB; rw [ck]; rfl
    simp (disch := omega) only [R_100_44, R_100_36, R_100_30, R_100_19, R_100_13, R_100_11, R_100_8, R_100_0, S_100, gd_t, bI_, bV_, bR_, and_self, and_true, true_and, ↓reduceIte, eq_self, oj_84, bI_1, bI_0, L0, L1, L7, L13, L31, le_t, le_f, lt_t, lt_f, eq_t, eq_f, ncl, nI_add, nmul, nsub, ndiv, nrem, nrem', nrN, s_15 mo13 hm, e1, if_true]
  | false =>
    have e1 : stB m k = 0 := by unfold stB; rw [ck]; rfl
    have loop : ∀ (j r S fu : Nat), r + j = sN s → j < fu → S < 2 ^ sN s → H_100_19 fu (nI S) (nI r) h = some (nI (itF (FC (clsS s m) (sN s)) j S), h) := by
      intro j
      induction j with
      | zero =>
        intro r S fu e hf hS
        obtain ⟨fu, rfl⟩ : ∃ p, fu = p + 1 := ⟨fu - 1, by omega⟩
        have er : r = sN s := by omega
        simp (disch := omega) only [H_100_19, R_100_44, R_100_36, R_100_30, R_100_19, R_100_13, R_100_11, R_100_8, R_100_0, S_100, gd_t, bI_, bV_, bR_, and_self, and_true, true_and, ↓reduceIte, eq_self, oj_84, bI_1, bI_0, L0, L1, L7, L13, L31, le_t, le_f, lt_t, lt_f, eq_t, eq_f, ncl, nI_add, nmul, nsub, ndiv, nrem, nrem', nrN, hs.n, er]
        rfl
      | succ j ih =>
        intro r S fu e hf hS
        obtain ⟨fu, rfl⟩ : ∃ p, fu = p + 1 := ⟨fu - 1, by omega⟩
        have hnb := nbC_lt (clsS s m) (sN s) S (sN s)
        have nx := ih (r + 1) (FC (clsS s m) (sN s) S) fu (by omega) (by omega) (Nat.or_lt_two_pow hS hnb)
        have h1 := p64 hS hn
        have h2 := p64 hnb hn
        rw [itF_s]
        simp (disch := omega) only [H_100_19, R_100_44, R_100_36, R_100_30, R_100_19, R_100_13, R_100_11, R_100_8, R_100_0, S_100, gd_t, bI_, bV_, bR_, and_self, and_true, true_and, ↓reduceIte, eq_self, oj_84, bI_1, bI_0, L0, L1, L7, L13, L31, le_t, le_f, lt_t, lt_f, eq_t, eq_f, ncl, nI_add, nmul, nsub, ndiv, nrem, nrem', nrN, hs.n, s_101 so mo hs hm hS, nor']
        exact nx
    have g := loop (sN s - 1) 1 (2 ^ k) fuL (by omega) (fuL_gt (by omega)) (Nat.pow_lt_pow_right (by decide) hk)
    simp (disch := omega) only [R_100_44, R_100_36, R_100_30, R_100_19, R_100_13, R_100_11, R_100_8, R_100_0, S_100, gd_t, bI_, bV_, bR_, and_self, and_true, true_and, ↓reduceIte, eq_self, oj_84, bI_1, bI_0, L0, L1, L7, L13, L31, le_t, le_f, lt_t, lt_f, eq_t, eq_f, ncl, nI_add, nmul, nsub, ndiv, nrem, nrem', nrN, s_15 mo13 hm, e1, nbit']
    exact g
theorem s_241 {h : Hp} {s : Sg} {m : Mo} (so : SgOk s) (mo : MoOk s m) (q : MdAt (h 85) s m) {k : Nat} (hk : k < sN s) : S_241 (nI k) h = some (nI (strS s m k), h) := by
  have hn := so.1
  have inner : ∀ (r20 : Int32 → Int32 → Hp → Option (Int32 × Hp)) (r29 : Int32 → Int32 → Int32 → Hp → Option (Int32 × Hp)) (a t : Nat), a < sN s → ∀ (j b S fu : Nat), b + j = sN s → j < fu → S < 2 ^ sN s → H_241_43 r20 r29 fu (nI S) (nI t) (nI a) (nI b) h = R_241_92 r20 r29 (nI (inR (clsS s m) a j b S)) (nI t) (nI a) h := by
    intro r20 r29 a t ha j
    induction j with
    | zero =>
      intro b S fu e hf hS
      obtain ⟨fu, rfl⟩ : ∃ p, fu = p + 1 := ⟨fu - 1, by omega⟩
      have eb : b = sN s := by omega
      simp (disch := omega) only [H_241_43, R_241_43, gd_t, bI_, bV_, bR_, and_self, and_true, true_and, ↓reduceIte, eq_self, oj_84, bI_1, bI_0, L0, L1, L4, L6, L31, L85, le_t, le_f, lt_t, lt_f, eq_t, eq_f, ncl, nI_add, nmul, nsub, ndiv, nrem, nrem', nrN, ia_85, q.n, eb]
      rfl
    | succ j ih =>
      intro b S fu e hf hS
      obtain ⟨fu, rfl⟩ : ∃ p, fu = p + 1 := ⟨fu - 1, by omega⟩
      have hb : b < sN s := by omega
      have hS6 := p64 hS hn
      have hb2 := p2_64 (k := b) (by omega)
      have hb3 : 2 ^ b < 2 ^ sN s := Nat.pow_lt_pow_right (by decide) hb
      have g := s_242 so mo q ha hb
      rw [inR_s]
      cases cb : S.testBit a with
      | true =>
        cases c : clsS s m a b with
        | true =>
          have nx := ih (b + 1) (S ||| 2 ^ b) fu (by omega) (by omega) (Nat.or_lt_two_pow hS hb3)
          rw [c] at g
          simp (disch := omega) only [H_241_43, R_241_43, R_241_54, R_241_65, R_241_73, R_241_76, gd_t, bI_, bV_, bR_, and_self, and_true, true_and, ↓reduceIte, eq_self, oj_84, bI_1, bI_0, L0, L1, L4, L6, L31, L85, le_t, le_f, lt_t, lt_f, eq_t, eq_f, ncl, nI_add, nmul, nsub, ndiv, nrem, nrem', nrN, ia_85, q.n, nset', cb, Bool.toNat_true, g, nbit', nor', Bool.and_self, if_true]
          exact nx
        | false =>
          have nx := ih (b + 1) S fu (by omega) (by omega) hS
          rw [c] at g
          simp (disch := omega) only [H_241_43, R_241_43, R_241_54, R_241_65, R_241_73, R_241_83, gd_t, bI_, bV_, bR_, and_self, and_true, true_and, ↓reduceIte, eq_self, oj_84, bI_1, bI_0, L0, L1, L4, L6, L31, L85, le_t, le_f, lt_t, lt_f, eq_t, eq_f, ncl, nI_add, nmul, nsub, ndiv, nrem, nrem', nrN, ia_85, q.n, nset', cb, Bool.toNat_true, g, nor', Bool.and_false, Bool.false_eq_true, Nat.or_zero]
          exact nx
      | false =>
        have nx := ih (b + 1) S fu (by omega) (by omega) hS
        simp (disch := omega) only [H_241_43, R_241_43, R_241_54, R_241_83, gd_t, bI_, bV_, bR_, and_self, and_true, true_and, ↓reduceIte, eq_self, oj_84, bI_1, bI_0, L0, L1, L4, L6, L31, L85, le_t, le_f, lt_t, lt_f, eq_t, eq_f, ncl, nI_add, nmul, nsub, ndiv, nrem, nrem', nrN, ia_85, q.n, nset', cb, Bool.toNat_false, nor', Bool.false_and, Bool.false_eq_true, Nat.or_zero]
        exact nx
  have mid : ∀ (r20 : Int32 → Int32 → Hp → Option (Int32 × Hp)) (t : Nat), ∀ (j a S fu : Nat), a + j = sN s → j < fu → S < 2 ^ sN s → H_241_29 r20 fu (nI S) (nI t) (nI a) h = R_241_98 r20 (nI (inC (clsS s m) (sN s) j a S)) (nI t) h := by
    intro r20 t j
    induction j with
    | zero =>
      intro a S fu e hf hS
      obtain ⟨fu, rfl⟩ : ∃ p, fu = p + 1 := ⟨fu - 1, by omega⟩
      have ea : a = sN s := by omega
      simp (disch := omega) only [H_241_29, R_241_29, gd_t, bI_, bV_, bR_, and_self, and_true, true_and, ↓reduceIte, eq_self, oj_84, bI_1, bI_0, L0, L1, L4, L6, L31, L85, le_t, le_f, lt_t, lt_f, eq_t, eq_f, ncl, nI_add, nmul, nsub, ndiv, nrem, nrem', nrN, ia_85, q.n, ea]
      rfl
    | succ j ih =>
      intro a S fu e hf hS
      obtain ⟨fu, rfl⟩ : ∃ p, fu = p + 1 := ⟨fu - 1, by omega⟩
      have ha : a < sN s := by omega
      have gi := inner r20 (H_241_29 r20 fu) a t ha (sN s) 0 S fuL (by omega) (fuL_gt (by omega)) hS
      have nx := ih (a + 1) _ fu (by omega) (by omega) (inR_p (clsS s m) ha (sN s) 0 S (by omega) hS).1
      rw [inC_s]
      simp (disch := omega) only [H_241_29, R_241_29, R_241_40, gd_t, bI_, bV_, bR_, and_self, and_true, true_and, ↓reduceIte, eq_self, oj_84, bI_1, bI_0, L0, L1, L4, L6, L31, L85, le_t, le_f, lt_t, lt_f, eq_t, eq_f, ncl, nI_add, nmul, nsub, ndiv, nrem, nrem', nrN, ia_85, q.n, gi, R_241_92]
      exact nx
  have loop : ∀ (j t S fu : Nat), t + j = 6 → j < fu → S < 2 ^ sN s → H_241_20 fu (nI S) (nI t) h = some (nI (itF (FM (clsS s m) (sN s)) j S), h) := by
    intro j
    induction j with
    | zero =>
      intro t S fu e hf hS
      obtain ⟨fu, rfl⟩ : ∃ p, fu = p + 1 := ⟨fu - 1, by omega⟩
      have et : t = 6 := by omega
      simp (disch := omega) only [H_241_20, R_241_20, R_241_104, gd_t, bI_, bV_, bR_, and_self, and_true, true_and, ↓reduceIte, eq_self, oj_84, bI_1, bI_0, L0, L1, L4, L6, L31, L85, le_t, le_f, lt_t, lt_f, eq_t, eq_f, ncl, nI_add, nmul, nsub, ndiv, nrem, nrem', nrN, et]
      rfl
    | succ j ih =>
      intro t S fu e hf hS
      obtain ⟨fu, rfl⟩ : ∃ p, fu = p + 1 := ⟨fu - 1, by omega⟩
      have gi := mid (H_241_20 fu) t (sN s) 0 S fuL (by omega) (fuL_gt (by omega)) hS
      have nx := ih (t + 1) (FM (clsS s m) (sN s) S) fu (by omega) (by omega) (FM_stp (clsS s m) (sN s) S hS).1
      rw [itF_s]
      simp (disch := omega) only [H_241_20, R_241_20, R_241_26, gd_t, bI_, bV_, bR_, and_self, and_true, true_and, ↓reduceIte, eq_self, oj_84, bI_1, bI_0, L0, L1, L4, L6, L31, L85, le_t, le_f, lt_t, lt_f, eq_t, eq_f, ncl, nI_add, nmul, nsub, ndiv, nrem, nrem', nrN, gi, R_241_98]
      exact nx
  have h2k : 2 ^ k < 2 ^ sN s := Nat.pow_lt_pow_right (by decide) hk
  have ho1 : ∀ k, k < 6 → onesN (2 ^ k) 6 = 1 := by decide +kernel
  have ho := ho1 k (by omega)
  unfold strS
  cases ck : (mSet m).testBit k with
  | true =>
    have e1 : stB m k = 1 := by unfold stB; rw [ck]; rfl
    have g := loop 6 0 0 fuL (by omega) (fuL_gt (by omega)) (Nat.two_pow_pos _)
    rw [it_fix (FM_stp (clsS s m) (sN s)) (Nat.two_pow_pos _) (fun i j _ _ hb _ => by rw [Nat.zero_testBit] at hb; cases hb)] at g
    simp (disch := omega) only [S_241, R_241_0, R_241_6, R_241_10, gd_t, bI_, bV_, bR_, and_self, and_true, true_and, ↓reduceIte, eq_self, oj_84, bI_1, bI_0, L0, L1, L4, L6, L31, L85, le_t, le_f, lt_t, lt_f, eq_t, eq_f, ncl, nI_add, nmul, nsub, ndiv, nrem, nrem', nrN, of4 q so, e1, if_true]
    exact g
  | false =>
    have e1 : stB m k = 0 := by unfold stB; rw [ck]; rfl
    have g := loop 6 0 (2 ^ k) fuL (by omega) (fuL_gt (by omega)) h2k
    rw [it_same (FM_stp (clsS s m) (sN s)) (FC_stp (clsS s m) (sN s)) hn (r := 6) (t := sN s - 1) h2k (by omega) (by omega)] at g
    simp (disch := omega) only [S_241, R_241_0, R_241_6, R_241_14, gd_t, bI_, bV_, bR_, and_self, and_true, true_and, ↓reduceIte, eq_self, oj_84, bI_1, bI_0, L0, L1, L4, L6, L31, L85, le_t, le_f, lt_t, lt_f, eq_t, eq_f, ncl, nI_add, nmul, nsub, ndiv, nrem, nrem', nrN, of4 q so, e1, nbit']
    exact g
theorem cls_un {s : Sg} {m : Mo} {a b : Nat} (h : clsS s m a b = true) : (mSet m).testBit a = false ∧ (mSet m).testBit b = false := by
  unfold clsS at h
  cases ca : (mSet m).testBit a <;> cases cb : (mSet m).testBit b <;> rw [ca, cb] at h <;> first | exact ⟨rfl, rfl⟩ | (simp at h)
theorem strS_p {s : Sg} {m : Mo} (so : SgOk s) {k : Nat} (hk : k < sN s) : strS s m k < 2 ^ sN s ∧ Cl (clsS s m) (sN s) (strS s m k) ∧ ((mSet m).testBit k = false → (strS s m k).testBit k = true) ∧ (∀ T, Cl (clsS s m) (sN s) T → T.testBit k = true → Sub (strS s m k) T) ∧ ∀ i, (strS s m k).testBit i = true → (mSet m).testBit i = false := by
  have hn := so.1
  have h2k : 2 ^ k < 2 ^ sN s := Nat.pow_lt_pow_right (by decide) hk
  have ho1 : ∀ k, k < 6 → onesN (2 ^ k) 6 = 1 := by decide +kernel
  have ho := ho1 k (by omega)
  unfold strS
  cases ck : (mSet m).testBit k with
  | true =>
    rw [if_pos rfl]
    exact ⟨Nat.two_pow_pos _, fun i j _ _ hb _ => (by rw [Nat.zero_testBit] at hb; cases hb), fun w => (by cases w), fun T _ _ i hi => (by rw [Nat.zero_testBit] at hi; cases hi), fun i hi => (by rw [Nat.zero_testBit] at hi; cases hi)⟩
  | false =>
    rw [if_neg (by decide)]
    obtain ⟨a1, a2, a3⟩ := it_min (FC_stp (clsS s m) (sN s)) (sN s - 1) (2 ^ k) h2k
    have hk2 : ∀ T : Nat, T.testBit k = true → Sub (2 ^ k) T := fun T hT i hi => by
      rw [Nat.testBit_two_pow] at hi
      rw [← of_decide_eq_true hi]
      exact hT
    refine ⟨a1, it_cl (FC_stp (clsS s m) (sN s)) hn _ _ h2k (by omega), fun _ => a2 k Nat.testBit_two_pow_self, fun T hT hk => a3 T hT (hk2 T hk), fun i hi => ?_⟩
    have hu := a3 ((2 ^ sN s - 1) ^^^ (mSet m &&& (2 ^ sN s - 1))) (fun i j hi hj hb hc => by
      obtain ⟨c1, c2⟩ := cls_un hc
      rw [Nat.testBit_xor, Nat.testBit_and, all_bit hj, c2]
      rfl) (hk2 _ (by rw [Nat.testBit_xor, Nat.testBit_and, all_bit hk, ck]; rfl)) i hi
    have hi' := bit_lt a1 hi
    rw [Nat.testBit_xor, Nat.testBit_and, all_bit hi'] at hu
    cases hz : (mSet m).testBit i with
    | true => rw [hz] at hu; cases hu
    | false => rfl
def cntF (s : Sg) (m : Mo) : Nat → Nat → Nat → Nat → Nat
  | 0, _, _, c => c
  | j + 1, k, U, c => cntF s m j (k + 1) (U ||| strS s m k) (if !(mSet m).testBit k && !U.testBit k then c + 1 else c)
theorem cntF_s (s : Sg) (m : Mo) (j k U c : Nat) : cntF s m (j + 1) k U c = cntF s m j (k + 1) (U ||| strS s m k) (if !(mSet m).testBit k && !U.testBit k then c + 1 else c) := rfl
theorem Cl.or {c : Nat → Nat → Bool} {n S T : Nat} (a : Cl c n S) (b : Cl c n T) : Cl c n (S ||| T) := fun i j hi hj hb hc => by
  rw [Nat.testBit_or, Bool.or_eq_true] at hb ⊢
  rcases hb with hb | hb
  · exact Or.inl (a i j hi hj hb hc)
  · exact Or.inr (b i j hi hj hb hc)
theorem s_99 {h : Hp} {s : Sg} {m : Mo} (so : SgOk s) (mo : MoOk s m) (hs : SgAt h s) (hm : MoAt h 13 s m) : S_99 h = some (nI (cntF s m (sN s) 0 0 0), h) := by
  have hn := so.1
  have hset := mo.set so
  have loop : ∀ (j k U c fu : Nat), k + j = sN s → j < fu → U < 2 ^ sN s → Cl (clsS s m) (sN s) U → H_99_12 fu (nI c) (nI (mSet m ||| U)) (nI k) h = some (nI (cntF s m j k U c), h) := by
    intro j
    induction j with
    | zero =>
      intro k U c fu e hf hU hC
      obtain ⟨fu, rfl⟩ : ∃ p, fu = p + 1 := ⟨fu - 1, by omega⟩
      have ek : k = sN s := by omega
      simp (disch := omega) only [H_99_12, R_99_52, R_99_41, R_99_35, R_99_32, R_99_23, R_99_12, R_99_0, S_99, gd_t, bI_, bV_, bR_, and_self, and_true, true_and, ↓reduceIte, eq_self, oj_84, bI_1, bI_0, L0, L1, L2, L7, L13, L31, le_t, le_f, lt_t, lt_f, eq_t, eq_f, ncl, nI_add, nmul, nsub, ndiv, nrem, nrem', nrN, hs.n, ek]
      rfl
    | succ j ih =>
      intro k U c fu e hf hU hC
      obtain ⟨fu, rfl⟩ : ∃ p, fu = p + 1 := ⟨fu - 1, by omega⟩
      have hk : k < sN s := by omega
      obtain ⟨t1, t2, t3, t4, t5⟩ := strS_p (m := m) so hk
      have hU6 := p64 hU hn
      have ht6 := p64 t1 hn
      have hor : mSet m ||| U < 64 := Nat.or_lt_two_pow (n := 6) hset hU6
      have nx : ∀ c', H_99_12 fu (nI c') (nI (mSet m ||| (U ||| strS s m k))) (nI (k + 1)) h = some (nI (cntF s m j (k + 1) (U ||| strS s m k) c'), h) := fun c' => ih (k + 1) (U ||| strS s m k) c' fu (by omega) (by omega) (Nat.or_lt_two_pow hU t1) (hC.or t2)
      have gs := s_100 so mo hs hm hk
      rw [cntF_s]
      cases ca : (mSet m).testBit k with
      | true =>
        have eb : (mSet m ||| U).testBit k = true := by rw [Nat.testBit_or, ca]; rfl
        have e0 : strS s m k = 0 := by unfold strS; rw [ca]; rfl
        have nx := nx c
        rw [e0, Nat.or_zero] at nx ⊢
        simp (disch := omega) only [H_99_12, R_99_12, R_99_23, R_99_32, gd_t, bI_, bV_, bR_, and_self, and_true, true_and, ↓reduceIte, eq_self, oj_84, bI_1, bI_0, L0, L1, L2, L7, L13, L31, le_t, le_f, lt_t, lt_f, eq_t, eq_f, ncl, nI_add, nmul, nsub, ndiv, nrem, nrem', nrN, hs.n, nset', eb, Bool.toNat_true]
        exact nx
      | false =>
        cases cb : U.testBit k with
        | true =>
          have eb : (mSet m ||| U).testBit k = true := by rw [Nat.testBit_or, cb, Bool.or_true]
          have e0 : U ||| strS s m k = U := Sub.eq (Sub.rf.or (t4 U hC cb)) Sub.l
          have nx := nx c
          rw [e0] at nx ⊢
          simp (disch := omega) only [H_99_12, R_99_12, R_99_23, R_99_32, gd_t, bI_, bV_, bR_, and_self, and_true, true_and, ↓reduceIte, eq_self, oj_84, bI_1, bI_0, L0, L1, L2, L7, L13, L31, le_t, le_f, lt_t, lt_f, eq_t, eq_f, ncl, nI_add, nmul, nsub, ndiv, nrem, nrem', nrN, hs.n, nset', eb, Bool.toNat_true]
          exact nx
        | false =>
          have eb : (mSet m ||| U).testBit k = false := by rw [Nat.testBit_or, ca, cb]; rfl
          have nx := nx (c + 1)
          rw [← Nat.or_assoc] at nx
          simp (disch := omega) only [H_99_12, R_99_12, R_99_23, R_99_35, R_99_41, gd_t, bI_, bV_, bR_, and_self, and_true, true_and, ↓reduceIte, eq_self, oj_84, bI_1, bI_0, L0, L1, L2, L7, L13, L31, le_t, le_f, lt_t, lt_f, eq_t, eq_f, ncl, nI_add, nmul, nsub, ndiv, nrem, nrem', nrN, hs.n, nset', eb, Bool.toNat_false, gs, nor']
          exact nx
  have g := loop (sN s) 0 0 0 fuL (by omega) (fuL_gt (by omega)) (Nat.two_pow_pos _) (fun i j _ _ hb _ => by rw [Nat.zero_testBit] at hb; cases hb)
  rw [Nat.or_zero] at g
  simp (disch := omega) only [R_99_52, R_99_41, R_99_35, R_99_32, R_99_23, R_99_12, R_99_0, S_99, gd_t, bI_, bV_, bR_, and_self, and_true, true_and, ↓reduceIte, eq_self, oj_84, bI_1, bI_0, L0, L1, L2, L7, L13, L31, le_t, le_f, lt_t, lt_f, eq_t, eq_f, ncl, nI_add, nmul, nsub, ndiv, nrem, nrem', nrN, hm.set]
  exact g
theorem p_strands {v : Int32} : Pub (S_98 v) (S_240 v) := by
  intro h I
  obtain ⟨⟨s, m, C⟩, D⟩ := id I
  obtain ⟨so, mo, hs, hm, q, h4⟩ := id C
  have hn := so.1
  have e177 : ∀ v : Int32, S_177 (Int32.toInt64 v) (-1) (Int32.toInt64 (nI (sN s) - nI 1)) h = some (bI (decide (-1 ≤ v.toInt ∧ v.toInt < (sN s : Int))), h) := fun v => by
    rw [s_177, Int32.toInt_toInt64, Int32.toInt_toInt64, pk_sub_toInt (by omega) (by decide), show (-1 : Int64).toInt = -1 from rfl]
    congr 3
    exact decide_eq_decide.mpr ⟨fun w => ⟨w.1, by have := w.2; omega⟩, fun w => ⟨w.1, by have := w.2; omega⟩⟩
  by_cases cm : v = -nI 1
  · subst cm
    have loop : ∀ (j k U c fu : Nat), k + j = sN s → j < fu → U < 2 ^ sN s → H_240_39 fu (nI U) (nI c) (nI k) h = some (nI (cntF s m j k U c), h) := by
      intro j
      induction j with
      | zero =>
        intro k U c fu e hf hU
        obtain ⟨fu, rfl⟩ : ∃ p, fu = p + 1 := ⟨fu - 1, by omega⟩
        have ek : k = sN s := by omega
        simp (disch := omega) only [H_240_39, R_240_92, R_240_84, R_240_74, R_240_70, R_240_61, R_240_58, R_240_50, R_240_39, R_240_32, R_240_31, R_240_26, R_240_22, R_240_20, R_240_17, R_240_0, S_240, gd_t, bI_, bV_, bR_, and_self, and_true, true_and, ↓reduceIte, eq_self, oj_84, bI_1, bI_0, L0, L1, L4, L31, L85, le_t, le_f, lt_t, lt_f, eq_t, eq_f, ncl, nI_add, nmul, nsub, ndiv, nrem, nrem', nrN, ia_85, q.1.n, ek]
        rfl
      | succ j ih =>
        intro k U c fu e hf hU
        obtain ⟨fu, rfl⟩ : ∃ p, fu = p + 1 := ⟨fu - 1, by omega⟩
        have hk : k < sN s := by omega
        obtain ⟨t1, -, -, -, -⟩ := strS_p (m := m) so hk
        have hU6 := p64 hU hn
        have ht6 := p64 t1 hn
        have nx : ∀ c', H_240_39 fu (nI (U ||| strS s m k)) (nI c') (nI (k + 1)) h = some (nI (cntF s m j (k + 1) (U ||| strS s m k) c'), h) := fun c' => ih (k + 1) (U ||| strS s m k) c' fu (by omega) (by omega) (Nat.or_lt_two_pow hU t1)
        have gs := s_241 so mo q.1 hk
        rw [cntF_s]
        cases ca : (mSet m).testBit k with
        | true =>
          have e1 : stB m k = 1 := by unfold stB; rw [ca]; rfl
          simp (disch := omega) only [H_240_39, R_240_39, R_240_50, R_240_58, R_240_74, R_240_84, gd_t, bI_, bV_, bR_, and_self, and_true, true_and, ↓reduceIte, eq_self, oj_84, bI_1, bI_0, L0, L1, L4, L31, L85, le_t, le_f, lt_t, lt_f, eq_t, eq_f, ncl, nI_add, nmul, nsub, ndiv, nrem, nrem', nrN, ia_85, q.1.n, of4 q.1 so, e1, gs, nor', Nat.add_zero]
          exact nx c
        | false =>
          have e1 : stB m k = 0 := by unfold stB; rw [ca]; rfl
          cases cb : U.testBit k with
          | true =>
            simp (disch := omega) only [H_240_39, R_240_39, R_240_50, R_240_58, R_240_61, R_240_74, R_240_84, gd_t, bI_, bV_, bR_, and_self, and_true, true_and, ↓reduceIte, eq_self, oj_84, bI_1, bI_0, L0, L1, L4, L31, L85, le_t, le_f, lt_t, lt_f, eq_t, eq_f, ncl, nI_add, nmul, nsub, ndiv, nrem, nrem', nrN, ia_85, q.1.n, of4 q.1 so, e1, nset', cb, Bool.toNat_true, gs, nor', Nat.add_zero]
            exact nx c
          | false =>
            simp (disch := omega) only [H_240_39, R_240_39, R_240_50, R_240_58, R_240_61, R_240_70, R_240_84, gd_t, bI_, bV_, bR_, and_self, and_true, true_and, ↓reduceIte, eq_self, oj_84, bI_1, bI_0, L0, L1, L4, L31, L85, le_t, le_f, lt_t, lt_f, eq_t, eq_f, ncl, nI_add, nmul, nsub, ndiv, nrem, nrem', nrN, ia_85, q.1.n, of4 q.1 so, e1, nset', cb, Bool.toNat_false, gs, nor']
            exact nx (c + 1)
    have g := loop (sN s) 0 0 0 fuL (by omega) (fuL_gt (by omega)) (Nat.two_pow_pos _)
    have e := e177 (-nI 1)
    rw [decide_eq_true (by refine ⟨by decide, ?_⟩; show (-1 : Int) < _; omega)] at e
    have l0 : (-nI 1 < nI 0) = True := neg_lt (by decide) (by decide)
    have z0 : (nI 0).toNatClampNeg = 0 := rfl
    have e0 : h 85 0 = nI (sN s) := q.1.n
    have ia : IA 85 (nI 0) = True := ia_85 (by decide)
    refine ⟨nI (cntF s m (sN s) 0 0 0), h, h, by simp (disch := omega) only [R_98_26, R_98_23, R_98_18, R_98_15, R_98_10, R_98_9, R_98_5, R_98_0, S_98, gd_t, bI_, bV_, bR_, and_self, and_true, true_and, ↓reduceIte, eq_self, oj_84, bI_1, bI_0, L0, L1, s_99 so mo hs.1 hm], ?_, I⟩
    simp only [S_240, R_240_0, R_240_17, R_240_22, R_240_32, gd_t, bI_, L0, L1, z0, ia, e0, e, bI_1, ↓reduceIte, l0, show (nI 1 = nI 0) = False from eq_f (by decide) (by decide) (by decide)]
    exact g
  · have e := e177 v
    have z0 : (nI 0).toNatClampNeg = 0 := rfl
    have e0 : h 85 0 = nI (sN s) := q.1.n
    have ia : IA 85 (nI 0) = True := ia_85 (by decide)
    have f10 : (nI 1 = nI 0) = False := eq_f (by decide) (by decide) (by decide)
    have em : ¬ v.toInt = -1 := fun w => cm (Int32.toInt_inj.mp (by rw [w]; rfl))
    have ed : decide (-1 ≤ v.toInt ∧ v.toInt < (sN s : Int)) = scn (sN s) v := by
      unfold scn
      congr 1
      apply propext
      constructor
      · intro w; exact ⟨by have := w.1; omega, w.2⟩
      · intro w; exact ⟨by have := w.1; omega, w.2⟩
    rw [ed] at e
    cases hr : scn (sN s) v with
    | false =>
      rw [hr] at e
      exact ⟨-nI 1, h, h, by simp (disch := omega) only [R_98_26, R_98_23, R_98_18, R_98_15, R_98_10, R_98_9, R_98_5, R_98_0, S_98, gd_t, bI_, bV_, bR_, and_self, and_true, true_and, ↓reduceIte, eq_self, oj_84, bI_1, bI_0, L0, L1, cm, s_14 hn hs.1.n, hr], by simp only [S_240, R_240_0, R_240_17, R_240_20, gd_t, bI_, L0, L1, z0, ia, e0, e, bI_0, ↓reduceIte, eq_self], I⟩
    | true =>
      rw [hr] at e
      obtain ⟨k, hk, rfl⟩ := scn_t hr
      have l0 : (nI k < nI 0) = False := lt_f (by omega) (by omega)
      exact ⟨nI (strS s m k), h, h, by simp (disch := omega) only [R_98_26, R_98_23, R_98_18, R_98_15, R_98_10, R_98_9, R_98_5, R_98_0, S_98, gd_t, bI_, bV_, bR_, and_self, and_true, true_and, ↓reduceIte, eq_self, oj_84, bI_1, bI_0, L0, L1, cm, s_14 hn hs.1.n, hr, eq_f, s_100 so mo hs.1 hm], by simp only [S_240, R_240_0, R_240_17, R_240_22, R_240_26, R_240_31, gd_t, bI_, L0, L1, z0, ia, e0, e, bI_1, ↓reduceIte, f10, l0, s_241 so mo q.1 hk], I⟩
