/-! part 57: THE REST; what the model puts aside and takes back -/
def restM (s : Sg) : Nat → Mo → Mo
  | 0, m => m
  | n + 1, m => if sEnd s ≤ mNight m then m else restM s n (goM s m (actS s m))
def restW (s : Sg) : Nat → Mo → Nat
  | 0, _ => 0
  | n + 1, m => if sEnd s ≤ mNight m then 0 else goW s m (actS s m) + restW s n (goM s m (actS s m))
theorem restM_s (s : Sg) (n : Nat) (m : Mo) : restM s (n + 1) m = if sEnd s ≤ mNight m then m else restM s n (goM s m (actS s m)) := rfl
theorem restW_s (s : Sg) (n : Nat) (m : Mo) : restW s (n + 1) m = if sEnd s ≤ mNight m then 0 else goW s m (actS s m) + restW s n (goM s m (actS s m)) := rfl
theorem actF_le (s : Sg) (m : Mo) : ∀ j i, actF s m j i ≤ i + j
  | 0, i => Nat.zero_le _
  | j + 1, i => by
    have := actF_le s m j (i + 1)
    show (if mayS s m i then i + 1 else actF s m j (i + 1)) ≤ i + (j + 1)
    split <;> omega
theorem actS_le (s : Sg) (m : Mo) : actS s m ≤ sN s := by
  have := actF_le s m (sN s) 0
  unfold actS
  omega
theorem goM_score {s : Sg} {m : Mo} {act : Nat} (mo : MoOk s m) : mScore (goM s m act) = mScore m + nI (goW s m act) := by
  show mScore (doM s m act).2 + nI (goW s m act) = _
  rw [(doOk mo).2.2.1]
theorem goM_night {s : Sg} {m : Mo} {act : Nat} (mo : MoOk s m) : mNight (goM s m act) = mNight m + 1 := by
  show mNight (doM s m act).2 + 1 = _
  rw [(doOk mo).2.1]
theorem goM_seed {s : Sg} {m : Mo} {act : Nat} (mo : MoOk s m) : mSeed (goM s m act) = mSeed m := (doOk mo).2.2.2
theorem sub_l (a b : Int32) : a + b - a = b := by rw [Int32.add_comm]; exact Int32.add_sub_cancel _ _
theorem s_230 {s : Sg} (so : SgOk s) : ∀ (n t acc fu : Nat) (m : Mo) (H : Hp), MoOk s m → SMd H s m → n < fu → t + n < 2147483648 → ∃ h', H_230_4 fu (nI (t + n)) (nI acc) (nI t) H = some (nI (acc + restW s n m), h') ∧ SMd h' s (restM s n m) ∧ MoOk s (restM s n m) ∧ MFr H h' := by
  intro n
  induction n with
  | zero =>
    intro t acc fu m H mo q hf ht
    obtain ⟨fu, rfl⟩ : ∃ p, fu = p + 1 := ⟨fu - 1, by omega⟩
    refine ⟨H, ?_, q, mo, MFr.rf⟩
    simp (disch := omega) only [H_230_4, R_230_33, R_230_25, R_230_22, R_230_16, R_230_13, R_230_9, R_230_4, R_230_0, S_230, gd_t, bI_, bV_, bR_, and_self, and_true, true_and, ↓reduceIte, eq_self, oj_84, bI_1, bI_0, L0, L1, L9, L84, le_t, le_f, lt_t, lt_f, eq_t, eq_f, ncl, nI_add, nmul, nsub, ndiv, nrem, nrem', nrN]
    rfl
  | succ n ih =>
    intro t acc fu m H mo q hf ht
    obtain ⟨fu, rfl⟩ : ∃ p, fu = p + 1 := ⟨fu - 1, by omega⟩
    have he := so.2.2.2.2.2
    rw [restM_s, restW_s]
    by_cases c : sEnd s ≤ mNight m
    · rw [if_pos c, if_pos c]
      refine ⟨H, ?_, q, mo, MFr.rf⟩
      simp (disch := omega) only [H_230_4, R_230_33, R_230_25, R_230_22, R_230_16, R_230_13, R_230_9, R_230_4, R_230_0, S_230, gd_t, bI_, bV_, bR_, and_self, and_true, true_and, ↓reduceIte, eq_self, oj_84, bI_1, bI_0, L0, L1, L9, L84, le_t, le_f, lt_t, lt_f, eq_t, eq_f, ncl, nI_add, nmul, nsub, ndiv, nrem, nrem', nrN, s_205 so mo q.1, c, decide_true]
      rfl
    · rw [if_neg c, if_neg c]
      obtain ⟨h1, g1, s1⟩ := s_225 so mo q
      have q1 := q.same s1
      obtain ⟨h2, g2, q2, f2⟩ := s_226 so mo q1 (actS_le s m)
      obtain ⟨h3, g3, q3, o3, f3⟩ := ih (t + 1) (acc + goW s m (actS s m)) fu _ h2 (goOk mo (by omega)) q2 (by omega) (by omega)
      refine ⟨h3, ?_, q3, o3, ((MFr.of88 s1).tr f2).tr f3⟩
      rw [show t + 1 + n = t + (n + 1) by omega, Nat.add_assoc acc] at g3
      simp (disch := omega) only [H_230_4, R_230_33, R_230_25, R_230_22, R_230_16, R_230_13, R_230_9, R_230_4, R_230_0, S_230, gd_t, bI_, bV_, bR_, and_self, and_true, true_and, ↓reduceIte, eq_self, oj_84, bI_1, bI_0, L0, L1, L9, L84, le_t, le_f, lt_t, lt_f, eq_t, eq_f, ncl, nI_add, nmul, nsub, ndiv, nrem, nrem', nrN, s_205 so mo q.1, c, decide_false, g1, g2]
      exact g3
/-- the model's scratch apart, at depth a of what is put aside -/
def BFr (a : Nat) (h h' : Hp) : Prop := (∀ c, c ≠ 84 → c ≠ 87 → c ≠ 88 → h' c = h c) ∧ h' 84 4 = h 84 4 ∧ ∀ j, j < 65 * a → h' 87 j = h 87 j
/-- the row of h0 is put aside at depth a -/
def Brk (a : Nat) (h0 h : Hp) : Prop := (∀ c, c ≠ 84 → c ≠ 85 → c ≠ 87 → c ≠ 88 → h c = h0 c) ∧ h 84 4 = nI (a + 1) ∧ (∀ j, j < 65 → h 87 (65 * a + j) = h0 85 j) ∧ (∀ j, j < 65 * a → h 87 j = h0 87 j) ∧ ∀ j, 65 ≤ j → h 85 j = h0 85 j
theorem BFr.rf {a : Nat} {h : Hp} : BFr a h h := ⟨fun _ _ _ _ => rfl, rfl, fun _ _ => rfl⟩
theorem BFr.tr {a : Nat} {h h1 h2 : Hp} (x : BFr a h h1) (y : BFr a h1 h2) : BFr a h h2 := ⟨fun c e1 e2 e3 => (y.1 c e1 e2 e3).trans (x.1 c e1 e2 e3), y.2.1.trans x.2.1, fun j hj => (y.2.2 j hj).trans (x.2.2 j hj)⟩
theorem BFr.r85 {a : Nat} {h h' : Hp} (x : BFr a h h') : h' 85 = h 85 := x.1 85 (by decide) (by decide) (by decide)
theorem BFr.of88 {a : Nat} {h h' : Hp} (x : Same [88] h h') : BFr a h h' := ⟨fun c _ _ e => x c (by simpa using e), by rw [x 84 (by decide)], fun j _ => by rw [x 87 (by decide)]⟩
theorem BFr.smd {a : Nat} {h h' : Hp} {s : Sg} {m : Mo} (x : BFr a h h') (q : SMd h s m) : SMd h' s m := by
  unfold SMd
  rw [x.r85]
  exact q
theorem Brk.mfr {a : Nat} {h0 h h' : Hp} (b : Brk a h0 h) (f : MFr h h') : Brk a h0 h' := ⟨fun c e1 e2 e3 e4 => (f.1 c e2 e4).trans (b.1 c e1 e2 e3 e4), by rw [f.1 84 (by decide) (by decide)]; exact b.2.1, fun j hj => by rw [f.1 87 (by decide) (by decide)]; exact b.2.2.1 j hj, fun j hj => by rw [f.1 87 (by decide) (by decide)]; exact b.2.2.2.1 j hj, fun j hj => by rw [f.2 j (by omega)]; exact b.2.2.2.2 j hj⟩
theorem Brk.bfr {a : Nat} {h0 h h' : Hp} (b : Brk a h0 h) (f : BFr (a + 1) h h') : Brk a h0 h' := ⟨fun c e1 e2 e3 e4 => (f.1 c e1 e3 e4).trans (b.1 c e1 e2 e3 e4), by rw [f.2.1]; exact b.2.1, fun j hj => by rw [f.2.2 _ (by omega)]; exact b.2.2.1 j hj, fun j hj => by rw [f.2.2 _ (by omega)]; exact b.2.2.2.1 j hj, fun j hj => by rw [f.r85]; exact b.2.2.2.2 j hj⟩
theorem Brk.w84 {a i : Nat} {x : Int32} {h0 h : Hp} (b : Brk a h0 h) (hi : i ≠ 4) : Brk a h0 (wr h 84 i x) := ⟨fun c e1 e2 e3 e4 => by rw [wr_c e1]; exact b.1 c e1 e2 e3 e4, by rw [wr_k (fun q => hi q.symm)]; exact b.2.1, fun j hj => by rw [wr_c (by decide)]; exact b.2.2.1 j hj, fun j hj => by rw [wr_c (by decide)]; exact b.2.2.2.1 j hj, fun j hj => by rw [wr_c (by decide)]; exact b.2.2.2.2 j hj⟩
theorem Brk.w85 {a i : Nat} {x : Int32} {h0 h : Hp} (b : Brk a h0 h) (hi : i < 65) : Brk a h0 (wr h 85 i x) := ⟨fun c e1 e2 e3 e4 => by rw [wr_c e2]; exact b.1 c e1 e2 e3 e4, by rw [wr_c (by decide)]; exact b.2.1, fun j hj => by rw [wr_c (by decide)]; exact b.2.2.1 j hj, fun j hj => by rw [wr_c (by decide)]; exact b.2.2.2.1 j hj, fun j hj => by rw [wr_k (by omega)]; exact b.2.2.2.2 j hj⟩
theorem s_229 {h : Hp} {a : Nat} (ha : a ≤ 5) (h4 : h 84 4 = nI a) : ∃ h', S_229 h = some (0, h') ∧ Brk a h h' ∧ h' 85 = h 85 ∧ ∀ j, j ≠ 4 → h' 84 j = h 84 j := by
  have loop : ∀ j i n : Nat, i + j = 65 → j < n → ∀ H, Same [87] h H → (∀ t, t < i → H 87 (65 * a + t) = h 85 t) → (∀ t, t < 65 * a → H 87 t = h 87 t) → ∃ H', H_229_2 n (nI i) H = some (0, wr H' 84 4 (nI (a + 1))) ∧ Same [87] h H' ∧ (∀ t, t < 65 → H' 87 (65 * a + t) = h 85 t) ∧ ∀ t, t < 65 * a → H' 87 t = h 87 t := by
    intro j
    induction j with
    | zero =>
      intro i n e hj H sH h1 h2
      obtain ⟨n, rfl⟩ : ∃ p, n = p + 1 := ⟨n - 1, by omega⟩
      have ei : i = 65 := by omega
      have e4 : H 84 4 = nI a := by rw [sH 84 (by decide), h4]
      refine ⟨H, ?_, sH, fun t ht => h1 t (by omega), h2⟩
      simp (disch := omega) only [H_229_2, R_229_34, R_229_8, R_229_2, R_229_0, S_229, gd_t, bI_, bV_, bR_, and_self, and_true, true_and, ↓reduceIte, eq_self, oj_84, bI_1, bI_0, L0, L1, L4, L65, L84, L85, L87, le_t, le_f, lt_t, lt_f, eq_t, eq_f, ncl, nI_add, nmul, nsub, ndiv, nrem, nrem', nrN, e4, ei]
    | succ j ih =>
      intro i n e hj H sH h1 h2
      obtain ⟨n, rfl⟩ : ∃ p, n = p + 1 := ⟨n - 1, by omega⟩
      have e4 : H 84 4 = nI a := by rw [sH 84 (by decide), h4]
      have e85 : H 85 = h 85 := sH 85 (by decide)
      have nx := ih (i + 1) n (by omega) (by omega) (wr H 87 (65 * a + i) (h 85 i)) (sH.wr (by simp)) (fun t ht => by
        by_cases et : t = i
        · rw [et, wr_self]
        · rw [wr_k (by omega)]; exact h1 t (by omega)) (fun t ht => by rw [wr_k (by omega)]; exact h2 t ht)
      simp (disch := omega) only [H_229_2, R_229_34, R_229_8, R_229_2, R_229_0, S_229, gd_t, bI_, bV_, bR_, and_self, and_true, true_and, ↓reduceIte, eq_self, oj_84, bI_1, bI_0, L0, L1, L4, L65, L84, L85, L87, le_t, le_f, lt_t, lt_f, eq_t, eq_f, ncl, nI_add, nmul, nsub, ndiv, nrem, nrem', nrN, e4, e85, ia_85, ia_87]
      exact nx
  obtain ⟨H, g, sH, h1, h2⟩ := loop 65 0 fuL (by omega) (fuL_gt (by omega)) h Same.rf (fun t ht => by omega) (fun t _ => rfl)
  refine ⟨wr H 84 4 (nI (a + 1)), ?_, ⟨fun c e1 e2 e3 e4 => by rw [wr_c e1]; exact sH c (by simpa using e3), wr_self, fun j hj => by rw [wr_c (by decide)]; exact h1 j hj, fun j hj => by rw [wr_c (by decide)]; exact h2 j hj, fun j hj => by rw [wr_c (by decide), sH 85 (by decide)]⟩, by rw [wr_c (by decide)]; exact sH 85 (by decide), fun j hj => by rw [wr_k hj, sH 84 (by decide)]⟩
  simp (disch := omega) only [R_229_34, R_229_8, R_229_2, R_229_0, S_229, gd_t, bI_, bV_, bR_, and_self, and_true, true_and, ↓reduceIte, eq_self, oj_84, bI_1, bI_0, L0, L1, L4, L65, L84, L85, L87]
  rw [L0] at g
  exact g
theorem s_232 {h0 h : Hp} {a : Nat} (ha : a ≤ 5) (b : Brk a h0 h) : ∃ h', S_232 h = some (0, h') ∧ Brk a h0 h' ∧ h' 85 = h0 85 ∧ Same [85] h h' := by
  obtain ⟨b1, b2, b3, b4, b5⟩ := id b
  have loop : ∀ j i n : Nat, i + j = 65 → j < n → ∀ H, Same [85] h H → (∀ t, t < i → H 85 t = h0 85 t) → (∀ t, 65 ≤ t → H 85 t = h0 85 t) → ∃ H', H_232_2 n (nI i) H = some (0, H') ∧ Same [85] h H' ∧ (∀ t, t < 65 → H' 85 t = h0 85 t) ∧ (∀ t, 65 ≤ t → H' 85 t = h0 85 t) := by
    intro j
    induction j with
    | zero =>
      intro i n e hj H sH h1 h2
      obtain ⟨n, rfl⟩ : ∃ p, n = p + 1 := ⟨n - 1, by omega⟩
      have ei : i = 65 := by omega
      refine ⟨H, ?_, sH, fun t ht => h1 t (by omega), h2⟩
      simp (disch := omega) only [H_232_2, R_232_36, R_232_8, R_232_2, R_232_0, S_232, gd_t, bI_, bV_, bR_, and_self, and_true, true_and, ↓reduceIte, eq_self, oj_84, bI_1, bI_0, L0, L1, L4, L65, L84, L85, L87, le_t, le_f, lt_t, lt_f, eq_t, eq_f, ncl, nI_add, nmul, nsub, ndiv, nrem, nrem', nrN, ei]
    | succ j ih =>
      intro i n e hj H sH h1 h2
      obtain ⟨n, rfl⟩ : ∃ p, n = p + 1 := ⟨n - 1, by omega⟩
      have e4 : H 84 4 = nI (a + 1) := by rw [sH 84 (by decide), b2]
      have e87 : H 87 = h 87 := sH 87 (by decide)
      have eb := b3 i (by omega)
      have nx := ih (i + 1) n (by omega) (by omega) (wr H 85 i (h0 85 i)) (sH.wr (by simp)) (fun t ht => by
        by_cases et : t = i
        · rw [et, wr_self]
        · rw [wr_k et]; exact h1 t (by omega)) (fun t ht => by rw [wr_k (by omega)]; exact h2 t ht)
      simp (disch := omega) only [H_232_2, R_232_36, R_232_8, R_232_2, R_232_0, S_232, gd_t, bI_, bV_, bR_, and_self, and_true, true_and, ↓reduceIte, eq_self, oj_84, bI_1, bI_0, L0, L1, L4, L65, L84, L85, L87, le_t, le_f, lt_t, lt_f, eq_t, eq_f, ncl, nI_add, nmul, nsub, ndiv, nrem, nrem', nrN, e4, e87, eb, ia_85, ia_87, Nat.add_sub_cancel]
      rw [L0] at nx
      exact nx
  obtain ⟨H, g, sH, h1, h2⟩ := loop 65 0 fuL (by omega) (fuL_gt (by omega)) h Same.rf (fun t ht => by omega) b5
  refine ⟨H, ?_, ⟨fun c e1 e2 e3 e4 => by rw [sH c (by simpa using e2)]; exact b1 c e1 e2 e3 e4, by rw [sH 84 (by decide)]; exact b2, by rw [sH 87 (by decide)]; exact b3, by rw [sH 87 (by decide)]; exact b4, h2⟩, funext (fun t => ?_), sH⟩
  · simp (disch := omega) only [R_232_36, R_232_8, R_232_2, R_232_0, S_232, gd_t, bI_, bV_, bR_, and_self, and_true, true_and, ↓reduceIte, eq_self, oj_84, bI_1, bI_0, L0, L1, L4, L65, L84, L85, L87]
    rw [L0] at g
    exact g
  · rcases Nat.lt_or_ge t 65 with q | q
    · exact h1 t q
    · exact h2 t q
theorem s_231 {h0 h : Hp} {a : Nat} (ha : a ≤ 5) (h4 : h0 84 4 = nI a) (b : Brk a h0 h) : ∃ h', S_231 h = some (0, h') ∧ BFr a h0 h' ∧ ∀ j, j ≠ 4 → h' 84 j = h 84 j := by
  obtain ⟨H, g, b', e85, sH⟩ := s_232 ha b
  obtain ⟨b1, b2, b3, b4, b5⟩ := id b'
  refine ⟨wr H 84 4 (nI a), ?_, ⟨fun c e1 e2 e3 => ?_, by rw [wr_self, h4], fun j hj => by rw [wr_c (by decide)]; exact b4 j hj⟩, fun j hj => by rw [wr_k hj, sH 84 (by decide)]⟩
  · simp (disch := omega) only [R_231_4, R_231_0, S_231, gd_t, bI_, bV_, bR_, and_self, and_true, true_and, ↓reduceIte, eq_self, oj_84, bI_1, bI_0, L0, L1, L4, L84, le_t, le_f, lt_t, lt_f, eq_t, eq_f, ncl, nI_add, nmul, nsub, ndiv, nrem, nrem', nrN, g, b2, Nat.add_sub_cancel]
  · rw [wr_c e1]
    by_cases e : c = 85
    · rw [e, e85]
    · exact b1 c e1 e e2 e3
