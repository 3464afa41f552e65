/-! part 99a: tokens; the class splits -/
def isLet (x : Nat) : Prop := 97 ≤ x ∧ x ≤ 122
def isDig (x : Nat) : Prop := 48 ≤ x ∧ x ≤ 57
theorem dLet (x : Nat) : isLet x ∨ ¬ isLet x := by unfold isLet; omega
theorem dDig (x : Nat) : isDig x ∨ ¬ isDig x := by unfold isDig; omega
def byteC (x : Nat) : Nat := if x = 40 then 23 else if x = 41 then 24 else if x = 59 then 25 else if x = 60 then 20 else if x = 61 then 21 else if x = 62 then 22 else 28
theorem byteC_lt (x : Nat) : byteC x < 29 := by
  unfold byteC
  repeat' split
  all_goals decide
def numF (T : Nat → Nat) (p : Nat) : Nat → Nat
  | 0 => 0
  | k + 1 => numF T p k * 10 + T (p + k) - 48
noncomputable def wcF (T : Nat → Nat) (p n : Nat) : Nat := wdF (fun j => nI (T (p + j))) n wdL 0
/-- a token from p up to e: its code, its number -/
def Tk (N : Nat) (T : Nat → Nat) (p e c v : Nat) : Prop := p < e ∧ e ≤ N ∧ ((isLet (T p) ∧ (∀ j, p ≤ j → j < e → isLet (T j)) ∧ (e = N ∨ ¬ isLet (T e)) ∧ c = wcF T p (e - p)) ∨ (isDig (T p) ∧ (∀ j, p ≤ j → j < e → isDig (T j)) ∧ (e = N ∨ ¬ isDig (T e)) ∧ c = (if e - p ≤ 4 then 26 else 28) ∧ (e - p ≤ 4 → v = numF T p (e - p))) ∨ (¬ isLet (T p) ∧ ¬ isDig (T p) ∧ e = p + 1 ∧ c = byteC (T p)))
/-- the tokens from p on, the end the last of them: code, start, number -/
def Lx (N : Nat) (T : Nat → Nat) : Nat → List (Nat × Nat × Nat) → Prop
  | _, [] => False
  | p, t :: R => ∃ b, p ≤ b ∧ b ≤ N ∧ (∀ j, p ≤ j → j < b → T j = 32) ∧ t.2.1 = b ∧ ((b = N ∧ t.1 = 27 ∧ R = []) ∨ (b < N ∧ T b ≠ 32 ∧ ∃ e, Tk N T b e t.1 t.2.2 ∧ Lx N T e R))
theorem Lx_c {N : Nat} {T : Nat → Nat} {p : Nat} {t : Nat × Nat × Nat} {R : List (Nat × Nat × Nat)} : Lx N T p (t :: R) ↔ ∃ b, p ≤ b ∧ b ≤ N ∧ (∀ j, p ≤ j → j < b → T j = 32) ∧ t.2.1 = b ∧ ((b = N ∧ t.1 = 27 ∧ R = []) ∨ (b < N ∧ T b ≠ 32 ∧ ∃ e, Tk N T b e t.1 t.2.2 ∧ Lx N T e R)) := Iff.rfl
/-- a blank more ahead -/
theorem Lx_blank {N : Nat} {T : Nat → Nat} {p : Nat} {R : List (Nat × Nat × Nat)} (h : T p = 32) (q : Lx N T (p + 1) R) : Lx N T p R := by
  cases R with
  | nil => exact q
  | cons t R =>
    obtain ⟨b, b1, b2, b3, b4⟩ := q
    refine ⟨b, by omega, b2, fun j j1 j2 => ?_, b4⟩
    by_cases e : j = p
    · rw [e]; exact h
    · exact b3 j (by omega) j2
theorem Lx_unblank {N : Nat} {T : Nat → Nat} {p : Nat} {R : List (Nat × Nat × Nat)} (h : T p = 32) (hp : p < N) (q : Lx N T p R) : Lx N T (p + 1) R := by
  cases R with
  | nil => exact q
  | cons t R =>
    obtain ⟨b, b1, b2, b3, b4, b5⟩ := q
    have : p ≠ b := fun e => by
      rcases b5 with b5 | b5
      · omega
      · exact b5.2.1 (e ▸ h)
    exact ⟨b, by omega, b2, fun j j1 j2 => b3 j (by omega) j2, b4, b5⟩
/-- the tape as the class has it -/
def TpC (h : Hp) (N : Nat) (T : Nat → Nat) : Prop := N ≤ 200 ∧ h 21 1 = nI N ∧ ∀ j, j < N → T j ≤ 255 ∧ h 22 j = nI (T j)
theorem s_48 {h : Hp} {x : Nat} (hx : x ≤ 255) : (isLet x → S_48 (nI x) h = some (nI 1, h)) ∧ (¬ isLet x → S_48 (nI x) h = some (nI 0, h)) := by
  unfold isLet
  constructor
  · intro c
    simp (disch := omega) only [R_48_16, R_48_12, R_48_6, R_48_0, S_48, gd_t, bI_, bV_, bR_, and_self, and_true, true_and, ↓reduceIte, eq_self, oj_84, bI_1, bI_0, L0, L1, L97, L122, le_t, le_f, lt_t, lt_f, eq_t, eq_f, ncl, nI_add, nmul, nsub, ndiv, nrem, nrem', nrN]
  · intro c
    by_cases c1 : x < 97
    · simp (disch := omega) only [R_48_16, R_48_12, R_48_6, R_48_0, S_48, gd_t, bI_, bV_, bR_, and_self, and_true, true_and, ↓reduceIte, eq_self, oj_84, bI_1, bI_0, L0, L1, L97, L122, le_t, le_f, lt_t, lt_f, eq_t, eq_f, ncl, nI_add, nmul, nsub, ndiv, nrem, nrem', nrN]
    · simp (disch := omega) only [R_48_16, R_48_12, R_48_6, R_48_0, S_48, gd_t, bI_, bV_, bR_, and_self, and_true, true_and, ↓reduceIte, eq_self, oj_84, bI_1, bI_0, L0, L1, L97, L122, le_t, le_f, lt_t, lt_f, eq_t, eq_f, ncl, nI_add, nmul, nsub, ndiv, nrem, nrem', nrN]
theorem s_49 {h : Hp} {x : Nat} (hx : x ≤ 255) : (isDig x → S_49 (nI x) h = some (nI 1, h)) ∧ (¬ isDig x → S_49 (nI x) h = some (nI 0, h)) := by
  unfold isDig
  constructor
  · intro c
    simp (disch := omega) only [R_49_16, R_49_12, R_49_6, R_49_0, S_49, gd_t, bI_, bV_, bR_, and_self, and_true, true_and, ↓reduceIte, eq_self, oj_84, bI_1, bI_0, L0, L1, L48, L57, le_t, le_f, lt_t, lt_f, eq_t, eq_f, ncl, nI_add, nmul, nsub, ndiv, nrem, nrem', nrN]
  · intro c
    by_cases c1 : x < 48
    · simp (disch := omega) only [R_49_16, R_49_12, R_49_6, R_49_0, S_49, gd_t, bI_, bV_, bR_, and_self, and_true, true_and, ↓reduceIte, eq_self, oj_84, bI_1, bI_0, L0, L1, L48, L57, le_t, le_f, lt_t, lt_f, eq_t, eq_f, ncl, nI_add, nmul, nsub, ndiv, nrem, nrem', nrN]
    · simp (disch := omega) only [R_49_16, R_49_12, R_49_6, R_49_0, S_49, gd_t, bI_, bV_, bR_, and_self, and_true, true_and, ↓reduceIte, eq_self, oj_84, bI_1, bI_0, L0, L1, L48, L57, le_t, le_f, lt_t, lt_f, eq_t, eq_f, ncl, nI_add, nmul, nsub, ndiv, nrem, nrem', nrN]
theorem l_47a {h : Hp} {N : Nat} {T : Nat → Nat} (q : TpC h N T) : ∀ (r p fu : Nat), p + r = N → r < fu → ∃ e, H_47_16 fu (nI p) h = some (nI e, h) ∧ p ≤ e ∧ e ≤ N ∧ (∀ j, p ≤ j → j < e → isLet (T j)) ∧ (e = N ∨ ¬ isLet (T e)) := by
  obtain ⟨q1, q2, q3⟩ := q
  intro r
  induction r with
  | zero =>
    intro p fu hp hf
    obtain ⟨fu, rfl⟩ : ∃ p, fu = p + 1 := ⟨fu - 1, by omega⟩
    have ep : p = N := by omega
    exact ⟨N, by simp (disch := omega) only [H_47_54, H_47_16, R_47_80, R_47_74, R_47_71, R_47_62, R_47_54, R_47_51, R_47_42, R_47_36, R_47_33, R_47_24, R_47_16, R_47_13, R_47_0, S_47, gd_t, bI_, bV_, bR_, and_self, and_true, true_and, ↓reduceIte, eq_self, oj_84, bI_1, bI_0, L0, L1, L21, L22, le_t, le_f, lt_t, lt_f, eq_t, eq_f, ncl, nI_add, nmul, nsub, ndiv, nrem, nrem', nrN, q2, ep], by omega, by omega, fun j _ _ => by omega, Or.inl rfl⟩
  | succ r ih =>
    intro p fu hp hf
    obtain ⟨fu, rfl⟩ : ∃ p, fu = p + 1 := ⟨fu - 1, by omega⟩
    obtain ⟨t1, t2⟩ := q3 p (by omega)
    have i22 : IA 22 (nI p) = True := ia_22 (by omega)
    rcases dLet (T p) with c | c
    · obtain ⟨e, g, e1, e2, e3, e4⟩ := ih (p + 1) fu (by omega) (by omega)
      refine ⟨e, ?_, by omega, e2, fun j j1 j2 => ?_, e4⟩
      · have s := (s_48 (h := h) t1).1 c
        simp (disch := omega) only [H_47_54, H_47_16, R_47_80, R_47_74, R_47_71, R_47_62, R_47_54, R_47_51, R_47_42, R_47_36, R_47_33, R_47_24, R_47_16, R_47_13, R_47_0, S_47, gd_t, bI_, bV_, bR_, and_self, and_true, true_and, ↓reduceIte, eq_self, oj_84, bI_1, bI_0, L0, L1, L21, L22, le_t, le_f, lt_t, lt_f, eq_t, eq_f, ncl, nI_add, nmul, nsub, ndiv, nrem, nrem', nrN, q2, i22, t2, s]
        exact g
      · by_cases ej : j = p
        · rw [ej]; exact c
        · exact e3 j (by omega) j2
    · have s := (s_48 (h := h) t1).2 c
      exact ⟨p, by simp (disch := omega) only [H_47_54, H_47_16, R_47_80, R_47_74, R_47_71, R_47_62, R_47_54, R_47_51, R_47_42, R_47_36, R_47_33, R_47_24, R_47_16, R_47_13, R_47_0, S_47, gd_t, bI_, bV_, bR_, and_self, and_true, true_and, ↓reduceIte, eq_self, oj_84, bI_1, bI_0, L0, L1, L21, L22, le_t, le_f, lt_t, lt_f, eq_t, eq_f, ncl, nI_add, nmul, nsub, ndiv, nrem, nrem', nrN, q2, i22, t2, s], by omega, by omega, fun j _ _ => by omega, Or.inr c⟩
theorem l_47b {h : Hp} {N : Nat} {T : Nat → Nat} (q : TpC h N T) : ∀ (r p fu : Nat), p + r = N → r < fu → ∃ e, H_47_54 fu (nI p) h = some (nI e, h) ∧ p ≤ e ∧ e ≤ N ∧ (∀ j, p ≤ j → j < e → isDig (T j)) ∧ (e = N ∨ ¬ isDig (T e)) := by
  obtain ⟨q1, q2, q3⟩ := q
  intro r
  induction r with
  | zero =>
    intro p fu hp hf
    obtain ⟨fu, rfl⟩ : ∃ p, fu = p + 1 := ⟨fu - 1, by omega⟩
    have ep : p = N := by omega
    exact ⟨N, by simp (disch := omega) only [H_47_54, H_47_16, R_47_80, R_47_74, R_47_71, R_47_62, R_47_54, R_47_51, R_47_42, R_47_36, R_47_33, R_47_24, R_47_16, R_47_13, R_47_0, S_47, gd_t, bI_, bV_, bR_, and_self, and_true, true_and, ↓reduceIte, eq_self, oj_84, bI_1, bI_0, L0, L1, L21, L22, le_t, le_f, lt_t, lt_f, eq_t, eq_f, ncl, nI_add, nmul, nsub, ndiv, nrem, nrem', nrN, q2, ep], by omega, by omega, fun j _ _ => by omega, Or.inl rfl⟩
  | succ r ih =>
    intro p fu hp hf
    obtain ⟨fu, rfl⟩ : ∃ p, fu = p + 1 := ⟨fu - 1, by omega⟩
    obtain ⟨t1, t2⟩ := q3 p (by omega)
    have i22 : IA 22 (nI p) = True := ia_22 (by omega)
    rcases dDig (T p) with c | c
    · obtain ⟨e, g, e1, e2, e3, e4⟩ := ih (p + 1) fu (by omega) (by omega)
      refine ⟨e, ?_, by omega, e2, fun j j1 j2 => ?_, e4⟩
      · have s := (s_49 (h := h) t1).1 c
        simp (disch := omega) only [H_47_54, H_47_16, R_47_80, R_47_74, R_47_71, R_47_62, R_47_54, R_47_51, R_47_42, R_47_36, R_47_33, R_47_24, R_47_16, R_47_13, R_47_0, S_47, gd_t, bI_, bV_, bR_, and_self, and_true, true_and, ↓reduceIte, eq_self, oj_84, bI_1, bI_0, L0, L1, L21, L22, le_t, le_f, lt_t, lt_f, eq_t, eq_f, ncl, nI_add, nmul, nsub, ndiv, nrem, nrem', nrN, q2, i22, t2, s]
        exact g
      · by_cases ej : j = p
        · rw [ej]; exact c
        · exact e3 j (by omega) j2
    · have s := (s_49 (h := h) t1).2 c
      exact ⟨p, by simp (disch := omega) only [H_47_54, H_47_16, R_47_80, R_47_74, R_47_71, R_47_62, R_47_54, R_47_51, R_47_42, R_47_36, R_47_33, R_47_24, R_47_16, R_47_13, R_47_0, S_47, gd_t, bI_, bV_, bR_, and_self, and_true, true_and, ↓reduceIte, eq_self, oj_84, bI_1, bI_0, L0, L1, L21, L22, le_t, le_f, lt_t, lt_f, eq_t, eq_f, ncl, nI_add, nmul, nsub, ndiv, nrem, nrem', nrN, q2, i22, t2, s], by omega, by omega, fun j _ _ => by omega, Or.inr c⟩
/-- wordOf: which letters they are counts alone -/
theorem wdF_c {f g : Nat → Int32} {n : Nat} (e : ∀ j, j < n → f j = g j) : ∀ (l : List (List Nat)) (i : Nat), wdF f n l i = wdF g n l i := by
  intro l
  induction l with
  | nil => exact fun _ => rfl
  | cons w t ih =>
    intro i
    have iff : (w.length = n ∧ ∀ j, j < n → f j = nI (w.getD j 0)) ↔ (w.length = n ∧ ∀ j, j < n → g j = nI (w.getD j 0)) := by
      constructor
      · exact fun q => ⟨q.1, fun j hj => by rw [← e j hj]; exact q.2 j hj⟩
      · exact fun q => ⟨q.1, fun j hj => by rw [e j hj]; exact q.2 j hj⟩
    unfold wdF
    by_cases c : w.length = n ∧ ∀ j, j < n → f j = nI (w.getD j 0)
    · rw [if_pos c, if_pos (iff.mp c)]
    · rw [if_neg c, if_neg (fun q => c (iff.mpr q)), ih]
theorem l_64 {h : Hp} {N : Nat} {T : Nat → Nat} (q : TpC h N T) {p e : Nat} (he : e ≤ N) (hd : ∀ j, p ≤ j → j < e → isDig (T j)) : ∀ (r k fu : Nat), p + k + r = e → r < fu → H_64_5 fu (nI e) (nI (numF T p k)) (nI (p + k)) h = some (nI (numF T p (e - p)), h) := by
  obtain ⟨q1, q2, q3⟩ := q
  intro r
  induction r with
  | zero =>
    intro k fu hk hf
    obtain ⟨fu, rfl⟩ : ∃ p, fu = p + 1 := ⟨fu - 1, by omega⟩
    have ek : e - p = k := by omega
    have ek2 : p + k = e := by omega
    simp (disch := omega) only [H_64_5, R_64_33, R_64_11, R_64_5, R_64_0, S_64, gd_t, bI_, bV_, bR_, and_self, and_true, true_and, ↓reduceIte, eq_self, oj_84, bI_1, bI_0, L0, L1, L10, L22, L48, le_t, le_f, lt_t, lt_f, eq_t, eq_f, ncl, nI_add, nmul, nsub, ndiv, nrem, nrem', nrN, ek2, ek]
  | succ r ih =>
    intro k fu hk hf
    obtain ⟨fu, rfl⟩ : ∃ p, fu = p + 1 := ⟨fu - 1, by omega⟩
    have t := q3 (p + k) (by omega)
    have i22 : IA 22 (nI (p + k)) = True := ia_22 (by omega)
    have hd1 := hd (p + k) (by omega) (by omega)
    unfold isDig at hd1
    have nx := ih (k + 1) fu (by omega) (by omega)
    have en : numF T p (k + 1) = numF T p k * 10 + T (p + k) - 48 := rfl
    rw [en, ← Nat.add_assoc] at nx
    simp (disch := omega) only [H_64_5, R_64_33, R_64_11, R_64_5, R_64_0, S_64, gd_t, bI_, bV_, bR_, and_self, and_true, true_and, ↓reduceIte, eq_self, oj_84, bI_1, bI_0, L0, L1, L10, L22, L48, le_t, le_f, lt_t, lt_f, eq_t, eq_f, ncl, nI_add, nmul, nsub, ndiv, nrem, nrem', nrN, i22, t.2]
    exact nx
theorem Tk.nb {N : Nat} {T : Nat → Nat} {p e c v : Nat} (q : Tk N T p e c v) : p < e ∧ e ≤ N := ⟨q.1, q.2.1⟩
/-- one token: where it ends, its code, its number -/
theorem tk_C {h : Hp} {N : Nat} {T : Nat → Nat} (q : TpC h N T) {p : Nat} (hp : p < N) : ∃ e c v, Tk N T p e c v ∧ S_47 (nI p) h = some (nI e, h) ∧ (∀ h', (∀ x, x = 21 ∨ x = 22 → h' x = h x) → S_50 (nI p) (nI e) h' = some (nI c, h')) ∧ c < 29 ∧ (c = 26 → ∀ h', (∀ x, x = 21 ∨ x = 22 → h' x = h x) → S_64 (nI p) (nI e) h' = some (nI v, h')) := by
  have q0 := q
  obtain ⟨q1, q2, q3⟩ := q
  obtain ⟨t1, t2⟩ := q3 p hp
  have i22 : IA 22 (nI p) = True := ia_22 (by omega)
  rcases dLet (T p) with c | c
  · obtain ⟨e, g, e1, e2, e3, e4⟩ := l_47a q0 (N - (p + 1)) (p + 1) fuL (by omega) (fuL_gt (by omega))
    have hw : ∀ (l : List (List Nat)) (i : Nat) (f : Nat → Int32) (n : Nat), i + l.length ≤ 18 → wdF f n l i < 18 ∨ wdF f n l i = 28 := by
      intro l
      induction l with
      | nil => exact fun _ _ _ _ => Or.inr rfl
      | cons w t ih =>
        intro i f n hi
        simp only [List.length_cons] at hi
        unfold wdF
        by_cases c : w.length = n ∧ ∀ j, j < n → f j = nI (w.getD j 0)
        · rw [if_pos c]; omega
        · rw [if_neg c]; exact ih (i + 1) f n (by omega)
    have hc := hw wdL 0 (fun j => nI (T (p + j))) (e - p) (by decide)
    refine ⟨e, wcF T p (e - p), 0, ⟨by omega, e2, Or.inl ⟨c, fun j j1 j2 => ?_, e4, rfl⟩⟩, ?_, fun h' hh => ?_, by unfold wcF; omega, fun w => by unfold wcF at w; omega⟩
    · by_cases ej : j = p
      · rw [ej]; exact c
      · exact e3 j (by omega) j2
    · have s := (s_48 (h := h) t1).1 c
      simp (disch := omega) only [S_47, R_47_0, R_47_13, gd_t, bI_, bV_, bR_, and_self, and_true, true_and, ↓reduceIte, eq_self, oj_84, bI_1, bI_0, L0, L1, le_t, le_f, lt_t, lt_f, eq_t, eq_f, ncl, nI_add, nmul, nsub, ndiv, nrem, nrem', nrN, i22, t2, s]
      exact g
    · have s := (s_48 (h := h') t1).1 c
      have t2' : h' 22 p = nI (T p) := by rw [hh 22 (Or.inr rfl)]; exact t2
      have ew : wdF (fun j => h' 22 (p + j)) (e - p) wdL 0 = wcF T p (e - p) := wdF_c (fun j hj => by
        show h' 22 (p + j) = nI (T (p + j))
        rw [hh 22 (Or.inr rfl)]
        exact (q3 (p + j) (by omega)).2) _ _
      have s51 : S_51 (nI p) (nI e) h' = some (nI (wcF T p (e - p)), h') := by
        have a1 : (nI p).toNatClampNeg = p := ncl (by omega)
        have a2 : (nI e).toNatClampNeg = e := ncl (by omega)
        unfold S_51
        rw [a1, a2, ew, gd_p ⟨rfl, rfl, by omega, by omega⟩]
      simp (disch := omega) only [S_50, R_50_0, R_50_9, R_50_12, R_50_18, gd_t, bI_, bV_, bR_, and_self, and_true, true_and, ↓reduceIte, eq_self, oj_84, bI_1, bI_0, L0, L1, le_t, le_f, lt_t, lt_f, eq_t, eq_f, ncl, nI_add, nmul, nsub, ndiv, nrem, nrem', nrN, i22, t2', s, s51]
  · rcases dDig (T p) with c2 | c2
    · obtain ⟨e, g, e1, e2, e3, e4⟩ := l_47b q0 (N - (p + 1)) (p + 1) fuL (by omega) (fuL_gt (by omega))
      have hd : ∀ j, p ≤ j → j < e → isDig (T j) := fun j j1 j2 => by
        by_cases ej : j = p
        · rw [ej]; exact c2
        · exact e3 j (by omega) j2
      refine ⟨e, if e - p ≤ 4 then 26 else 28, numF T p (e - p), ⟨by omega, e2, Or.inr (Or.inl ⟨c2, hd, e4, rfl, fun _ => rfl⟩)⟩, ?_, fun h' hh => ?_, by split <;> omega, fun w h' hh => ?_⟩
      · have s := (s_48 (h := h) t1).2 c
        have s2 := (s_49 (h := h) t1).1 c2
        simp (disch := omega) only [S_47, R_47_0, R_47_13, R_47_42, R_47_51, gd_t, bI_, bV_, bR_, and_self, and_true, true_and, ↓reduceIte, eq_self, oj_84, bI_1, bI_0, L0, L1, le_t, le_f, lt_t, lt_f, eq_t, eq_f, ncl, nI_add, nmul, nsub, ndiv, nrem, nrem', nrN, i22, t2, s, s2]
        exact g
      · have s := (s_48 (h := h') t1).2 c
        have s2 := (s_49 (h := h') t1).1 c2
        have t2' : h' 22 p = nI (T p) := by rw [hh 22 (Or.inr rfl)]; exact t2
        by_cases c4 : e - p ≤ 4
        · rw [if_pos c4]
          simp (disch := omega) only [S_50, R_50_0, R_50_9, R_50_19, R_50_28, R_50_31, R_50_38, gd_t, bI_, bV_, bR_, and_self, and_true, true_and, ↓reduceIte, eq_self, oj_84, bI_1, bI_0, L0, L1, L4, L20, L21, L22, L23, L24, L25, L26, L28, L40, L41, L59, L60, L61, L62, le_t, le_f, lt_t, lt_f, eq_t, eq_f, ncl, nI_add, nmul, nsub, ndiv, nrem, nrem', nrN, i22, t2', s, s2]
        · rw [if_neg c4]
          simp (disch := omega) only [S_50, R_50_0, R_50_9, R_50_19, R_50_28, R_50_31, R_50_43, gd_t, bI_, bV_, bR_, and_self, and_true, true_and, ↓reduceIte, eq_self, oj_84, bI_1, bI_0, L0, L1, L4, L20, L21, L22, L23, L24, L25, L26, L28, L40, L41, L59, L60, L61, L62, le_t, le_f, lt_t, lt_f, eq_t, eq_f, ncl, nI_add, nmul, nsub, ndiv, nrem, nrem', nrN, i22, t2', s, s2]
      · have qh : TpC h' N T := ⟨q1, by rw [hh 21 (Or.inl rfl)]; exact q2, fun j hj => by rw [hh 22 (Or.inr rfl)]; exact q3 j hj⟩
        exact l_64 qh e2 hd (e - p) 0 fuL (by omega) (fuL_gt (by omega))
    · refine ⟨p + 1, byteC (T p), 0, ⟨by omega, by omega, Or.inr (Or.inr ⟨c, c2, rfl, rfl⟩)⟩, ?_, fun h' hh => ?_, byteC_lt _, fun w => ?_⟩
      · have s := (s_48 (h := h) t1).2 c
        have s2 := (s_49 (h := h) t1).2 c2
        simp (disch := omega) only [S_47, R_47_0, R_47_13, R_47_42, R_47_51, R_47_80, gd_t, bI_, bV_, bR_, and_self, and_true, true_and, ↓reduceIte, eq_self, oj_84, bI_1, bI_0, L0, L1, le_t, le_f, lt_t, lt_f, eq_t, eq_f, ncl, nI_add, nmul, nsub, ndiv, nrem, nrem', nrN, i22, t2, s, s2]
      · have s := (s_48 (h := h') t1).2 c
        have s2 := (s_49 (h := h') t1).2 c2
        have t2' : h' 22 p = nI (T p) := by rw [hh 22 (Or.inr rfl)]; exact t2
        by_cases b1 : T p = 40
        · have eb : byteC (T p) = 23 := by rw [b1]; rfl
          rw [eb]
          rw [b1] at s s2 t2'
          simp (disch := omega) only [R_50_121, R_50_124, R_50_127, R_50_112, R_50_115, R_50_118, R_50_130, R_50_46, R_50_43, R_50_38, R_50_31, R_50_28, R_50_19, R_50_18, R_50_12, R_50_9, R_50_0, S_50, gd_t, bI_, bV_, bR_, and_self, and_true, true_and, ↓reduceIte, eq_self, oj_84, bI_1, bI_0, L0, L1, L4, L20, L21, L22, L23, L24, L25, L26, L28, L40, L41, L59, L60, L61, L62, le_t, le_f, lt_t, lt_f, eq_t, eq_f, ncl, nI_add, nmul, nsub, ndiv, nrem, nrem', nrN, i22, t2', s, s2]
        by_cases b2 : T p = 41
        · have eb : byteC (T p) = 24 := by rw [b2]; rfl
          rw [eb]
          rw [b2] at s s2 t2'
          simp (disch := omega) only [R_50_121, R_50_124, R_50_127, R_50_112, R_50_115, R_50_118, R_50_130, R_50_46, R_50_43, R_50_38, R_50_31, R_50_28, R_50_19, R_50_18, R_50_12, R_50_9, R_50_0, S_50, gd_t, bI_, bV_, bR_, and_self, and_true, true_and, ↓reduceIte, eq_self, oj_84, bI_1, bI_0, L0, L1, L4, L20, L21, L22, L23, L24, L25, L26, L28, L40, L41, L59, L60, L61, L62, le_t, le_f, lt_t, lt_f, eq_t, eq_f, ncl, nI_add, nmul, nsub, ndiv, nrem, nrem', nrN, i22, t2', s, s2]
        by_cases b3 : T p = 59
        · have eb : byteC (T p) = 25 := by rw [b3]; rfl
          rw [eb]
          rw [b3] at s s2 t2'
          simp (disch := omega) only [R_50_121, R_50_124, R_50_127, R_50_112, R_50_115, R_50_118, R_50_130, R_50_46, R_50_43, R_50_38, R_50_31, R_50_28, R_50_19, R_50_18, R_50_12, R_50_9, R_50_0, S_50, gd_t, bI_, bV_, bR_, and_self, and_true, true_and, ↓reduceIte, eq_self, oj_84, bI_1, bI_0, L0, L1, L4, L20, L21, L22, L23, L24, L25, L26, L28, L40, L41, L59, L60, L61, L62, le_t, le_f, lt_t, lt_f, eq_t, eq_f, ncl, nI_add, nmul, nsub, ndiv, nrem, nrem', nrN, i22, t2', s, s2]
        by_cases b4 : T p = 60
        · have eb : byteC (T p) = 20 := by rw [b4]; rfl
          rw [eb]
          rw [b4] at s s2 t2'
          simp (disch := omega) only [R_50_121, R_50_124, R_50_127, R_50_112, R_50_115, R_50_118, R_50_130, R_50_46, R_50_43, R_50_38, R_50_31, R_50_28, R_50_19, R_50_18, R_50_12, R_50_9, R_50_0, S_50, gd_t, bI_, bV_, bR_, and_self, and_true, true_and, ↓reduceIte, eq_self, oj_84, bI_1, bI_0, L0, L1, L4, L20, L21, L22, L23, L24, L25, L26, L28, L40, L41, L59, L60, L61, L62, le_t, le_f, lt_t, lt_f, eq_t, eq_f, ncl, nI_add, nmul, nsub, ndiv, nrem, nrem', nrN, i22, t2', s, s2]
        by_cases b5 : T p = 61
        · have eb : byteC (T p) = 21 := by rw [b5]; rfl
          rw [eb]
          rw [b5] at s s2 t2'
          simp (disch := omega) only [R_50_121, R_50_124, R_50_127, R_50_112, R_50_115, R_50_118, R_50_130, R_50_46, R_50_43, R_50_38, R_50_31, R_50_28, R_50_19, R_50_18, R_50_12, R_50_9, R_50_0, S_50, gd_t, bI_, bV_, bR_, and_self, and_true, true_and, ↓reduceIte, eq_self, oj_84, bI_1, bI_0, L0, L1, L4, L20, L21, L22, L23, L24, L25, L26, L28, L40, L41, L59, L60, L61, L62, le_t, le_f, lt_t, lt_f, eq_t, eq_f, ncl, nI_add, nmul, nsub, ndiv, nrem, nrem', nrN, i22, t2', s, s2]
        by_cases b6 : T p = 62
        · have eb : byteC (T p) = 22 := by rw [b6]; rfl
          rw [eb]
          rw [b6] at s s2 t2'
          simp (disch := omega) only [R_50_121, R_50_124, R_50_127, R_50_112, R_50_115, R_50_118, R_50_130, R_50_46, R_50_43, R_50_38, R_50_31, R_50_28, R_50_19, R_50_18, R_50_12, R_50_9, R_50_0, S_50, gd_t, bI_, bV_, bR_, and_self, and_true, true_and, ↓reduceIte, eq_self, oj_84, bI_1, bI_0, L0, L1, L4, L20, L21, L22, L23, L24, L25, L26, L28, L40, L41, L59, L60, L61, L62, le_t, le_f, lt_t, lt_f, eq_t, eq_f, ncl, nI_add, nmul, nsub, ndiv, nrem, nrem', nrN, i22, t2', s, s2]
        have eb : byteC (T p) = 28 := by
          unfold byteC
          rw [if_neg b1, if_neg b2, if_neg b3, if_neg b4, if_neg b5, if_neg b6]
        rw [eb]
        simp (disch := omega) only [R_50_121, R_50_124, R_50_127, R_50_112, R_50_115, R_50_118, R_50_130, R_50_46, R_50_43, R_50_38, R_50_31, R_50_28, R_50_19, R_50_18, R_50_12, R_50_9, R_50_0, S_50, gd_t, bI_, bV_, bR_, and_self, and_true, true_and, ↓reduceIte, eq_self, oj_84, bI_1, bI_0, L0, L1, L4, L20, L21, L22, L23, L24, L25, L26, L28, L40, L41, L59, L60, L61, L62, le_t, le_f, lt_t, lt_f, eq_t, eq_f, ncl, nI_add, nmul, nsub, ndiv, nrem, nrem', nrN, i22, t2', s, s2, eq_f]
      · exfalso
        unfold byteC at w
        repeat' split at w
        all_goals omega
/-- how the tokens lie in the class -/
def ArC (h : Hp) (c : Nat) (R : List (Nat × Nat × Nat)) : Prop := ∀ i t, R[i]? = some t → t.1 < 29 ∧ h 28 (c + i) = nI t.1 ∧ h 29 (c + i) = nI t.2.1 ∧ (t.1 = 26 → h 30 (c + i) = nI t.2.2)
theorem l_46 {N : Nat} {T : Nat → Nat} : ∀ (r p c fu : Nat) (h : Hp), N - p ≤ r → p ≤ N → r < fu → c ≤ p → TpC h N T → ∃ h' R, H_46_4 fu (nI c) (nI p) h = some (nI 0, h') ∧ Same [28, 29, 30] h h' ∧ Lx N T p R ∧ c + R.length ≤ N + 1 ∧ ArC h' c R ∧ ∀ j, j < c → h' 28 j = h 28 j ∧ h' 29 j = h 29 j ∧ h' 30 j = h 30 j := by
  intro r
  induction r with
  | zero =>
    intro p c fu h h1 h2 hf hc q
    obtain ⟨fu, rfl⟩ : ∃ p, fu = p + 1 := ⟨fu - 1, by omega⟩
    obtain ⟨q1, q2, q3⟩ := q
    have ep : p = N := by omega
    have i28 : IA 28 (nI c) = True := ia_28 (by omega)
    have i29 : IA 29 (nI c) = True := ia_29 (by omega)
    refine ⟨wr (wr h 28 c (nI 27)) 29 c (nI N), [(27, N, 0)], ?_, ?_, ⟨N, by omega, by omega, fun j _ _ => by omega, rfl, Or.inl ⟨rfl, rfl, rfl⟩⟩, by simp; omega, fun i t ht => ?_, fun j hj => ?_⟩
    · have e1 : wr h 28 c (nI 27) 21 1 = nI N := by rw [wr_c (by decide)]; exact q2
      simp (disch := omega) only [H_46_4, R_46_91, R_46_76, R_46_73, R_46_67, R_46_43, R_46_31, R_46_26, R_46_23, R_46_12, R_46_4, R_46_0, S_46, gd_t, bI_, bV_, bR_, and_self, and_true, true_and, ↓reduceIte, eq_self, oj_84, bI_1, bI_0, L0, L1, L21, L22, L26, L27, L28, L29, L30, L32, le_t, le_f, lt_t, lt_f, eq_t, eq_f, ncl, nI_add, nmul, nsub, ndiv, nrem, nrem', nrN, q2, ep, i28, i29, e1]
    · exact (Same.rf.wr (by decide)).wr (by decide)
    · match i, ht with
      | 0, ht =>
        have := Option.some.inj ht
        subst this
        exact ⟨show 27 < 29 by decide, by rw [Nat.add_zero, wr_c (by decide), wr_self], by rw [Nat.add_zero, wr_self], fun w => by cases w⟩
      | i + 1, ht => cases ht
    · have : j ≠ c := by omega
      exact ⟨by rw [wr_c (by decide), wr_k this], by rw [wr_k this, wr_c (by decide)], by rw [wr_c (by decide), wr_c (by decide)]⟩
  | succ r ih =>
    intro p c fu h h1 h2 hf hc q
    by_cases ep : p = N
    · have := ih p c fu h (by omega) h2 (by omega) hc q
      exact this
    obtain ⟨fu, rfl⟩ : ∃ p, fu = p + 1 := ⟨fu - 1, by omega⟩
    have q0 := q
    obtain ⟨q1, q2, q3⟩ := q
    obtain ⟨t1, t2⟩ := q3 p (by omega)
    have i22 : IA 22 (nI p) = True := ia_22 (by omega)
    by_cases b : T p = 32
    · obtain ⟨h', R, g, a1, a2, a3, a4, a5⟩ := ih (p + 1) c fu h (by omega) (by omega) (by omega) (by omega) q0
      refine ⟨h', R, ?_, a1, Lx_blank b a2, a3, a4, a5⟩
      have t2' : h 22 p = nI 32 := by rw [t2, b]
      simp (disch := omega) only [H_46_4, R_46_91, R_46_76, R_46_73, R_46_67, R_46_43, R_46_31, R_46_26, R_46_23, R_46_12, R_46_4, R_46_0, S_46, gd_t, bI_, bV_, bR_, and_self, and_true, true_and, ↓reduceIte, eq_self, oj_84, bI_1, bI_0, L0, L1, L21, L22, L26, L27, L28, L29, L30, L32, le_t, le_f, lt_t, lt_f, eq_t, eq_f, ncl, nI_add, nmul, nsub, ndiv, nrem, nrem', nrN, q2, i22, t2']
      exact g
    · obtain ⟨e, cd, v, k1, k2, k3, k4, k5⟩ := tk_C q0 (p := p) (by omega)
      have i28 : IA 28 (nI c) = True := ia_28 (by omega)
      have i29 : IA 29 (nI c) = True := ia_29 (by omega)
      have i30 : IA 30 (nI c) = True := ia_30 (by omega)
      obtain ⟨pe, eN⟩ := k1.nb
      have em : e - 1 + 1 = e := by omega
      have e50 := k3 h (fun _ _ => rfl)
      have fin : ∀ x : Int32, (cd = 26 → x = nI v) → ∃ h' R, H_46_4 fu (nI (c + 1)) (nI e) (wr (wr (wr h 28 c (nI cd)) 29 c (nI p)) 30 c x) = some (nI 0, h') ∧ Same [28, 29, 30] h h' ∧ Lx N T p R ∧ c + R.length ≤ N + 1 ∧ ArC h' c R ∧ ∀ j, j < c → h' 28 j = h 28 j ∧ h' 29 j = h 29 j ∧ h' 30 j = h 30 j := by
        intro x hx
        have sm : Same [28, 29, 30] h (wr (wr (wr h 28 c (nI cd)) 29 c (nI p)) 30 c x) := ((Same.rf.wr (by decide)).wr (by decide)).wr (by decide)
        obtain ⟨h', R, g, a1, a2, a3, a4, a5⟩ := ih e (c + 1) fu (wr (wr (wr h 28 c (nI cd)) 29 c (nI p)) 30 c x) (by omega) eN (by omega) (by omega) ⟨q1, by rw [sm 21 (by decide)]; exact q2, fun j hj => by rw [sm 22 (by decide)]; exact q3 j hj⟩
        refine ⟨h', (cd, p, v) :: R, g, sm.tr a1, ⟨p, by omega, by omega, fun j _ _ => by omega, rfl, Or.inr ⟨by omega, b, e, k1, a2⟩⟩, by simp only [List.length_cons]; omega, fun i t ht => ?_, fun j hj => ?_⟩
        · match i, ht with
          | 0, ht =>
            have := Option.some.inj ht
            subst this
            obtain ⟨z1, z2, z3⟩ := a5 c (by omega)
            rw [Nat.add_zero, z1, z2, z3]
            exact ⟨k4, by rw [wr_c (by decide), wr_c (by decide), wr_self], by rw [wr_c (by decide), wr_self], fun w => by rw [wr_self]; exact hx w⟩
          | i + 1, ht =>
            have := a4 i t (by simpa using ht)
            rwa [show c + 1 + i = c + (i + 1) by omega] at this
        · obtain ⟨z1, z2, z3⟩ := a5 j (by omega)
          have : j ≠ c := by omega
          exact ⟨by rw [z1, wr_c (by decide), wr_c (by decide), wr_k this], by rw [z2, wr_c (by decide), wr_k this, wr_c (by decide)], by rw [z3, wr_k this, wr_c (by decide), wr_c (by decide)]⟩
      have bb : (nI (T p) = nI 32) = False := eq_f b (by omega) (by decide)
      have ewc : wr (wr h 28 c (nI cd)) 29 c (nI p) 28 c = nI cd := by rw [wr_c (by decide), wr_self]
      by_cases c26 : cd = 26
      · obtain ⟨h', R, g, a⟩ := fin (nI v) (fun _ => rfl)
        refine ⟨h', R, ?_, a⟩
        have e64 := k5 c26 (wr (wr h 28 c (nI cd)) 29 c (nI p)) (fun x hx => by rw [wr_c (by omega), wr_c (by omega)])
        have ewc' : (wr (wr h 28 c (nI cd)) 29 c (nI p) 28 c = nI 26) = True := by rw [ewc, c26]; exact eq_self _
        simp (disch := omega) only [H_46_4, R_46_91, R_46_76, R_46_73, R_46_67, R_46_43, R_46_31, R_46_26, R_46_23, R_46_12, R_46_4, R_46_0, S_46, gd_t, bI_, bV_, bR_, and_self, and_true, true_and, ↓reduceIte, eq_self, oj_84, bI_1, bI_0, L0, L1, L21, L22, L26, L27, L28, L29, L30, L32, le_t, le_f, lt_t, lt_f, eq_t, eq_f, ncl, nI_add, nmul, nsub, ndiv, nrem, nrem', nrN, q2, i22, t2, bb, k2, e50, i28, i29, i30, ewc', e64, em]
        exact g
      · obtain ⟨h', R, g, a⟩ := fin (nI 0) (fun w => absurd w c26)
        refine ⟨h', R, ?_, a⟩
        have ewc' : (wr (wr h 28 c (nI cd)) 29 c (nI p) 28 c = nI 26) = False := by rw [ewc]; exact eq_f c26 (by omega) (by decide)
        simp (disch := omega) only [H_46_4, R_46_91, R_46_76, R_46_73, R_46_67, R_46_43, R_46_31, R_46_26, R_46_23, R_46_12, R_46_4, R_46_0, S_46, gd_t, bI_, bV_, bR_, and_self, and_true, true_and, ↓reduceIte, eq_self, oj_84, bI_1, bI_0, L0, L1, L21, L22, L26, L27, L28, L29, L30, L32, le_t, le_f, lt_t, lt_f, eq_t, eq_f, ncl, nI_add, nmul, nsub, ndiv, nrem, nrem', nrN, q2, i22, t2, bb, k2, e50, i28, i29, i30, ewc', em]
        exact g
