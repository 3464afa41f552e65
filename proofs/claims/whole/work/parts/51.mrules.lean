/-! part 51: the model's rules: conditions as numbers on a pile; will, isMendable, actOfRest -/
def dnM (s x y : Nat) : Nat := if s = 38 then x * y else if s = 60 then (if x < y then 1 else 0) else if s = 61 then (if x = y then 1 else 0) else if s = 62 then (if y < x then 1 else 0) else (if 0 < x + y then 1 else 0)
/-- the model's code at work on a pile, its top first -/
def evM (f : Nat → Nat) : List Nat → List Nat → Option (List Nat)
  | [], st => some st
  | c :: t, st =>
    if c < 20000 then (if c < 10005 then evM f t (vaL f c :: st) else none)
    else if c = 20033 then (match st with
      | a :: u => if a ≤ 1 then evM f t ((1 - a) :: u) else none
      | _ => none)
    else match st with
      | b :: a :: u => if (60 ≤ c - 20000 ∧ c - 20000 ≤ 62) ∨ ((c = 20038 ∨ c = 20124) ∧ a ≤ 1 ∧ b ≤ 1) then evM f t (dnM (c - 20000) a b :: u) else none
      | _ => none
def SegM (σ : Nat → Int32) (i : Nat) (L : List Nat) : Prop := ∀ j v, L[j]? = some v → σ (121 + (i + j)) = nI v ∧ v < 30000
def CdM (L : List Nat) (c : (Nat → Nat) → Bool) : Prop := (L = [] ∧ ∀ f, c f = true) ∨ (L ≠ [] ∧ ∀ f, evM f L [] = some [(c f).toNat])
def RulesM (σ : Nat → Int32) (rl : Rl) : Prop := σ 5 = nI rl.length ∧ rl.length ≤ 8 ∧ ∃ (b : Nat → Nat) (Ls : Nat → List Nat), ∀ i q, rl[i]? = some q → σ (89 + 4 * i) = nI q.1 ∧ q.1 ≤ 5 ∧ σ (89 + 4 * i + 1) = nI q.2.1 ∧ q.2.1 ≤ 2 ∧ σ (89 + 4 * i + 2) = nI (b i) ∧ σ (89 + 4 * i + 3) = nI (b i + (Ls i).length) ∧ b i + (Ls i).length ≤ 240 ∧ SegM σ (b i) (Ls i) ∧ CdM (Ls i) q.2.2
theorem dnM_lt {s x y : Nat} (hy : s = 38 → x ≤ 1 ∧ y ≤ 1) : dnM s x y < 2 := by
  unfold dnM
  split
  · rename_i c
    obtain ⟨h1, h2⟩ := hy c
    have : x = 0 ∨ x = 1 := by omega
    rcases this with rfl | rfl <;> omega
  repeat' split
  all_goals omega
theorem s_195 {h : Hp} {c x y : Nat} (hx : x < 2147483648) (hy : y < 2147483648) (hc : (60 ≤ c - 20000 ∧ c - 20000 ≤ 62) ∨ ((c = 20038 ∨ c = 20124) ∧ x ≤ 1 ∧ y ≤ 1)) : S_195 (nI (c - 20000)) (nI x) (nI y) h = some (nI (dnM (c - 20000) x y), h) := by
  rcases hc with hc | ⟨rfl | rfl, h1, h2⟩
  · rcases (show c - 20000 = 60 ∨ c - 20000 = 61 ∨ c - 20000 = 62 by omega) with e | e | e
    · rw [e]
      by_cases q : x < y <;> simp (disch := omega) only [R_195_77, R_195_53, R_195_49, R_195_44, R_195_64, R_195_60, R_195_55, R_195_75, R_195_71, R_195_66, R_195_91, R_195_87, R_195_81, R_195_0, S_195, gd_t, bI_, bV_, bR_, and_self, and_true, true_and, ↓reduceIte, eq_self, oj_84, bI_1, bI_0, L0, L1, L38, L60, L61, L62, le_t, le_f, lt_t, lt_f, eq_t, eq_f, ncl, nI_add, nmul, nsub, ndiv, nrem, nrem', nrN, L38, dnM, q] <;> simp [q]
    · rw [e]
      by_cases q : x = y <;> simp (disch := omega) only [R_195_77, R_195_53, R_195_49, R_195_44, R_195_64, R_195_60, R_195_55, R_195_75, R_195_71, R_195_66, R_195_91, R_195_87, R_195_81, R_195_0, S_195, gd_t, bI_, bV_, bR_, and_self, and_true, true_and, ↓reduceIte, eq_self, oj_84, bI_1, bI_0, L0, L1, L38, L60, L61, L62, le_t, le_f, lt_t, lt_f, eq_t, eq_f, ncl, nI_add, nmul, nsub, ndiv, nrem, nrem', nrN, L38, dnM, q] <;> simp [q]
    · rw [e]
      by_cases q : y < x <;> simp (disch := omega) only [R_195_77, R_195_53, R_195_49, R_195_44, R_195_64, R_195_60, R_195_55, R_195_75, R_195_71, R_195_66, R_195_91, R_195_87, R_195_81, R_195_0, S_195, gd_t, bI_, bV_, bR_, and_self, and_true, true_and, ↓reduceIte, eq_self, oj_84, bI_1, bI_0, L0, L1, L38, L60, L61, L62, le_t, le_f, lt_t, lt_f, eq_t, eq_f, ncl, nI_add, nmul, nsub, ndiv, nrem, nrem', nrN, L38, dnM, q] <;> simp [q]
  · simp (disch := omega) only [R_195_77, R_195_53, R_195_49, R_195_44, R_195_64, R_195_60, R_195_55, R_195_75, R_195_71, R_195_66, R_195_91, R_195_87, R_195_81, R_195_0, S_195, gd_t, bI_, bV_, bR_, and_self, and_true, true_and, ↓reduceIte, eq_self, oj_84, bI_1, bI_0, L0, L1, L38, L60, L61, L62, le_t, le_f, lt_t, lt_f, eq_t, eq_f, ncl, nI_add, nmul, nsub, ndiv, nrem, nrem', nrN, dnM, L38]
  · rcases (show x = 0 ∨ x = 1 by omega) with rfl | rfl <;> rcases (show y = 0 ∨ y = 1 by omega) with rfl | rfl <;> rfl
theorem s_194 {h : Hp} {s : Sg} {m : Mo} {k j : Nat} (so : SgOk s) (mo : MoOk s m) (q : MdAt (h 85) s m) (hk : k < sN s) (hj : j < 5) : S_194 (nI j) (nI k) h = some (nI (factsS s m k j), h) := by
  have hn := so.1
  rcases (show j = 0 ∨ j = 1 ∨ j = 2 ∨ j = 3 ∨ j = 4 by omega) with rfl | rfl | rfl | rfl | rfl <;> (simp (disch := omega) only [R_194_32, R_194_45, R_194_39, R_194_52, R_194_46, R_194_57, R_194_53, R_194_58, R_194_0, S_194, gd_t, bI_, bV_, bR_, and_self, and_true, true_and, ↓reduceIte, eq_self, oj_84, bI_1, bI_0, L0, L1, L2, L3, L85, le_t, le_f, lt_t, lt_f, eq_t, eq_f, ncl, nI_add, nmul, nsub, ndiv, nrem, nrem', nrN, ia_85, q.night, of1 q so, of2 q so, s_183 so mo q]) <;> rfl
def PileAt (H : Hp) (st : List Nat) : Prop := ∀ j v, st[j]? = some v → H 88 (st.length - 1 - j) = nI v ∧ v < 2147483648
theorem PileAt.push {H : Hp} {st : List Nat} {v : Nat} (a : PileAt H st) (hv : v < 2147483648) : PileAt (wr H 88 st.length (nI v)) (v :: st) := by
  intro j w hj
  match j with
  | 0 =>
    cases hj
    refine ⟨?_, hv⟩
    show wr H 88 st.length (nI v) 88 (st.length + 1 - 1 - 0) = nI v
    rw [show st.length + 1 - 1 - 0 = st.length by omega, wr_self]
  | j + 1 =>
    have hj' : st[j]? = some w := by simpa using hj
    have hl : j < st.length := (List.getElem?_eq_some_iff.mp hj').1
    refine ⟨?_, (a j w hj').2⟩
    show wr H 88 st.length (nI v) 88 (st.length + 1 - 1 - (j + 1)) = nI w
    rw [wr_k (by omega), show st.length + 1 - 1 - (j + 1) = st.length - 1 - j by omega]
    exact (a j w hj').1
theorem PileAt.tl {H : Hp} {st : List Nat} {v : Nat} (a : PileAt H (v :: st)) : PileAt H st := by
  intro j w hj
  have hl : j < st.length := (List.getElem?_eq_some_iff.mp hj).1
  have := a (j + 1) w (by simpa using hj)
  rwa [show (v :: st).length - 1 - (j + 1) = st.length - 1 - j by simp only [List.length_cons]; omega] at this
theorem SegM.tl {σ : Nat → Int32} {i c : Nat} {t : List Nat} (a : SegM σ i (c :: t)) : SegM σ (i + 1) t := fun j v hj => by
  have := a (j + 1) v (by simpa using hj)
  rwa [show i + (j + 1) = i + 1 + j by omega] at this
theorem evM_num {f : Nat → Nat} {c : Nat} {t st : List Nat} (h : c < 20000) : evM f (c :: t) st = if c < 10005 then evM f t (vaL f c :: st) else none := by rw [evM.eq_def]; simp only [h, if_true]
theorem evM_not {f : Nat → Nat} {a : Nat} {t u : List Nat} : evM f (20033 :: t) (a :: u) = if a ≤ 1 then evM f t ((1 - a) :: u) else none := rfl
theorem evM_op {f : Nat → Nat} {c a b : Nat} {t u : List Nat} (h : ¬ c < 20000) (h2 : ¬ c = 20033) : evM f (c :: t) (b :: a :: u) = if (60 ≤ c - 20000 ∧ c - 20000 ≤ 62) ∨ ((c = 20038 ∨ c = 20124) ∧ a ≤ 1 ∧ b ≤ 1) then evM f t (dnM (c - 20000) a b :: u) else none := by rw [evM.eq_def]; simp only [h, h2, if_false]
set_option maxRecDepth 100000 in
theorem hold_m {h : Hp} {s : Sg} {m : Mo} {k to x : Nat} (so : SgOk s) (mo : MoOk s m) (q : MdAt (h 85) s m) (hk : k < sN s) (hf : ∀ j, j < 5 → factsS s m k j < 2147483648) (hto : to ≤ 240) : ∀ (L : List Nat) (i : Nat) (st : List Nat) (n : Nat) (H : Hp), i + L.length = to → L.length < n → SegM (h 85) i L → Same [88] h H → PileAt H st → st.length + L.length ≤ 240 → evM (factsS s m k) L st = some [x] → ∃ H', H_193_13 n (nI to) (nI k) (nI st.length) (nI i) H = some (bI (x == 1), H') ∧ Same [88] h H' := by
  have hn := so.1
  intro L
  induction L with
  | nil =>
    intro i st n H hi hl hs sH hp hst hev
    obtain ⟨n, rfl⟩ : ∃ p, n = p + 1 := ⟨n - 1, by omega⟩
    have e := Option.some.inj hev
    subst e
    obtain ⟨p0, px⟩ := hp 0 x rfl
    have p0' : H 88 0 = nI x := p0
    have : to = i := by simpa using hi.symm
    refine ⟨H, ?_, sH⟩
    by_cases hx : x = 1
    · simp (disch := omega) only [H_193_13, R_193_164, R_193_160, R_193_150, R_193_143, R_193_107, R_193_84, R_193_76, R_193_69, R_193_58, R_193_53, R_193_39, R_193_19, R_193_13, R_193_7, R_193_5, R_193_0, S_193, gd_t, bI_, bV_, bR_, and_self, and_true, true_and, ↓reduceIte, eq_self, oj_84, bI_1, bI_0, L0, L1, L85, L88, L121, L10000, L20000, L20033, le_t, le_f, lt_t, lt_f, eq_t, eq_f, ncl, nI_add, nmul, nsub, ndiv, nrem, nrem', nrN, ia_88, p0', hx, this]
      rfl
    · simp (disch := omega) only [H_193_13, R_193_164, R_193_160, R_193_150, R_193_143, R_193_107, R_193_84, R_193_76, R_193_69, R_193_58, R_193_53, R_193_39, R_193_19, R_193_13, R_193_7, R_193_5, R_193_0, S_193, gd_t, bI_, bV_, bR_, and_self, and_true, true_and, ↓reduceIte, eq_self, oj_84, bI_1, bI_0, L0, L1, L85, L88, L121, L10000, L20000, L20033, le_t, le_f, lt_t, lt_f, eq_t, eq_f, ncl, nI_add, nmul, nsub, ndiv, nrem, nrem', nrN, ia_88, p0', hx, this]
      rw [show (x == 1) = false by simpa using hx]; rfl
  | cons c t ih =>
    intro i st n H hi hl hs sH hp hst hev
    obtain ⟨n, rfl⟩ : ∃ p, n = p + 1 := ⟨n - 1, by omega⟩
    simp only [List.length_cons] at hi hl hst
    have e85 : H 85 = h 85 := sH 85 (by decide)
    obtain ⟨c0, c1⟩ := hs 0 c rfl
    rw [Nat.add_zero] at c0
    have q' : MdAt (H 85) s m := by rw [e85]; exact q
    have go : ∀ (st' : List Nat) (H2 : Hp), Same [88] h H2 → PileAt H2 st' → st'.length + t.length ≤ 240 → evM (factsS s m k) t st' = some [x] → ∃ H', H_193_13 n (nI to) (nI k) (nI st'.length) (nI (i + 1)) H2 = some (bI (x == 1), H') ∧ Same [88] h H' := fun st' H2 a b d e => ih (i + 1) st' n H2 (by omega) (by omega) hs.tl a b d e
    by_cases h1 : c < 20000
    · rw [evM_num h1] at hev
      by_cases h2 : c < 10005
      · rw [if_pos h2] at hev
        have hv : vaL (factsS s m k) c < 2147483648 := by
          unfold vaL
          split
          · omega
          · exact hf _ (by omega)
        have g := go (vaL (factsS s m k) c :: st) (wr H 88 st.length (nI (vaL (factsS s m k) c))) (sH.wr (by simp)) (hp.push hv) (by simp only [List.length_cons]; omega) hev
        simp only [List.length_cons] at g
        by_cases h3 : c < 10000
        · have ev : vaL (factsS s m k) c = c := if_pos h3
          rw [ev] at g
          simp (disch := omega) only [H_193_13, R_193_164, R_193_160, R_193_150, R_193_143, R_193_107, R_193_84, R_193_76, R_193_69, R_193_58, R_193_53, R_193_39, R_193_19, R_193_13, R_193_7, R_193_5, R_193_0, S_193, gd_t, bI_, bV_, bR_, and_self, and_true, true_and, ↓reduceIte, eq_self, oj_84, bI_1, bI_0, L0, L1, L85, L88, L121, L10000, L20000, L20033, le_t, le_f, lt_t, lt_f, eq_t, eq_f, ncl, nI_add, nmul, nsub, ndiv, nrem, nrem', nrN, ia_88, ia_85, e85, c0]
          exact g
        · have ev : vaL (factsS s m k) c = factsS s m k (c - 10000) := if_neg h3
          rw [ev] at g
          simp (disch := omega) only [H_193_13, R_193_164, R_193_160, R_193_150, R_193_143, R_193_107, R_193_84, R_193_76, R_193_69, R_193_58, R_193_53, R_193_39, R_193_19, R_193_13, R_193_7, R_193_5, R_193_0, S_193, gd_t, bI_, bV_, bR_, and_self, and_true, true_and, ↓reduceIte, eq_self, oj_84, bI_1, bI_0, L0, L1, L85, L88, L121, L10000, L20000, L20033, le_t, le_f, lt_t, lt_f, eq_t, eq_f, ncl, nI_add, nmul, nsub, ndiv, nrem, nrem', nrN, ia_88, ia_85, e85, c0, s_194 so mo q' hk]
          exact g
      · rw [if_neg h2] at hev
        cases hev
    · by_cases h2 : c = 20033
      · subst h2
        match st, hp, hst, hev with
        | [], _, _, hev => cases hev
        | a :: u, hp, hst, hev =>
          rw [evM_not] at hev
          by_cases h3 : a ≤ 1
          · rw [if_pos h3] at hev
            simp only [List.length_cons] at hst
            obtain ⟨p0, pa⟩ := hp 0 a rfl
            have p0' : H 88 u.length = nI a := p0
            have g := go ((1 - a) :: u) (wr H 88 u.length (nI (1 - a))) (sH.wr (by simp)) (hp.tl.push (by omega)) (by simp only [List.length_cons]; omega) hev
            simp only [List.length_cons] at g ⊢
            simp (disch := omega) only [H_193_13, R_193_164, R_193_160, R_193_150, R_193_143, R_193_107, R_193_84, R_193_76, R_193_69, R_193_58, R_193_53, R_193_39, R_193_19, R_193_13, R_193_7, R_193_5, R_193_0, S_193, gd_t, bI_, bV_, bR_, and_self, and_true, true_and, ↓reduceIte, eq_self, oj_84, bI_1, bI_0, L0, L1, L85, L88, L121, L10000, L20000, L20033, le_t, le_f, lt_t, lt_f, eq_t, eq_f, ncl, nI_add, nmul, nsub, ndiv, nrem, nrem', nrN, ia_88, ia_85, e85, c0, Nat.add_sub_cancel, p0']
            exact g
          · rw [if_neg h3] at hev
            cases hev
      · match st, hp, hst, hev with
        | [], _, _, hev => rw [evM.eq_def] at hev; simp only [h1, h2, if_false] at hev; cases hev
        | [_], _, _, hev => rw [evM.eq_def] at hev; simp only [h1, h2, if_false] at hev; cases hev
        | b :: a :: u, hp, hst, hev =>
          rw [evM_op h1 h2] at hev
          by_cases h3 : (60 ≤ c - 20000 ∧ c - 20000 ≤ 62) ∨ ((c = 20038 ∨ c = 20124) ∧ a ≤ 1 ∧ b ≤ 1)
          · rw [if_pos h3] at hev
            simp only [List.length_cons] at hst
            obtain ⟨p0, pb⟩ := hp 0 b rfl
            obtain ⟨p1, pa⟩ := hp 1 a rfl
            have p0' : H 88 (u.length + 1) = nI b := p0
            have p1' : H 88 u.length = nI a := p1
            have hd : dnM (c - 20000) a b < 2 := dnM_lt (fun w => by omega)
            have g := go (dnM (c - 20000) a b :: u) (wr H 88 u.length (nI (dnM (c - 20000) a b))) (sH.wr (by simp)) (hp.tl.tl.push (by omega)) (by simp only [List.length_cons]; omega) hev
            simp only [List.length_cons] at g ⊢
            simp (disch := omega) only [H_193_13, R_193_164, R_193_160, R_193_150, R_193_143, R_193_107, R_193_84, R_193_76, R_193_69, R_193_58, R_193_53, R_193_39, R_193_19, R_193_13, R_193_7, R_193_5, R_193_0, S_193, gd_t, bI_, bV_, bR_, and_self, and_true, true_and, ↓reduceIte, eq_self, oj_84, bI_1, bI_0, L0, L1, L85, L88, L121, L10000, L20000, L20033, le_t, le_f, lt_t, lt_f, eq_t, eq_f, ncl, nI_add, nmul, nsub, ndiv, nrem, nrem', nrN, nm1, ia_88, ia_85, e85, c0, Nat.add_sub_cancel, p0', p1', s_195 pa pb h3]
            exact g
          · rw [if_neg h3] at hev
            cases hev
theorem factsS_lt {s : Sg} {m : Mo} {k : Nat} (so : SgOk s) (mo : MoOk s m) (hk : k < sN s) : ∀ j, j < 5 → factsS s m k j < 2147483648 := by
  intro j hj
  have hn := so.1
  obtain ⟨ht, hp⟩ := mo.1 k hk
  have hh := houseS_le so (mNight m)
  have hnt := mo.2.2
  unfold factsS railS
  repeat' split
  all_goals omega
theorem s_193 {h : Hp} {s : Sg} {m : Mo} {k a : Nat} {L : List Nat} {c : (Nat → Nat) → Bool} (so : SgOk s) (mo : MoOk s m) (q : MdAt (h 85) s m) (hk : k < sN s) (hto : a + L.length ≤ 240) (hs : SegM (h 85) a L) (hc : CdM L c) : ∃ h', S_193 (nI a) (nI (a + L.length)) (nI k) h = some (bI (c (factsS s m k)), h') ∧ Same [88] h h' := by
  rcases hc with ⟨rfl, hc⟩ | ⟨hL, hc⟩
  · refine ⟨h, ?_, Same.rf⟩
    rw [hc]
    simp (disch := omega) only [R_193_164, R_193_160, R_193_150, R_193_143, R_193_107, R_193_84, R_193_76, R_193_69, R_193_58, R_193_53, R_193_39, R_193_19, R_193_13, R_193_7, R_193_5, R_193_0, S_193, gd_t, bI_, bV_, bR_, and_self, and_true, true_and, ↓reduceIte, eq_self, oj_84, bI_1, bI_0, L0, L1, L85, L88, L121, L10000, L20000, L20033, le_t, le_f, lt_t, lt_f, eq_t, eq_f, ncl, nI_add, nmul, nsub, ndiv, nrem, nrem', nrN, List.length_nil, Nat.add_zero]
  · have hl : 0 < L.length := List.length_pos_iff.mpr hL
    obtain ⟨h', g1, g2⟩ := hold_m so mo q hk (factsS_lt so mo hk) hto L a [] fuL h rfl (fuL_gt (by omega)) hs Same.rf (fun j v hj => by simp at hj) (by simp; omega) (hc _)
    refine ⟨h', ?_, g2⟩
    simp only [List.length_nil] at g1
    simp (disch := omega) only [R_193_164, R_193_160, R_193_150, R_193_143, R_193_107, R_193_84, R_193_76, R_193_69, R_193_58, R_193_53, R_193_39, R_193_19, R_193_13, R_193_7, R_193_5, R_193_0, S_193, gd_t, bI_, bV_, bR_, and_self, and_true, true_and, ↓reduceIte, eq_self, oj_84, bI_1, bI_0, L0, L1, L85, L88, L121, L10000, L20000, L20033, le_t, le_f, lt_t, lt_f, eq_t, eq_f, ncl, nI_add, nmul, nsub, ndiv, nrem, nrem', nrN]
    rw [g1]
    cases c (factsS s m k) <;> rfl
