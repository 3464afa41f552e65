/-! part 99f: comparisons read; what is pushed -/
def Psh (k : Nat) (L M : List Nat) (c : (Nat → Nat) → Bool) : Prop := (∀ f P r, P < 2 ^ k → evL f (L ++ r) P = evL f r (2 * P + (c f).toNat)) ∧ (∀ f st r, evM f (M ++ r) st = evM f r ((c f).toNat :: st)) ∧ L ≠ [] ∧ M ≠ []
def Rs (N : Nat) (T : Nat → Nat) (o : Nat) (R : List Tok) (La Ma : List Nat) (k : Nat) (Hc Hm : Hp) (b : Bool) (Hc' Hm' : Hp) : Prop := FrC Hc Hc' ∧ FrM Hm Hm' ∧ (b = false → Hc' 21 3 = Hm' 84 9 ∧ Hm' 84 12 = nI 1) ∧ (b = true → ∃ t' R' L M c, R'.length < R.length ∧ (L.length + R'.length ≤ R.length ∧ M.length + R'.length ≤ R.length) ∧ St N T o t' R' (La ++ L) (Ma ++ M) Hc' Hm' ∧ Psh k L M c)
theorem m_219t {N : Nat} {T : Nat → Nat} {h : Hp} {t : Tok} {R : List Tok} (q : MS N T h t R) {x c : Nat} (hx : x = 40 ∨ x = 41 ∨ x = 59 ∨ x = 60 ∨ x = 61 ∨ x = 62) (hb : byteC x = c) (e : t.1 = c) : S_219 (nI x) h = some (nI 1, h) := by
  rw [m_219 q hx, decide_eq_true (by rw [hb]; exact e)]
  rfl
theorem m_219f {N : Nat} {T : Nat → Nat} {h : Hp} {t : Tok} {R : List Tok} (q : MS N T h t R) {x c : Nat} (hx : x = 40 ∨ x = 41 ∨ x = 59 ∨ x = 60 ∨ x = 61 ∨ x = 62) (hb : byteC x = c) (e : ¬ t.1 = c) : S_219 (nI x) h = some (nI 0, h) := by
  rw [m_219 q hx, decide_eq_false (by rw [hb]; exact e)]
  rfl
theorem tail2w {a1 a2 a3 : Hp → Option (Int32 × Hp)} {v1 v2 : Int32} {h : Hp} (q : h 84 12 = nI 1) : R_218_131 a1 a2 a3 v1 v2 h = R_218_144 a1 a2 a3 v1 h := by
  unfold R_218_131
  rw [m_220w q, bV_]
  unfold R_218_135
  rw [m_layw q, bV_]
theorem tail1w {a1 a2 a3 : Hp → Option (Int32 × Hp)} {v1 : Int32} {h : Hp} (q : h 84 12 = nI 1) : R_218_89 a1 a2 a3 v1 h = R_218_144 a1 a2 a3 v1 h := by
  have e := fun x => m_219w (v := x) q
  have g := fun x => m_gow (x := x) q
  simp (disch := omega) only [R_218_89, R_218_102, R_218_105, R_218_111, R_218_114, R_218_120, R_218_127, gd_t, bI_, bV_, bR_, and_self, and_true, true_and, ↓reduceIte, eq_self, oj_84, bI_1, bI_0, L0, L1, le_t, le_f, lt_t, lt_f, eq_t, eq_f, ncl, nI_add, nmul, nsub, ndiv, nrem, nrem', nrN, e, g, tail2w q]
theorem dn_cm {s x y : Nat} (hs : 20 ≤ s ∧ s ≤ 22) : dnM (60 + (s - 20)) x y = (cmL s x y).toNat := by
  rcases (show s = 20 ∨ s = 21 ∨ s = 22 by omega) with rfl | rfl | rfl
  · have e1 : dnM (60 + (20 - 20)) x y = if x < y then 1 else 0 := rfl
    have e2 : cmL 20 x y = decide (x < y) := rfl
    rw [e1, e2]
    by_cases z : x < y
    · rw [if_pos z, decide_eq_true z]; rfl
    · rw [if_neg z, decide_eq_false z]; rfl
  · have e1 : dnM (60 + (21 - 20)) x y = if x = y then 1 else 0 := rfl
    have e2 : cmL 21 x y = decide (x = y) := rfl
    rw [e1, e2]
    by_cases z : x = y
    · rw [if_pos z, decide_eq_true z]; rfl
    · rw [if_neg z, decide_eq_false z]; rfl
  · have e1 : dnM (60 + (22 - 20)) x y = if y < x then 1 else 0 := rfl
    have e2 : cmL 22 x y = decide (y < x) := rfl
    rw [e1, e2]
    by_cases z : y < x
    · rw [if_pos z, decide_eq_true z]; rfl
    · rw [if_neg z, decide_eq_false z]; rfl
theorem evM_v {f : Nat → Nat} {c : Nat} {t st : List Nat} (h : c < 10005) : evM f (c :: t) st = evM f t (vaL f c :: st) := by
  conv => lhs; unfold evM
  rw [if_pos (by omega), if_pos h]
theorem evM_c {f : Nat → Nat} {c a b : Nat} {t u : List Nat} (h1 : 20000 ≤ c) (h2 : c ≠ 20033) (h : (60 ≤ c - 20000 ∧ c - 20000 ≤ 62) ∨ ((c = 20038 ∨ c = 20124) ∧ a ≤ 1 ∧ b ≤ 1)) : evM f (c :: t) (b :: a :: u) = evM f t (dnM (c - 20000) a b :: u) := by
  conv => lhs; unfold evM
  rw [if_neg (by omega), if_neg h2]
  exact if_pos h
theorem evM_n {f : Nat → Nat} {a : Nat} {t u : List Nat} (h : a ≤ 1) : evM f (20033 :: t) (a :: u) = evM f t ((1 - a) :: u) := by
  conv => lhs; unfold evM
  rw [if_neg (by decide), if_pos rfl]
  exact if_pos h
theorem evL_n {f : Nat → Nat} {P : Nat} {t : List Nat} : evL f (10 :: t) P = evL f t (2 * (P / 2) + (1 - P % 2)) := by
  conv => lhs; unfold evL
  rw [if_pos rfl]
theorem evL_a {f : Nat → Nat} {P : Nat} {t : List Nat} : evL f (11 :: t) P = evL f t (2 * (P / 4) + (P / 2 % 2) * (P % 2)) := by
  conv => lhs; unfold evL
  rw [if_neg (by decide), if_pos rfl]
theorem evL_o {f : Nat → Nat} {P : Nat} {t : List Nat} : evL f (12 :: t) P = evL f t (2 * (P / 4) + (P / 2 % 2 + P % 2 - (P / 2 % 2) * (P % 2))) := by
  conv => lhs; unfold evL
  rw [if_neg (by decide), if_neg (by decide), if_pos rfl]
theorem psh_cmp {s a b : Nat} (hs : 20 ≤ s ∧ s ≤ 22) (ha : a < 10005) (hb : b < 10005) : Psh 8 [s, a, b] [a, b, 20000 + (60 + (s - 20))] (fun f => cmL s (vaL f a) (vaL f b)) := by
  refine ⟨fun f P r hP => ?_, fun f st r => ?_, by simp, by simp⟩
  · show evL f (s :: a :: b :: r) P = _
    have h8 : (2 : Nat) ^ 8 = 256 := by decide
    rw [evL, if_neg (by omega), if_neg (by omega), if_neg (by omega), if_pos ⟨hs.1, hs.2, ha, hb, by omega⟩]
  · show evM f (a :: b :: (20000 + (60 + (s - 20))) :: r) st = _
    rw [evM_v ha, evM_v hb, evM_c (by omega) (by omega) (Or.inl (by omega)), show 20000 + (60 + (s - 20)) - 20000 = 60 + (s - 20) by omega, dn_cm hs]
theorem tor : ∀ {p : Prop}, (True ∨ p) = True := fun {p} => true_or p
theorem vl27 {c : Nat} (h : isVl c) : c ≠ 27 := by unfold isVl at h; omega
theorem CS.ref {h : Hp} {t : Tok} {R : List Tok} (q : CS h t R) : S_67 h = some (nI 0, wr h 21 3 (nI t.2.1)) := c_ref q
theorem cmp_ok {N : Nat} {T : Nat → Nat} {o : Nat} {t : Tok} {R : List Tok} {La Ma : List Nat} {Hc Hm : Hp} (S : St N T o t R La Ma Hc Hm) (a1 a2 a3 : Hp → Option (Int32 × Hp)) : ∃ b Hc' Hm', S_73 Hc = some (bI b, Hc') ∧ (∀ v1, R_218_85 a1 a2 a3 v1 Hm = R_218_144 a1 a2 a3 v1 Hm') ∧ Rs N T o R La Ma 8 Hc Hm b Hc' Hm' := by
  obtain ⟨cs, ms, s13, cc, cm, bc, bm⟩ := S
  rcases dVl t.1 with v | v
  · obtain ⟨t1, R1, rfl⟩ := ms.ne (vl27 v)
    simp only [List.length_cons] at bc bm
    obtain ⟨C1, gc1, cs1, fc1⟩ := c_adv cs (vl27 v)
    obtain ⟨M1, gm1, ms1, cm1, fm1, e13, lv⟩ := m_220 ms v cm (by omega)
    have g74 := (s_74 cs).1 v
    have g75 := s_75 cs v
    have q8 := cs1.tok
    have lt1 := cs1.lt
    have em : ∀ v1, R_218_85 a1 a2 a3 v1 Hm = R_218_89 a1 a2 a3 v1 M1 := fun v1 => by
      unfold R_218_85
      rw [gm1, bV_]
    by_cases sg : 20 ≤ t1.1 ∧ t1.1 ≤ 22
    · have h27 : t1.1 ≠ 27 := by omega
      obtain ⟨t2, R2, rfl⟩ := ms1.ne h27
      simp only [List.length_cons] at bc bm
      obtain ⟨C2, gc2, cs2, fc2⟩ := c_adv cs1 h27
      obtain ⟨M2, gm2, ms2, fm2⟩ := m_go1 ms1 h27
      have cm2 := cm1.a fm2
      -- the sign of the model
      have esg : ∀ v1, R_218_89 a1 a2 a3 v1 M1 = R_218_131 a1 a2 a3 v1 (nI (60 + (t1.1 - 20))) M2 := by
        intro v1
        obtain ⟨-, -, -, tok, -, -, -, -, q7, -⟩ := id ms1
        have e60 : byteC 60 = 20 := by decide
        have e61 : byteC 61 = 21 := by decide
        have e62 : byteC 62 = 22 := by decide
        have ev : rdL (M1 84) = lgN (60 + (t1.1 - 20)) := by
          rcases (show t1.1 = 20 ∨ t1.1 = 21 ∨ t1.1 = 22 by omega) with e | e | e
          · rw [e]; exact ((q7.2.2.2.1 60 (by decide)).mpr (by rw [e60, e])).2
          · rw [e]; exact ((q7.2.2.2.1 61 (by decide)).mpr (by rw [e61, e])).2
          · rw [e]; exact ((q7.2.2.2.1 62 (by decide)).mpr (by rw [e62, e])).2
        have e32 : Int64.toInt32 (rdL (M1 84)) = nI (60 + (t1.1 - 20)) := by
          rw [ev]
          exact lgN_32 (by omega)
        rcases (show t1.1 = 20 ∨ t1.1 = 21 ∨ t1.1 = 22 by omega) with e | e | e
        · have k1 := m_219t ms1 (x := 60) (by decide) e60 e
          simp (disch := omega) only [R_218_89, R_218_102, R_218_123, L60, gd_t, bI_, bV_, bR_, and_self, and_true, true_and, ↓reduceIte, eq_self, oj_84, bI_1, bI_0, L0, L1, le_t, le_f, lt_t, lt_f, eq_t, eq_f, ncl, nI_add, nmul, nsub, ndiv, nrem, nrem', nrN, k1, e32, gm2]
        · have k1 := m_219f ms1 (x := 60) (by decide) e60 (by omega)
          have k2 := m_219t ms1 (x := 61) (by decide) e61 e
          simp (disch := omega) only [R_218_89, R_218_102, R_218_105, R_218_111, R_218_123, L60, L61, gd_t, bI_, bV_, bR_, and_self, and_true, true_and, ↓reduceIte, eq_self, oj_84, bI_1, bI_0, L0, L1, le_t, le_f, lt_t, lt_f, eq_t, eq_f, ncl, nI_add, nmul, nsub, ndiv, nrem, nrem', nrN, k1, k2, e32, gm2]
        · have k1 := m_219f ms1 (x := 60) (by decide) e60 (by omega)
          have k2 := m_219f ms1 (x := 61) (by decide) e61 (by omega)
          have k3 := m_219t ms1 (x := 62) (by decide) e62 e
          simp (disch := omega) only [R_218_89, R_218_102, R_218_105, R_218_111, R_218_114, R_218_120, R_218_123, L60, L61, L62, gd_t, bI_, bV_, bR_, and_self, and_true, true_and, ↓reduceIte, eq_self, oj_84, bI_1, bI_0, L0, L1, le_t, le_f, lt_t, lt_f, eq_t, eq_f, ncl, nI_add, nmul, nsub, ndiv, nrem, nrem', nrN, k1, k2, k3, e32, gm2]
      rcases dVl t2.1 with w | w
      · obtain ⟨t3, R3, rfl⟩ := ms2.ne (vl27 w)
        simp only [List.length_cons] at bc bm
        have g742 := (s_74 cs2).1 w
        have g752 := s_75 cs2 w
        obtain ⟨M3, gm3, ms3, cm3, fm3, e133, lw⟩ := m_220 ms2 w cm2 (by rw [List.length_append]; simp; omega)
        obtain ⟨M4, gm4, cm4, f4a, f4b⟩ := m_lay ms3.2.1 cm3 (by rw [List.length_append, List.length_append]; simp; omega) (show 20000 + (60 + (t1.1 - 20)) < 30000 by omega)
        have cc2 := (cc.a fc1).a fc2
        obtain ⟨C3, gc3, cc3, f3a, f3b⟩ := c_lay cc2 (by omega) (show t1.1 < 20000 by omega)
        obtain ⟨C4, gc4, cc4, h4a, h4b⟩ := c_lay cc3 (by rw [List.length_append]; simp; omega) (show vlN t < 20000 by omega)
        have cs4 : CS C4 t2 (t3 :: R3) := (cs2.l f3a).l h4a
        obtain ⟨C5, gc5, cc5, h5a, h5b⟩ := c_lay cc4 (by rw [List.length_append, List.length_append]; simp; omega) (show vlN t2 < 20000 by omega)
        have cs5 : CS C5 t2 (t3 :: R3) := cs4.l h5a
        have g755 := s_75 cs4 w
        obtain ⟨C6, gc6, cs6, fc6⟩ := c_adv cs5 (vl27 w)
        refine ⟨true, C6, M4, ?_, fun v1 => ?_, ?_, ?_, (fun e => by cases e), fun _ => ⟨t3, R3, [t1.1, vlN t, vlN t2], [vlN t, vlN t2, 20000 + (60 + (t1.1 - 20))], fun f => cmL t1.1 (vaL f (vlN t)) (vaL f (vlN t2)), by simp only [List.length_cons]; omega, ⟨by simp only [List.length_cons, List.length_nil]; omega, by simp only [List.length_cons, List.length_nil]; omega⟩, ⟨cs6, ms3.l f4a f4b, ?_, ?_, ?_, ?_, ?_⟩, psh_cmp sg lv lw⟩⟩
        · simp (disch := omega) only [S_73, R_73_0, R_73_4, R_73_12, R_73_16, R_73_21, R_73_30, R_73_44, R_73_53, R_73_57, R_73_65, R_73_73, R_73_81, R_73_89, R_73_92, R_73_96, gd_t, bI_, bV_, bR_, and_self, and_true, true_and, ↓reduceIte, eq_self, oj_84, bI_1, bI_0, L0, L1, L5, L8, L20, L21, L22, L23, le_t, le_f, lt_t, lt_f, eq_t, eq_f, ncl, nI_add, nmul, nsub, ndiv, nrem, nrem', nrN, g74, g75, gc1, q8, gc2, g742, gc3, gc4, g755, oj_23, gc5, gc6]
        · rw [em, esg]
          unfold R_218_131
          rw [gm3, bV_]
          unfold R_218_135
          rw [show (20000 : Int32) + nI (60 + (t1.1 - 20)) = nI (20000 + (60 + (t1.1 - 20))) from nI_add 20000 _, gm4, bV_]
        · exact (((fc1.c.tr fc2.c).tr (FrC.l f3a f3b)).tr (FrC.l h4a h4b)).tr ((FrC.l h5a h5b).tr fc6.c)
        · exact (fm1.tr fm2.m).tr (fm3.tr (FrM.l f4a f4b))
        · rw [f4b 13 (by decide), e133, fm2.2 13 (by decide) (by decide) (by decide) (by decide), e13]
          exact s13
        · have := cc5.a fc6
          rw [List.append_assoc, List.append_assoc] at this
          exact this
        · rw [List.append_assoc, List.append_assoc] at cm4
          exact cm4
        · rw [List.length_append]
          simp
          omega
        · rw [List.length_append]
          simp
          omega
      · have g742 := (s_74 cs2).2 w
        have gr := c_ref cs2
        obtain ⟨M3, gm3, e12, e9, fm3⟩ := m_220n ms2 w cm2 (by rw [List.length_append]; simp; omega)
        refine ⟨false, wr C2 21 3 (nI t2.2.1), M3, ?_, fun v1 => ?_, (fc1.c.tr fc2.c).tr FrC.ref, (fm1.tr fm2.m).tr fm3, fun _ => ⟨by rw [wr_self, e9], e12⟩, (fun e => by cases e)⟩
        · simp (disch := omega) only [S_73, R_73_0, R_73_4, R_73_12, R_73_16, R_73_21, R_73_30, R_73_44, R_73_53, R_73_57, R_73_60, R_73_64, gd_t, bI_, bV_, bR_, and_self, and_true, true_and, ↓reduceIte, eq_self, oj_84, bI_1, bI_0, L0, L1, L5, L8, L20, L21, L22, L23, le_t, le_f, lt_t, lt_f, eq_t, eq_f, ncl, nI_add, nmul, nsub, ndiv, nrem, nrem', nrN, g74, g75, gc1, q8, gc2, g742, gr, tor]
        · rw [em, esg]
          unfold R_218_131
          rw [gm3, bV_]
          unfold R_218_135
          rw [m_layw e12, bV_]
    · have gr := c_ref cs1
      have e9 := ms1.2.2
      obtain ⟨-, -, -, -, e9, -⟩ := e9
      have k1 := m_219f ms1 (x := 60) (c := 20) (by decide) (by decide) (by omega)
      have k2 := m_219f ms1 (x := 61) (c := 21) (by decide) (by decide) (by omega)
      have k3 := m_219f ms1 (x := 62) (c := 22) (by decide) (by decide) (by omega)
      have g0 := m_go0 ms1.2.1
      refine ⟨false, wr C1 21 3 (nI t1.2.1), wr M1 84 12 (nI 1), ?_, fun v1 => ?_, fc1.c.tr FrC.ref, fm1.tr FrM.w, fun _ => ⟨by rw [wr_self, wr_k (by decide), e9], wr_self⟩, (fun e => by cases e)⟩
      · by_cases z : t1.1 < 20
        · simp (disch := omega) only [S_73, R_73_0, R_73_4, R_73_12, R_73_16, R_73_21, R_73_39, R_73_43, gd_t, bI_, bV_, bR_, and_self, and_true, true_and, ↓reduceIte, eq_self, oj_84, bI_1, bI_0, L0, L1, L5, L8, L20, L21, L22, L23, le_t, le_f, lt_t, lt_f, eq_t, eq_f, ncl, nI_add, nmul, nsub, ndiv, nrem, nrem', nrN, g74, g75, gc1, q8, gr, tor]
        · simp (disch := omega) only [S_73, R_73_0, R_73_4, R_73_12, R_73_16, R_73_21, R_73_30, R_73_39, R_73_43, gd_t, bI_, bV_, bR_, and_self, and_true, true_and, ↓reduceIte, eq_self, oj_84, bI_1, bI_0, L0, L1, L5, L8, L20, L21, L22, L23, le_t, le_f, lt_t, lt_f, eq_t, eq_f, ncl, nI_add, nmul, nsub, ndiv, nrem, nrem', nrN, g74, g75, gc1, q8, gr, tor]
      · rw [em, ← tail2w (v2 := Int64.toInt32 (rdL (M1 84))) (h := wr M1 84 12 (nI 1)) wr_self]
        simp (disch := omega) only [R_218_89, R_218_102, R_218_105, R_218_111, R_218_114, R_218_120, R_218_127, L60, L61, L62, gd_t, bI_, bV_, bR_, and_self, and_true, true_and, ↓reduceIte, eq_self, oj_84, bI_1, bI_0, L0, L1, le_t, le_f, lt_t, lt_f, eq_t, eq_f, ncl, nI_add, nmul, nsub, ndiv, nrem, nrem', nrN, k1, k2, k3, g0]
  · have g74 := (s_74 cs).2 v
    have gr := c_ref cs
    obtain ⟨M1, gm1, e12, e9, fm1⟩ := m_220n ms v cm (by omega)
    refine ⟨false, wr Hc 21 3 (nI t.2.1), M1, ?_, fun v1 => ?_, FrC.ref, fm1, fun _ => ⟨by rw [wr_self, e9], e12⟩, (fun e => by cases e)⟩
    · simp (disch := omega) only [S_73, R_73_0, R_73_4, R_73_7, R_73_11, gd_t, bI_, bV_, bR_, and_self, and_true, true_and, ↓reduceIte, eq_self, oj_84, bI_1, bI_0, L0, L1, le_t, le_f, lt_t, lt_f, eq_t, eq_f, ncl, nI_add, nmul, nsub, ndiv, nrem, nrem', nrN, g74, gr, tor]
    · unfold R_218_85
      rw [gm1, bV_]
      exact tail1w e12
