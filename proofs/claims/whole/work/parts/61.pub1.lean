/-! part 61: class and model side by side: on, when, prettyFor, placeFor, truth, night -/
theorem AgrS.ofC {h h' : Hp} {l : List Nat} (a : Same l h h') (hl : ∀ x ∈ l, (1 ≤ x ∧ x ≤ 15) ∨ (31 ≤ x ∧ x ≤ 49)) : AgrS h h' := by
  have cl : ∀ c, (c = 0 ∨ (16 ≤ c ∧ ¬ (31 ≤ c ∧ c ≤ 49))) → h' c = h c := fun c e => a c (fun q => by have := hl c q; omega)
  exact ⟨fun c e1 e2 e3 => cl c (by unfold KeepC at e1; omega), by rw [cl 16 (by decide)], by rw [cl 21 (by decide)], by rw [cl 61 (by decide)], fun j _ => by rw [cl 84 (by decide)], fun j _ => by rw [cl 85 (by decide)]⟩
theorem AgrS.ofM {h h' : Hp} (a : MFr h h') : AgrS h h' := ⟨fun c e1 e2 e3 => a.1 c e3 (by unfold KeepC at e1; omega), by rw [a.1 16 (by decide) (by decide)], by rw [a.1 21 (by decide) (by decide)], by rw [a.1 61 (by decide) (by decide)], fun j _ => by rw [a.1 84 (by decide) (by decide)], fun j hj => a.2 j (by omega)⟩
theorem Inv.step {h h1 h2 : Hp} {s : Sg} {m m' : Mo} (C : Core h s m) (D : Side h) (mo' : MoOk s m') (s1 : Same [12, 13, 14, 15] h h1) (hm1 : MoAt h1 13 s m') (f : MFr h1 h2) (q2 : SMd h2 s m') : Inv h2 := by
  obtain ⟨so, mo, hs, hm, q, h4⟩ := C
  have e : ∀ c, c ≠ 85 → c ≠ 88 → h2 c = h1 c := fun c x y => f.1 c x y
  refine ⟨⟨s, m', so, mo', ?_, ?_, q2, ?_⟩, D.agr ((AgrS.ofC s1 (by decide)).tr (AgrS.ofM f))⟩
  · exact (hs.same s1 (by decide)).congr (fun c _ _ => e c (by omega) (by omega))
  · exact hm1.congr (e _ (by decide) (by decide)) (e _ (by decide) (by decide)) (e _ (by decide) (by decide))
  · rw [e 84 (by decide) (by decide), s1 84 (by decide)]
    exact h4
theorem SMd.same_c {h h' : Hp} {s : Sg} {m : Mo} (q : SMd h s m) (e : h' 85 = h 85) : SMd h' s m := by
  unfold SMd
  rw [e]
  exact q
theorem p_on {v : Int32} : Pub (S_85 v) (S_228 v) := by
  intro h I
  obtain ⟨⟨s, m, C⟩, D⟩ := id I
  obtain ⟨so, mo, hs, hm, q, h4⟩ := id C
  cases hr : rng 0 16 v with
  | false => exact ⟨-nI 1, h, h, by simp (disch := omega) only [R_85_21, R_85_18, R_85_10, R_85_7, R_85_0, S_85, gd_t, bI_, bV_, bR_, and_self, and_true, true_and, ↓reduceIte, eq_self, oj_84, bI_1, bI_0, L0, L1, L16, s_11r, hr], by simp (disch := omega) only [R_228_28, R_228_23, R_228_18, R_228_14, R_228_12, R_228_9, R_228_0, S_228, gd_t, bI_, bV_, bR_, and_self, and_true, true_and, ↓reduceIte, eq_self, oj_84, bI_1, bI_0, L0, L1, L16, J0, J16, s_177r, hr], I⟩
  | true =>
    obtain ⟨n, -, hn, rfl⟩ := rng_t hr
    obtain ⟨h1, g1, s1⟩ := s_86 so mo hs hm hn
    have a1 : Agr h h1 := Agr.ofC (s1.le (by decide))
    obtain ⟨-, -, -, -, q1, h41⟩ := C.agr a1
    obtain ⟨h2, g2, a2⟩ := m_228 so mo q1 h41 hn
    exact ⟨_, h1, h2, by simp (disch := omega) only [R_85_21, R_85_18, R_85_10, R_85_7, R_85_0, S_85, gd_t, bI_, bV_, bR_, and_self, and_true, true_and, ↓reduceIte, eq_self, oj_84, bI_1, bI_0, L0, L1, L16, s_11r, hr, g1, eq_f], g2, I.agr (a1.tr a2)⟩
theorem p_when {v : Int32} : Pub (S_89 v) (S_233 v) := by
  intro h I
  obtain ⟨⟨s, m, C⟩, D⟩ := id I
  obtain ⟨so, mo, hs, hm, q, h4⟩ := id C
  have hn := so.1
  cases hr : scn (sN s) v with
  | false => exact ⟨-nI 1, h, h, by simp (disch := omega) only [R_89_19, R_89_16, R_89_8, R_89_5, R_89_0, S_89, gd_t, bI_, bV_, bR_, and_self, and_true, true_and, ↓reduceIte, eq_self, oj_84, bI_1, bI_0, L0, L1, L3, L4, L9, L84, L85, s_14 hn hs.1.n, hr], by simp (disch := omega) only [R_233_83, R_233_76, R_233_65, R_233_61, R_233_55, R_233_51, R_233_48, R_233_43, R_233_40, R_233_34, R_233_31, R_233_27, R_233_23, R_233_20, R_233_16, R_233_10, R_233_8, R_233_5, R_233_0, S_233, gd_t, bI_, bV_, bR_, and_self, and_true, true_and, ↓reduceIte, eq_self, oj_84, bI_1, bI_0, L0, L1, L3, L4, L9, L84, L85, s_180 hn q.1.n, hr], I⟩
  | true =>
    obtain ⟨k, hk, rfl⟩ := scn_t hr
    obtain ⟨h1, g1, s1⟩ := s_90 so mo hs hm hk
    have a1 : Agr h h1 := Agr.ofC (s1.le (by decide))
    obtain ⟨-, -, -, -, q1, h41⟩ := C.agr a1
    obtain ⟨h2, g2, a2⟩ := m_233 so mo q1 h41 hk
    exact ⟨_, h1, h2, by simp (disch := omega) only [R_89_19, R_89_16, R_89_8, R_89_5, R_89_0, S_89, gd_t, bI_, bV_, bR_, and_self, and_true, true_and, ↓reduceIte, eq_self, oj_84, bI_1, bI_0, L0, L1, s_14 hn hs.1.n, hr, g1, eq_f], g2, I.agr (a1.tr a2)⟩
theorem p_truth {v : Int32} : Pub (S_94 v) (S_237 v) := by
  intro h I
  obtain ⟨⟨s, m, C⟩, D⟩ := id I
  obtain ⟨so, mo, hs, hm, q, h4⟩ := id C
  cases hr : rng 0 594 v with
  | false => exact ⟨-nI 1, h, h, by simp (disch := omega) only [R_94_22, R_94_19, R_94_11, R_94_8, R_94_0, S_94, gd_t, bI_, bV_, bR_, and_self, and_true, true_and, ↓reduceIte, eq_self, oj_84, bI_1, bI_0, L0, L1, L3, L9, L84, L85, L594, s_11r, hr], by simp (disch := omega) only [R_237_69, R_237_62, R_237_53, R_237_49, R_237_45, R_237_41, R_237_38, R_237_33, R_237_29, R_237_25, R_237_22, R_237_18, R_237_14, R_237_12, R_237_9, R_237_0, S_237, gd_t, bI_, bV_, bR_, and_self, and_true, true_and, ↓reduceIte, eq_self, oj_84, bI_1, bI_0, L0, L1, L3, L9, L84, L85, L594, J0, J594, s_177r, hr], I⟩
  | true =>
    obtain ⟨n, -, hn, rfl⟩ := rng_t hr
    obtain ⟨h1, g1, s1⟩ := s_95 so mo hs hm hn
    have a1 : Agr h h1 := Agr.ofC (s1.le (by decide))
    obtain ⟨-, -, -, -, q1, h41⟩ := C.agr a1
    obtain ⟨h2, g2, a2⟩ := m_237 so mo q1 h41 hn
    exact ⟨_, h1, h2, by simp (disch := omega) only [R_94_22, R_94_19, R_94_11, R_94_8, R_94_0, S_94, gd_t, bI_, bV_, bR_, and_self, and_true, true_and, ↓reduceIte, eq_self, oj_84, bI_1, bI_0, L0, L1, L594, s_11r, hr, g1, eq_f], g2, I.agr (a1.tr a2)⟩
theorem p_night : Pub S_79 S_224 := by
  intro h I
  obtain ⟨⟨s, m, C⟩, D⟩ := id I
  obtain ⟨so, mo, hs, hm, q, h4⟩ := id C
  have hn := so.1
  have he := so.2.2.2.2.2
  by_cases c : sEnd s ≤ mNight m
  · exact ⟨-nI 4, h, h, by simp (disch := omega) only [R_79_39, R_79_36, R_79_17, R_79_14, R_79_11, R_79_0, S_79, gd_t, bI_, bV_, bR_, and_self, and_true, true_and, ↓reduceIte, eq_self, oj_84, bI_1, bI_0, L0, L1, L4, L6, L9, L13, L84, le_t, le_f, lt_t, lt_f, eq_t, eq_f, ncl, nI_add, nmul, nsub, ndiv, nrem, nrem', nrN, s_38 mo13 so mo hs.1 hm, c, decide_true], by simp (disch := omega) only [R_224_20, R_224_17, R_224_12, R_224_7, R_224_4, R_224_0, S_224, gd_t, bI_, bV_, bR_, and_self, and_true, true_and, ↓reduceIte, eq_self, oj_84, bI_1, bI_0, L0, L1, L4, L6, L9, L13, L84, le_t, le_f, lt_t, lt_f, eq_t, eq_f, ncl, nI_add, nmul, nsub, ndiv, nrem, nrem', nrN, s_205 so mo q.1, c, decide_true], I⟩
  · have hact := actS_le s m
    obtain ⟨h1, g1, s1⟩ := s_80 mo13 so mo hs hm
    have hm1 : MoAt h1 13 s m := hm.congr (s1 _ (by decide)) (s1 _ (by decide)) (s1 _ (by decide))
    obtain ⟨h2, g2, s2, hm2⟩ := s_81 mo13 so mo (hs.same s1 (by decide)) hm1 (act := actS s m) (by omega)
    have s12 : Same [12, 13, 14, 15] h h2 := (s1.le (by decide)).tr s2
    have q2 : SMd h2 s m := q.same_c (s12 85 (by decide))
    obtain ⟨h3, g3, s3⟩ := s_225 so mo q2
    obtain ⟨h4', g4, q4, f4⟩ := s_226 so mo (q2.same s3) (actS_le s m)
    refine ⟨nI (goW s m (actS s m)), h2, h4', ?_, ?_, Inv.step C D (goOk mo (by omega)) s12 hm2 ((MFr.of88 s3).tr f4) q4⟩
    · simp (disch := omega) only [R_79_39, R_79_36, R_79_17, R_79_14, R_79_11, R_79_0, S_79, gd_t, bI_, bV_, bR_, and_self, and_true, true_and, ↓reduceIte, eq_self, oj_84, bI_1, bI_0, L0, L1, L4, L6, L13, le_t, le_f, lt_t, lt_f, eq_t, eq_f, ncl, nI_add, nmul, nsub, ndiv, nrem, nrem', nrN, s_38 mo13 so mo hs.1 hm, c, decide_false, g1, g2, oj_1]
    · simp (disch := omega) only [R_224_20, R_224_17, R_224_12, R_224_7, R_224_4, R_224_0, S_224, gd_t, bI_, bV_, bR_, and_self, and_true, true_and, ↓reduceIte, eq_self, oj_84, bI_1, bI_0, L0, L1, L4, L9, L84, le_t, le_f, lt_t, lt_f, eq_t, eq_f, ncl, nI_add, nmul, nsub, ndiv, nrem, nrem', nrN, s_205 so mo q2.1, c, decide_false, g3, g4]
theorem restW_le {s : Sg} (so : SgOk s) : ∀ (n : Nat) (m : Mo), MoOk s m → restW s n m ≤ 453 * n
  | 0, m, _ => Nat.zero_le _
  | n + 1, m, mo => by
    rw [restW_s]
    split
    · omega
    · have he := so.2.2.2.2.2
      have h1 := goW_le (act := actS s m) so mo
      have h2 := restW_le so n (goM s m (actS s m)) (goOk mo (by omega))
      omega
def mP (m : Mo) (k v : Nat) : Mo := (mTruth m, upN (mPretty m) k v, mSet m, mNight m, mScore m, mSeed m)
def sPl (s : Sg) (k v : Nat) : Sg := (sN s, sKind s, upN (sPlace s) k v, sHouse s, sLight s, sNoise s, sEnd s, sRules s)
theorem mP_ok {s : Sg} {m : Mo} {k v : Nat} (mo : MoOk s m) (hv : v ≤ 9) : MoOk s (mP m k v) := ⟨fun j hj => ⟨(mo.1 j hj).1, by
  show upN (mPretty m) k v j ≤ 9
  by_cases e : j = k
  · rw [e, upN_s]; exact hv
  · rw [upN_n e]; exact (mo.1 j hj).2⟩, mo.2⟩
theorem sPl_ok {s : Sg} {k v : Nat} (so : SgOk s) (hv : v ≤ 5) : SgOk (sPl s k v) := ⟨so.1, fun j hj => ⟨(so.2.1 j hj).1, (so.2.1 j hj).2.1, by
  show upN (sPlace s) k v j ≤ 5
  by_cases e : j = k
  · rw [e, upN_s]; exact hv
  · rw [upN_n e]; exact (so.2.1 j hj).2.2⟩, so.2.2⟩
theorem MdAt.pl {f f' : Nat → Int32} {s : Sg} {m : Mo} {k v : Nat} (q : MdAt f s m) (h : f' = upd f (35 + 5 * k + 3) (nI v)) : MdAt f' (sPl s k v) m := by
  obtain ⟨a0, a1, a2, a3, a4, a5, a6, a7⟩ := q
  subst h
  refine ⟨by rw [pk_un (by omega)]; exact a0, by rw [pk_un (by omega)]; exact a1, by rw [pk_un (by omega)]; exact a2, by rw [pk_un (by omega)]; exact a3, by rw [pk_un (by omega)]; exact a4, fun t ht => by rw [pk_un (by omega)]; exact a5 t ht, fun t ht => by rw [pk_un (by omega), pk_un (by omega)]; exact a6 t ht, fun j hj => ?_⟩
  obtain ⟨b1, b2, b3, b4, b5⟩ := a7 j hj
  refine ⟨by rw [pk_un (by omega)]; exact b1, by rw [pk_un (by omega)]; exact b2, by rw [pk_un (by omega)]; exact b3, ?_, by rw [pk_un (by omega)]; exact b5⟩
  show _ = nI (upN (sPlace s) k v j)
  by_cases e : j = k
  · rw [e, pk_us, upN_s]
  · rw [pk_un (by omega), upN_n e]; exact b4
theorem SMd.setP {h H : Hp} {s : Sg} {m : Mo} {k v : Nat} (q : SMd h s m) (hk : k < 6) (e : H 85 = upd (h 85) (35 + 5 * k + 2) (nI v)) : SMd H s (mP m k v) := by
  unfold SMd
  rw [e]
  refine ⟨q.1.sc (fun j hj => pk_un (by omega)) (fun j hj => ⟨pk_un (by omega), pk_un (by omega)⟩) (fun j hj => ⟨by rw [pk_un (by omega)]; exact q.1.f1 hj, ?_, by rw [pk_un (by omega)]; exact q.1.f4 hj⟩) rfl rfl rfl, q.2.congr (fun j hj => pk_un (by omega))⟩
  show _ = nI (upN (mPretty m) k v j)
  by_cases e : j = k
  · rw [e, pk_us, upN_s]
  · rw [pk_un (by omega), upN_n e]; exact q.1.f2 hj
theorem SMd.setPl {h H : Hp} {s : Sg} {m : Mo} {k v : Nat} (q : SMd h s m) (hk : k < 6) (e : H 85 = upd (h 85) (35 + 5 * k + 3) (nI v)) : SMd H (sPl s k v) m := by
  refine ⟨q.1.pl e, ?_⟩
  show RulesM (H 85) (sRules s)
  rw [e]
  exact q.2.congr (fun j hj => pk_un (by omega))
theorem MoAt.setP {h H : Hp} {a : Nat} {s : Sg} {m : Mo} {k v : Nat} (q : MoAt h a s m) (e0 : H a = h a) (e1 : H (a + 1) = h (a + 1)) (e2 : H (a + 2) k = nI v) (e3 : ∀ j, j ≠ k → H (a + 2) j = h (a + 2) j) : MoAt H a s (mP m k v) := by
  refine ⟨fun j hj => ⟨by rw [e1]; exact q.truth hj, ?_⟩, by rw [e0]; exact q.set, by rw [e0]; exact q.night, by rw [e0]; exact q.score, by rw [e0]; exact q.seed⟩
  show _ = nI (upN (mPretty m) k v j)
  by_cases e : j = k
  · rw [e, upN_s]; exact e2
  · rw [upN_n e, e3 j e]; exact q.pretty hj
theorem SF.setPl {h H : Hp} {s : Sg} {k v : Nat} (q : SF h s) (e : ∀ c, 1 ≤ c → c ≤ 11 → c ≠ 3 → H c = h c) (e2 : H 3 k = nI v) (e3 : ∀ j, j ≠ k → H 3 j = h 3 j) : SF H (sPl s k v) := by
  refine ⟨⟨by rw [e 1 (by decide) (by decide) (by decide)]; exact q.1.n, fun j hj => ⟨by rw [e 2 (by decide) (by decide) (by decide)]; exact q.1.kind hj, ?_⟩, by rw [e 4 (by decide) (by decide) (by decide)]; exact q.1.2.2.1, by rw [e 5 (by decide) (by decide) (by decide), e 6 (by decide) (by decide) (by decide)]; exact q.1.2.2.2.1, by rw [e 1 (by decide) (by decide) (by decide)]; exact q.1.end_⟩, q.2.congr (by rw [e 7 (by decide) (by decide) (by decide)]) (e 8 (by decide) (by decide) (by decide)) (e 9 (by decide) (by decide) (by decide)) (e 10 (by decide) (by decide) (by decide)) (e 11 (by decide) (by decide) (by decide))⟩
  show _ = nI (upN (sPlace s) k v j)
  by_cases ej : j = k
  · rw [ej, upN_s]; exact e2
  · rw [upN_n ej, e3 j ej]; exact q.1.place hj
theorem r230 {s : Sg} {m : Mo} {H : Hp} (so : SgOk s) (mo : MoOk s m) (q : SMd H s m) : ∃ h', S_230 (nI 16) H = some (nI (restW s 16 m), h') ∧ MFr H h' := by
  obtain ⟨h2, g2, q2, o2, f2⟩ := s_230 so 16 0 0 fuL m H mo q (fuL_gt (by omega)) (by omega)
  rw [Nat.zero_add, Nat.zero_add] at g2
  refine ⟨h2, ?_, f2⟩
  simp (disch := omega) only [R_230_33, R_230_25, R_230_22, R_230_16, R_230_13, R_230_9, R_230_4, R_230_0, S_230, gd_t, bI_, bV_, bR_, and_self, and_true, true_and, ↓reduceIte, eq_self, oj_84, bI_1, bI_0, L0, L1, L9, L84]
  exact g2
theorem p_prettyFor {v : Int32} : Pub (S_91 v) (S_234 v) := by
  intro h I
  obtain ⟨⟨s, m, C⟩, D⟩ := id I
  obtain ⟨so, mo, hs, hm, q, h4⟩ := id C
  have hn := so.1
  cases hr : scn (sN s) v with
  | false => exact ⟨-nI 1, h, h, by simp (disch := omega) only [R_91_25, R_91_22, R_91_8, R_91_5, R_91_0, S_91, gd_t, bI_, bV_, bR_, and_self, and_true, true_and, ↓reduceIte, eq_self, oj_84, bI_1, bI_0, L0, L1, L2, L9, L15, s_14 hn hs.1.n, hr], by simp (disch := omega) only [R_234_19, R_234_16, R_234_8, R_234_5, R_234_0, S_234, gd_t, bI_, bV_, bR_, and_self, and_true, true_and, ↓reduceIte, eq_self, oj_84, bI_1, bI_0, L0, L1, L2, L9, L15, s_180 hn q.1.n, hr], I⟩
  | true =>
    obtain ⟨k, hk, rfl⟩ := scn_t hr
    obtain ⟨h1, g1, s1⟩ := s_92 (h := h) (arr := 15) (k := k) (most := 9) (W := fun v => restW s 16 (mP m k v)) (fun v hv H sH hj hv2 => by
      have hw := restW_le so 16 (mP m k v) (mP_ok mo hv)
      refine ⟨by omega, s_86 so (mP_ok mo hv) (hs.same sH (by decide)) (hm.setP (sH 13 (by decide)) (sH 14 (by decide)) hv2 hj) (Nat.le_refl 16)⟩) (IA.of rfl (by omega) (by decide)) (by omega) (by decide) (Or.inr rfl)
    have a1 : Agr h h1 := Agr.ofC (s1.le (by decide))
    obtain ⟨-, -, -, -, q1, h41⟩ := C.agr a1
    obtain ⟨h2, g2, a2⟩ := m_235 (h := h1) (k := k) (w := 2) (most := 9) (W := fun v => restW s 16 (mP m k v)) h41 (fun v hv H eH => by
      have hw := restW_le so 16 (mP m k v) (mP_ok mo hv)
      exact ⟨by omega, r230 so (mP_ok mo hv) (q1.setP (by omega) eH)⟩) (by omega) (by decide) (by decide)
    exact ⟨nI (bestS (fun v => restW s 16 (mP m k v)) 9), h1, h2, by simp (disch := omega) only [R_91_25, R_91_22, R_91_8, R_91_5, R_91_0, S_91, gd_t, bI_, bV_, bR_, and_self, and_true, true_and, ↓reduceIte, eq_self, oj_84, bI_1, bI_0, L0, L1, L2, L9, L15, s_14 hn hs.1.n, hr, g1, eq_f], by simp (disch := omega) only [R_234_19, R_234_16, R_234_8, R_234_5, R_234_0, S_234, gd_t, bI_, bV_, bR_, and_self, and_true, true_and, ↓reduceIte, eq_self, oj_84, bI_1, bI_0, L0, L1, L2, L9, L15, s_180 hn q1.1.n, hr, g2, eq_f], I.agr (a1.tr a2)⟩
theorem p_placeFor {v : Int32} : Pub (S_93 v) (S_236 v) := by
  intro h I
  obtain ⟨⟨s, m, C⟩, D⟩ := id I
  obtain ⟨so, mo, hs, hm, q, h4⟩ := id C
  have hn := so.1
  cases hr : scn (sN s) v with
  | false => exact ⟨-nI 1, h, h, by simp (disch := omega) only [R_93_24, R_93_21, R_93_8, R_93_5, R_93_0, S_93, gd_t, bI_, bV_, bR_, and_self, and_true, true_and, ↓reduceIte, eq_self, oj_84, bI_1, bI_0, L0, L1, L3, L5, s_14 hn hs.1.n, hr], by simp (disch := omega) only [R_236_18, R_236_15, R_236_8, R_236_5, R_236_0, S_236, gd_t, bI_, bV_, bR_, and_self, and_true, true_and, ↓reduceIte, eq_self, oj_84, bI_1, bI_0, L0, L1, L3, L5, s_180 hn q.1.n, hr], I⟩
  | true =>
    obtain ⟨k, hk, rfl⟩ := scn_t hr
    obtain ⟨h1, g1, s1⟩ := s_92 (h := h) (arr := 3) (k := k) (most := 5) (W := fun v => restW (sPl s k v) 16 m) (fun v hv H sH hj hv2 => by
      have so' : SgOk (sPl s k v) := sPl_ok so hv
      have mo' : MoOk (sPl s k v) m := mo
      have hw := restW_le so' 16 m mo'
      have hm' : MoAt H 13 (sPl s k v) m := hm.congr (sH _ (by decide)) (sH _ (by decide)) (sH _ (by decide))
      refine ⟨by omega, s_86 so' mo' (hs.setPl (fun c c1 c2 c3 => sH c (by simp only [List.mem_cons, List.not_mem_nil, or_false]; omega)) hv2 hj) hm' (Nat.le_refl 16)⟩) (IA.of rfl (by omega) (by decide)) (by omega) (by decide) (Or.inl rfl)
    have a1 : Agr h h1 := Agr.ofC (s1.le (by decide))
    obtain ⟨-, -, -, -, q1, h41⟩ := C.agr a1
    obtain ⟨h2, g2, a2⟩ := m_235 (h := h1) (k := k) (w := 3) (most := 5) (W := fun v => restW (sPl s k v) 16 m) h41 (fun v hv H eH => by
      have so' : SgOk (sPl s k v) := sPl_ok so hv
      have mo' : MoOk (sPl s k v) m := mo
      have hw := restW_le so' 16 m mo'
      exact ⟨by omega, r230 so' mo' (q1.setPl (by omega) eH)⟩) (by omega) (by decide) (by decide)
    exact ⟨nI (bestS (fun v => restW (sPl s k v) 16 m) 5), h1, h2, by simp (disch := omega) only [R_93_24, R_93_21, R_93_8, R_93_5, R_93_0, S_93, gd_t, bI_, bV_, bR_, and_self, and_true, true_and, ↓reduceIte, eq_self, oj_84, bI_1, bI_0, L0, L1, L3, L5, s_14 hn hs.1.n, hr, g1, eq_f], by simp (disch := omega) only [R_236_18, R_236_15, R_236_8, R_236_5, R_236_0, S_236, gd_t, bI_, bV_, bR_, and_self, and_true, true_and, ↓reduceIte, eq_self, oj_84, bI_1, bI_0, L0, L1, L3, L5, s_180 hn q1.1.n, hr, g2, eq_f], I.agr (a1.tr a2)⟩
