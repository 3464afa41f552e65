/-! part 99l: rules, the call -/
theorem RuC.at {h h' : Hp} {rl : List Ru} {La : List Nat} (q : RuC h rl La) (cc : CoC h La) (l2 : La.length ≤ 200) (e5 : h' 7 5 = h 23 5) (e : ∀ j, j < 8 → h' 8 j = h 24 j ∧ h' 9 j = h 25 j ∧ h' 10 j = h 26 j) (e4 : ∀ j, j < 200 → h' 11 j = h 27 j) : RulesAt h' 7 rl := by
  obtain ⟨q1, q2, b, Ls, b0, bn, q3⟩ := q
  refine ⟨by rw [e5]; exact q1, q2, b, Ls, b0, fun i u hi => ?_⟩
  obtain ⟨x1, x2, x3, x4, x5, x6, x7, x8, x9⟩ := q3 i u hi
  have il := gt_lt hi
  obtain ⟨y1, y2, y3⟩ := e i (by omega)
  refine ⟨y1.trans x1, x2, y2.trans x3, x4, x5, by omega, y3.trans x7, fun j v hv => ?_, x9⟩
  have z := x8 j v hv
  have zl := gt_lt z
  have := cc.2 (b i + j) v z
  exact ⟨(e4 (b i + j) (by omega)).trans this.1, this.2⟩
theorem RuM.at {h : Hp} {σ : Nat → Int32} {rl : List Ru} {Ma : List Nat} (q : RuM h rl Ma) (cm : CoM h Ma) (l2 : Ma.length ≤ 200) (h8 : rl.length ≤ 8) (hq : ∀ (i : Nat) (u : Ru), rl[i]? = some u → u.1 ≤ 5 ∧ u.2.1 ≤ 2) (e5 : σ 5 = h 84 17) (e : ∀ j, j < 32 → σ (89 + j) = h 91 j) (e4 : ∀ j, j < Ma.length → σ (121 + j) = h 90 j) : RulesM σ rl := by
  obtain ⟨q1, b, Ls, q3⟩ := q
  refine ⟨by rw [e5]; exact q1, h8, b, Ls, fun i u hi => ?_⟩
  obtain ⟨x1, x2, x3, x4, x5, x6, x7⟩ := q3 i u hi
  have il := gt_lt hi
  obtain ⟨u1, u2⟩ := hq i u hi
  refine ⟨(e (4 * i) (by omega)).trans x1, u1, ?_, u2, ?_, ?_, by omega, fun j v hv => ?_, x7⟩
  · have := e (4 * i + 1) (by omega)
    rw [← Nat.add_assoc] at this
    exact this.trans x2
  · have := e (4 * i + 2) (by omega)
    rw [← Nat.add_assoc] at this
    exact this.trans x3
  · have := e (4 * i + 3) (by omega)
    rw [← Nat.add_assoc] at this
    exact this.trans x4
  · have z := x6 j v hv
    have zl := gt_lt z
    have := cm.2 (b i + j) v z
    exact ⟨(e4 (b i + j) zl).trans this.1, this.2⟩
theorem RuC.q {h : Hp} {rl : List Ru} {La : List Nat} (q : RuC h rl La) : ∀ (i : Nat) (u : Ru), rl[i]? = some u → u.1 ≤ 5 ∧ u.2.1 ≤ 2 := fun i u hi => by
  obtain ⟨q1, q2, b, Ls, b0, bn, q3⟩ := q
  obtain ⟨x1, x2, x3, x4, -⟩ := q3 i u hi
  exact ⟨x2, x4⟩
/-- other rules, all else stays -/
theorem Inv.newRules {h h' : Hp} {rl : List Ru} (I : Inv h) (a : ∀ c, c ≠ 21 → ¬ (7 ≤ c ∧ c ≤ 11) → ¬ (23 ≤ c ∧ c ≤ 30) → c ≠ 84 → c ≠ 85 → c ≠ 90 → c ≠ 91 → h' c = h c) (b : ∀ j, j < 7 ∨ (17 < j ∧ j < 100) → h' 84 j = h 84 j) (d : ∀ j, j ≠ 5 → j < 89 → h' 85 j = h 85 j) (rc : RulesAt h' 7 rl) (rm : RulesM (h' 85) rl) (r : TapI h') : Inv h' := by
  obtain ⟨⟨s, m, so, mo, hs, hm, q, h4⟩, d1, d2, d3, d4, d5, d6, d7⟩ := I
  have al : ∀ c, (c ≠ 21 ∧ ¬ (7 ≤ c ∧ c ≤ 11) ∧ ¬ (23 ≤ c ∧ c ≤ 30) ∧ c ≠ 84 ∧ c ≠ 85 ∧ c ≠ 90 ∧ c ≠ 91) → h' c = h c := fun c q => a c q.1 q.2.1 q.2.2.1 q.2.2.2.1 q.2.2.2.2.1 q.2.2.2.2.2.1 q.2.2.2.2.2.2
  have md : MdAt (h' 85) (sN s, sKind s, sPlace s, sHouse s, sLight s, sNoise s, sEnd s, rl) m := by
    obtain ⟨a0, a1, a2, a3, a4, a5, a6, a7⟩ := q.1
    have hN := so.1
    refine ⟨by rw [d 0 (by decide) (by decide)]; exact a0, by rw [d 1 (by decide) (by decide)]; exact a1, by rw [d 2 (by decide) (by decide)]; exact a2, by rw [d 3 (by decide) (by decide)]; exact a3, by rw [d 4 (by decide) (by decide)]; exact a4, fun t ht => by rw [d _ (by omega) (by omega)]; exact a5 t ht, fun i hi => by rw [d _ (by omega) (by omega), d _ (by omega) (by omega)]; exact a6 i hi, fun k hk => ?_⟩
    have hk : k < sN s := hk
    rw [d _ (by omega) (by omega), d _ (by omega) (by omega), d _ (by omega) (by omega), d _ (by omega) (by omega), d _ (by omega) (by omega)]
    exact a7 k hk
  refine ⟨⟨(sN s, sKind s, sPlace s, sHouse s, sLight s, sNoise s, sEnd s, rl), m, so, mo, ⟨?_, rc⟩, ?_, ⟨md, rm⟩, by rw [b 4 (by decide)]; exact h4⟩, d1.c (by rw [al 16 (by decide)]) (fun i h1 h2 => al _ (by omega)) (fun j hj => d j (by omega) (by omega)), d2.c2 (by rw [al 0 (by decide)]) (b 2 (by decide)) (fun i hi => al i (by omega)), r, d4.c (by rw [al 0 (by decide)]) (b 27 (by decide)) (al 63 (by decide)) (al 93 (by decide)), d5.c (fun i hi => al i (by omega)), d6.c (fun i hi => al i (by omega)), d7.c (by rw [al 61 (by decide)]) (b 35 (by decide)) (al 62 (by decide)) (al 100 (by decide))⟩
  · have := hs.1
    unfold SgAt at this ⊢
    rw [al 1 (by decide), al 2 (by decide), al 3 (by decide), al 4 (by decide), al 5 (by decide), al 6 (by decide)]
    exact this
  · have := hm
    unfold MoAt at this ⊢
    rw [al 13 (by decide), al (13 + 1) (by decide), al (13 + 2) (by decide)]
    exact this
theorem bI_inj {a b : Bool} (h : bI a = bI b) : a = b := by
  cases a <;> cases b
  · rfl
  · exact absurd h (by decide)
  · exact absurd h (by decide)
  · rfl
theorem p_rules : Pub S_44 S_209 := by
  intro h I
  obtain ⟨N, T, t1, t2, t3, t4⟩ := I.2.2.2.1
  have qc : TpC h N T := ⟨t1, t2, fun j hj => ⟨(t4 j hj).1, (t4 j hj).2.1⟩⟩
  have qm : ∀ G : Hp, G 84 = h 84 → G 89 = h 89 → TpM G N T := fun G a b => ⟨t1, by rw [a]; exact t3, fun j hj => ⟨(t4 j hj).1, by rw [b]; exact (t4 j hj).2.2⟩⟩
  obtain ⟨b0, Hc, Hm0, g0, -, f0, -, e21, -, y0⟩ := rules_run qc h (qm h rfl rfl)
  have same : ∀ b1 Hc1, S_45 h = some (bI b1, Hc1) → b1 = b0 ∧ Hc1 = Hc := fun b1 Hc1 e => by
    rw [g0] at e
    have e := Option.some.inj e
    exact ⟨bI_inj (congrArg Prod.fst e).symm, (congrArg Prod.snd e).symm⟩
  cases b0 with
  | false =>
    obtain ⟨b1, Hc1, Hm, g1, gm, f1, fm, -, x1, -⟩ := rules_run qc Hc (qm Hc (f0 84 (by decide) (by decide)) (f0 89 (by decide) (by decide)))
    obtain ⟨eb, eH⟩ := same b1 Hc1 g1
    subst eb eH
    obtain ⟨z1, z2⟩ := x1 rfl
    have w12 : wr Hm 84 7 (nI 0) 84 12 = nI 1 := by rw [wr_k (by decide)]; exact z2
    have w9 : wr Hm 84 7 (nI 0) 84 9 = Hm 84 9 := by rw [wr_k (by decide)]
    refine ⟨-nI 100 - Hc1 21 3, Hc1, wr Hm 84 7 (nI 0), ?_, ?_, I.tape (fun c c1 c2 c3 c4 c5 c6 c7 => ?_) (fun j hj => ?_) ⟨0, fun _ => 0, by decide, ?_, wr_self, fun j hj => absurd hj (by omega)⟩⟩
    · simp (disch := omega) only [S_44, R_44_0, R_44_7, R_44_12, L100, gd_t, bI_, bV_, bR_, and_self, and_true, true_and, ↓reduceIte, eq_self, oj_84, bI_1, bI_0, L0, L1, g0]
    · rw [gm, z1]
      simp (disch := omega) only [R_209_50, R_209_62, L100, gd_t, bI_, bV_, bR_, and_self, and_true, true_and, ↓reduceIte, eq_self, oj_84, bI_1, bI_0, L0, L1, eq_f, w12, w9]
    · rw [wr_c c3, fm.1 c c3 c5 c6, f0 c c1 c7]
    · rw [wr_k (by omega), fm.2 j (by omega), f0 84 (by decide) (by decide)]
    · rw [wr_c (by decide), fm.1 21 (by decide) (by decide) (by decide)]
      exact e21
  | true =>
    have id7 : RuId 7 := by unfold RuId; decide +kernel
    have id23 : RuId 23 := by unfold RuId; decide +kernel
    obtain ⟨H2, g2, s2, -, k5, kk, k11⟩ := s_78 (h := Hc) id7 id23 (Or.inl (by decide))
    have f2 : ∀ c, ¬ (7 ≤ c ∧ c ≤ 11) → H2 c = Hc c := fun c hc => s2 c (by simp only [List.mem_cons, List.not_mem_nil, or_false]; omega)
    obtain ⟨b1, Hc1, Hm, g1, gm, f1, fm, -, -, x1⟩ := rules_run qc H2 (qm H2 (by rw [f2 84 (by decide), f0 84 (by decide) (by decide)]) (by rw [f2 89 (by decide), f0 89 (by decide) (by decide)]))
    obtain ⟨eb, eH⟩ := same b1 Hc1 g1
    subst eb eH
    obtain ⟨z12, rl, La, Ma, rc, rm, cc, cm, lL, lM⟩ := x1 rfl
    have h8 := rc.2.1
    obtain ⟨M1, e1⟩ : ∃ M1, M1 = wr (wr Hm 84 7 (nI 0)) 85 5 (nI rl.length) := ⟨_, rfl⟩
    obtain ⟨M2, gA, a1, a2⟩ := l_209a 32 0 fuL M1 (by decide) (fuL_gt (by decide))
    have m15 : M2 84 15 = nI Ma.length := by rw [a1 84 (by decide), e1, wr_c (by decide), wr_k (by decide)]; exact cm.1
    obtain ⟨M3, gB, b1', b2⟩ := l_209b lM Ma.length 0 fuL M2 (by omega) (fuL_gt (by omega)) m15
    have fM : ∀ c, c ≠ 84 → c ≠ 85 → c ≠ 90 → c ≠ 91 → M3 c = H2 c := fun c c1 c2 c3 c4 => by rw [b1' c c2, a1 c c2, e1, wr_c c2, wr_c c1, fm.1 c c1 c3 c4]
    have f84 : ∀ j, j ≠ 7 → M3 84 j = Hm 84 j := fun j hj => by rw [b1' 84 (by decide), a1 84 (by decide), e1, wr_c (by decide), wr_k hj]
    have m85 : ∀ j, j ≠ 5 → j < 89 → M3 85 j = H2 85 j := fun j j1 j2 => by
      rw [b2 j, if_neg (by omega), a2 j, if_neg (by omega), e1, wr_k j1, wr_c (by decide), fm.1 85 (by decide) (by decide) (by decide)]
    refine ⟨nI rl.length, H2, M3, ?_, ?_, I.newRules (rl := rl) (fun c c1 c2 c3 c4 c5 c6 c7 => ?_) (fun j hj => ?_) (fun j j1 j2 => ?_) ?_ ?_ ⟨0, fun _ => 0, by decide, ?_, ?_, fun j hj => absurd hj (by omega)⟩⟩
    · have g2' : S_78 7 23 Hc1 = some (nI 0, H2) := g2
      have e5 : H2 7 5 = nI rl.length := by rw [k5]; exact rc.1
      simp (disch := omega) only [S_44, R_44_0, R_44_7, R_44_23, R_44_40, gd_t, bI_, bV_, bR_, and_self, and_true, true_and, ↓reduceIte, eq_self, oj_84, bI_1, bI_0, L0, L1, eq_f, g0, g2', e5]
    · rw [gm]
      have w12 : wr Hm 84 7 (nI 0) 84 12 = nI 0 := by rw [wr_k (by decide)]; exact z12
      have w17 : wr Hm 84 7 (nI 0) 84 17 = nI rl.length := by rw [wr_k (by decide)]; exact rm.1
      have i85 : IA 85 (nI 5) = True := ia_85 (by decide)
      have z5 : (nI 5).toNatClampNeg = 5 := rfl
      have m17 : M3 84 17 = nI rl.length := by rw [f84 17 (by decide)]; exact rm.1
      have gA' : H_209_82 fuL (nI 0) (wr (wr Hm 84 7 (nI 0)) 85 5 (nI rl.length)) = R_209_109 M2 := by rw [← e1]; exact gA
      have m2 : M2 84 17 = nI rl.length := by rw [a1 84 (by decide), e1, wr_c (by decide), wr_k (by decide)]; exact rm.1
      have gB' : H_209_111 fuL (nI 0) M2 = some (nI rl.length, M3) := by rw [gB, m17]
      simp (disch := omega) only [R_209_50, R_209_70, R_209_109, L5, gd_t, bI_, bV_, bR_, and_self, and_true, true_and, ↓reduceIte, eq_self, oj_84, bI_1, bI_0, L0, L1, w12, w17, i85, z5, gA', gB']
    · rw [fM c c4 c5 c6 c7, f2 c c2, f0 c c1 c3]
    · rw [f84 j (by omega), fm.2 j (by omega), f2 84 (by decide), f0 84 (by decide) (by decide)]
    · rw [m85 j j1 j2, f2 85 (by decide), f0 85 (by decide) (by decide)]
    · have w : ∀ c, c < 84 → M3 c = H2 c := fun c hc => fM c (by omega) (by omega) (by omega) (by omega)
      exact rc.at cc lL (by rw [w 7 (by decide)]; exact k5) (fun j hj => by rw [w 8 (by decide), w 9 (by decide), w 10 (by decide)]; exact kk j hj) (fun j hj => by rw [w 11 (by decide)]; exact k11 j hj)
    · refine rm.at cm lM h8 rc.q ?_ (fun j hj => ?_) (fun j hj => ?_)
      · rw [b2 5, if_neg (by omega), a2 5, if_neg (by omega), e1, wr_self]
        exact rm.1.symm
      · rw [b2 (89 + j), if_neg (by omega), a2 (89 + j), if_pos (by omega), show 89 + j - 89 = j by omega, e1, wr_c (by decide), wr_c (by decide)]
      · rw [b2 (121 + j), if_pos (by omega), show 121 + j - 121 = j by omega, a1 90 (by decide), e1, wr_c (by decide), wr_c (by decide)]
    · rw [fM 21 (by decide) (by decide) (by decide) (by decide), f2 21 (by decide)]
      exact e21
    · rw [b1' 84 (by decide), a1 84 (by decide), e1, wr_c (by decide), wr_self]
