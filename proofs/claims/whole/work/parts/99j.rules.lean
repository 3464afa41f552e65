/-! part 99j: a rule's end; all rules -/
theorem rule_end {N : Nat} {T : Nat → Nat} {t : Tok} {R : List Tok} {La Ma L M : List Nat} {Hc Hm : Hp} {rl : List Ru} {k : Nat} {c : (Nat → Nat) → Bool} (S : St N T 0 t R (La ++ L) (Ma ++ M) Hc Hm) (rc : RuC Hc rl La) (rm : RuM Hm rl Ma) (hk : k ≤ 5) (hn : rl.length < 8) (hc : CdL L c) (hm : CdM M c) : ∃ b Hc' Hm', R_66_57 (nI k) Hc = some (bI b, Hc') ∧ R_212_50 (nI k) (nI Ma.length) Hm = some (nI 0, Hm') ∧ FrC2 Hc Hc' ∧ FrM2 Hm Hm' ∧ (b = false → Hc' 21 3 = Hm' 84 9 ∧ Hm' 84 12 = nI 1) ∧ (b = true → ∃ t' R' q, R'.length < R.length ∧ St N T 0 t' R' (La ++ L) (Ma ++ M) Hc' Hm' ∧ RuC Hc' (rl ++ [q]) (La ++ L) ∧ RuM Hm' (rl ++ [q]) (Ma ++ M)) := by
  obtain ⟨cs, ms, s13, cc, cm, bc, bm⟩ := S
  have q8 := cs.tok
  have lt := cs.lt
  obtain ⟨-, q12, -, -, -, -, e9, -⟩ := id ms
  by_cases cd : 6 ≤ t.1 ∧ t.1 ≤ 8
  · have h27 : t.1 ≠ 27 := by omega
    obtain ⟨t1, R1, rfl⟩ := ms.ne h27
    simp only [List.length_cons] at bc bm
    obtain ⟨C1, gc1, cs1, fc1⟩ := c_adv cs h27
    obtain ⟨M1, gm1, ms1, fm1⟩ := m_go1 ms h27
    have g223 := (s_223 ms).1 cd
    have q81 := cs1.tok
    have lt1 := cs1.lt
    obtain ⟨-, q121, -, -, -, -, e91, -⟩ := id ms1
    by_cases c25 : t1.1 = 25
    · have h271 : t1.1 ≠ 27 := by omega
      obtain ⟨t2, R2, rfl⟩ := ms1.ne h271
      simp only [List.length_cons] at bc bm
      obtain ⟨C2, gc2, cs2, fc2⟩ := c_adv cs1 h271
      have m59 := m_219t ms1 (x := 59) (c := 25) (by decide) (by decide) c25
      have rc2 := (rc.c fc1.c).c fc2.c
      have e5 : C2 23 5 = nI rl.length := rc2.1
      have cc2 := (cc.a fc1).a fc2
      have e4 : C2 23 4 = nI (La ++ L).length := cc2.1
      have i24 : IA 24 (nI rl.length) = True := ia_24 (by omega)
      have i25 : IA 25 (nI rl.length) = True := ia_25 (by omega)
      have i26 : IA 26 (nI rl.length) = True := ia_26 (by omega)
      have rm1 := rm.c fm1.m
      have e17 : M1 84 17 = nI rl.length := rm1.1
      have cm1 := cm.a fm1
      have e15 : M1 84 15 = nI (Ma ++ M).length := cm1.1
      obtain ⟨C3, hC3⟩ : ∃ C3, C3 = wr (wr (wr (wr C2 24 rl.length (nI k)) 25 rl.length (nI (t.1 - 6))) 26 rl.length (nI (La ++ L).length)) 23 5 (nI (rl.length + 1)) := ⟨_, rfl⟩
      obtain ⟨M2, hM2⟩ : ∃ M2, M2 = wr (wr (wr (wr (wr M1 91 (4 * rl.length) (nI k)) 91 (4 * rl.length + 1) (nI (t.1 - 6))) 91 (4 * rl.length + 2) (nI Ma.length)) 91 (4 * rl.length + 3) (nI (Ma ++ M).length)) 84 17 (nI (rl.length + 1)) := ⟨_, rfl⟩
      have frC3 : ∀ x, x ≠ 23 → x ≠ 24 → x ≠ 25 → x ≠ 26 → C3 x = C2 x := fun x x1 x2 x3 x4 => by rw [hC3, wr_c x1, wr_c x4, wr_c x3, wr_c x2]
      have frM2 : ∀ x, x ≠ 84 → x ≠ 91 → M2 x = M1 x := fun x x1 x2 => by rw [hM2, wr_c x1, wr_c x2, wr_c x2, wr_c x2, wr_c x2]
      have frM2b : ∀ j, j ≠ 17 → M2 84 j = M1 84 j := fun j hj => by rw [hM2, wr_k hj, wr_c (by decide), wr_c (by decide), wr_c (by decide), wr_c (by decide)]
      have ms2 : MS N T M2 t1 (t2 :: R2) := by
        obtain ⟨a1, a2, e, tok, a3, a4, a5, a6, a7, a8⟩ := ms1
        have er : rdL (M2 84) = rdL (M1 84) := by
          unfold rdL
          rw [frM2b 100 (by decide), frM2b 101 (by decide)]
        exact ⟨a1.c (frM2b 7 (by decide)) (frM2 89 (by decide) (by decide)), by rw [frM2b 12 (by decide)]; exact a2, e, tok, by rw [frM2b 8 (by decide)]; exact a3, a4, by rw [frM2b 9 (by decide)]; exact a5, by rw [frM2b 10 (by decide)]; exact a6, by rw [er]; exact a7, a8⟩
      obtain ⟨M3, gm3, ms3, fm3⟩ := m_nx ms2 h271
      have cc3 : CoC C3 (La ++ L) := by
        unfold CoC
        rw [frC3 27 (by decide) (by decide) (by decide) (by decide), show C3 23 4 = C2 23 4 by rw [hC3, wr_k (by decide), wr_c (by decide), wr_c (by decide), wr_c (by decide)]]
        exact cc2
      have cm3 : CoM M3 (Ma ++ M) := by
        have : CoM M2 (Ma ++ M) := by
          unfold CoM
          rw [frM2b 15 (by decide), frM2 90 (by decide) (by decide)]
          exact cm1
        exact this.a fm3
      have cs3 : CS C3 t2 R2 := cs2.c (fun x hx => frC3 x (by omega) (by omega) (by omega) (by omega)) (by rw [frC3 21 (by decide) (by decide) (by decide) (by decide)]) (by rw [frC3 21 (by decide) (by decide) (by decide) (by decide)])
      have fC : FrC2 C2 C3 := ⟨fun x x1 x2 => frC3 x (by omega) (by omega) (by omega) (by omega), fun j _ _ _ => by rw [frC3 21 (by decide) (by decide) (by decide) (by decide)]⟩
      have fM : FrM2 M1 M2 := ⟨fun x x1 _ x2 => frM2 x x1 x2, fun j hj => frM2b j (by omega)⟩
      refine ⟨true, C3, M3, ?_, ?_, (fc1.c.x.tr fc2.c.x).tr fC, (fm1.m.x.tr fM).tr fm3.m.x, (fun e => by cases e), fun _ => ⟨t2, R2, (k, t.1 - 6, c), by simp only [List.length_cons]; omega, ⟨cs3, ms3, ?_, cc3, cm3, by omega, by omega⟩, rc2.add hk (show t.1 - 6 ≤ 2 by omega) hc hn hC3, (rm1.add hm hM2).c fm3.m⟩⟩
      · have e77 : S_77 (nI k) (nI (t.1 - 6)) C2 = some (nI 0, C3) := by
          rw [hC3]
          simp (disch := omega) only [R_77_10, R_77_9, R_77_0, S_77, gd_t, bI_, bV_, bR_, and_self, and_true, true_and, ↓reduceIte, eq_self, oj_84, bI_1, bI_0, L0, L1, L4, L5, L8, L23, L24, L25, L26, le_t, le_f, lt_t, lt_f, eq_t, eq_f, ncl, nI_add, nmul, nsub, ndiv, nrem, nrem', nrN, e5, i24, i25, i26, wr_c, e4]
        simp (disch := omega) only [R_66_57, R_66_66, R_66_80, R_66_92, R_66_106, R_66_110, R_66_119, gd_t, bI_, bV_, bR_, and_self, and_true, true_and, ↓reduceIte, eq_self, oj_84, bI_1, bI_0, L0, L1, L5, L6, L8, L9, L21, L23, L25, le_t, le_f, lt_t, lt_f, eq_t, eq_f, ncl, nI_add, nmul, nsub, ndiv, nrem, nrem', nrN, q8, gc1, q81, c25, gc2, e77]
      · have i91 : ∀ j, j < 4 → IA 91 (nI (4 * rl.length + j)) = True := fun j hj => ia_91 (by omega)
        have i91a := i91 0 (by decide)
        have i91b := i91 1 (by decide)
        have i91c := i91 2 (by decide)
        have i91d := i91 3 (by decide)
        rw [Nat.add_zero] at i91a
        have e96 : R_212_96 (nI k) (nI Ma.length) (nI (t.1 - 6)) M1 = bndV (S_210 M2) R_212_167 := by
          rw [hM2]
          simp (disch := omega) only [R_212_96, L4, L2, L3, gd_t, bI_, bV_, bR_, and_self, and_true, true_and, ↓reduceIte, eq_self, oj_84, bI_1, bI_0, L0, L1, le_t, le_f, lt_t, lt_f, eq_t, eq_f, ncl, nI_add, nmul, nsub, ndiv, nrem, nrem', nrN, e17, wr_c, i91a, i91b, i91c, i91d, e15]
        simp (disch := omega) only [R_212_50, R_212_54, R_212_60, R_212_68, R_212_75, R_212_81, R_212_89, L59, gd_t, bI_, bV_, bR_, and_self, and_true, true_and, ↓reduceIte, eq_self, oj_84, bI_1, bI_0, L0, L1, le_t, le_f, lt_t, lt_f, eq_t, eq_f, ncl, nI_add, nmul, nsub, ndiv, nrem, nrem', nrN, g223, gm1, q121, m59, e96, gm3, R_212_167]
      · rw [fm3.2 13 (by decide) (by decide) (by decide) (by decide), frM2b 13 (by decide), fm1.2 13 (by decide) (by decide) (by decide) (by decide)]
        exact s13
    · have m59 := m_219f ms1 (x := 59) (c := 25) (by decide) (by decide) c25
      have gr := c_ref cs1
      refine ⟨false, wr C1 21 3 (nI t1.2.1), wr M1 84 12 (nI 1), ?_, ?_, (fc1.c.tr FrC.ref).x, (fm1.m.tr FrM.w).x, fun _ => ⟨by rw [wr_self, wr_k (by decide), e91], wr_self⟩, (fun e => by cases e)⟩
      · simp (disch := omega) only [R_66_57, R_66_66, R_66_80, R_66_92, R_66_101, R_66_105, gd_t, bI_, bV_, bR_, and_self, and_true, true_and, ↓reduceIte, eq_self, oj_84, bI_1, bI_0, L0, L1, L5, L6, L8, L9, L21, L23, L25, le_t, le_f, lt_t, lt_f, eq_t, eq_f, ncl, nI_add, nmul, nsub, ndiv, nrem, nrem', nrN, q8, gc1, q81, gr, tor]
      · simp (disch := omega) only [R_212_50, R_212_54, R_212_60, R_212_68, R_212_75, R_212_81, R_212_84, R_212_167, L59, gd_t, bI_, bV_, bR_, and_self, and_true, true_and, ↓reduceIte, eq_self, oj_84, bI_1, bI_0, L0, L1, le_t, le_f, lt_t, lt_f, eq_t, eq_f, ncl, nI_add, nmul, nsub, ndiv, nrem, nrem', nrN, g223, gm1, q121, m59, wr_self]
  · have gr := c_ref cs
    have g223 := (s_223 ms).2 cd
    have g0 := m_go0 q12
    refine ⟨false, wr Hc 21 3 (nI t.2.1), wr Hm 84 12 (nI 1), ?_, ?_, FrC.ref.x, FrM.w.x, fun _ => ⟨by rw [wr_self, wr_k (by decide), e9], wr_self⟩, (fun e => by cases e)⟩
    · by_cases c6 : t.1 < 6
      · simp (disch := omega) only [R_66_57, R_66_75, R_66_79, gd_t, bI_, bV_, bR_, and_self, and_true, true_and, ↓reduceIte, eq_self, oj_84, bI_1, bI_0, L0, L1, L5, L6, L8, L9, L21, L23, L25, le_t, le_f, lt_t, lt_f, eq_t, eq_f, ncl, nI_add, nmul, nsub, ndiv, nrem, nrem', nrN, q8, gr, tor]
      · simp (disch := omega) only [R_66_57, R_66_66, R_66_75, R_66_79, gd_t, bI_, bV_, bR_, and_self, and_true, true_and, ↓reduceIte, eq_self, oj_84, bI_1, bI_0, L0, L1, L5, L6, L8, L9, L21, L23, L25, le_t, le_f, lt_t, lt_f, eq_t, eq_f, ncl, nI_add, nmul, nsub, ndiv, nrem, nrem', nrN, q8, gr, tor]
    · simp (disch := omega) only [R_212_50, R_212_54, R_212_64, R_212_68, R_212_89, R_212_167, gd_t, bI_, bV_, bR_, and_self, and_true, true_and, ↓reduceIte, eq_self, oj_84, bI_1, bI_0, L0, L1, le_t, le_f, lt_t, lt_f, eq_t, eq_f, ncl, nI_add, nmul, nsub, ndiv, nrem, nrem', nrN, g223, neg1lt, g0, wr_self]
theorem CdL.of {L M : List Nat} {c : (Nat → Nat) → Bool} (p : Psh 0 L M c) : CdL L c := Or.inr ⟨p.2.2.1, fun f => ⟨(c f).toNat, by
  have := p.1 f 0 [] (by decide)
  rw [List.append_nil] at this
  rw [this, Nat.mul_zero, Nat.zero_add]
  rfl, by cases c f <;> rfl⟩⟩
theorem CdM.of {L M : List Nat} {c : (Nat → Nat) → Bool} (p : Psh 0 L M c) : CdM M c := Or.inr ⟨p.2.2.2, fun f => by
  have := p.2.1 f [] []
  rw [List.append_nil] at this
  rw [this]
  rfl⟩
theorem rule_ok {N : Nat} {T : Nat → Nat} {t : Tok} {R : List Tok} {La Ma : List Nat} {Hc Hm : Hp} {rl : List Ru} (S : St N T 0 t R La Ma Hc Hm) (rc : RuC Hc rl La) (rm : RuM Hm rl Ma) : ∃ b Hc' Hm', S_66 Hc = some (bI b, Hc') ∧ S_212 Hm = some (nI 0, Hm') ∧ FrC2 Hc Hc' ∧ FrM2 Hm Hm' ∧ (b = false → Hc' 21 3 = Hm' 84 9 ∧ Hm' 84 12 = nI 1) ∧ (b = true → rl.length < 8 ∧ ∃ t' R' La' Ma' q, R'.length < R.length ∧ St N T 0 t' R' La' Ma' Hc' Hm' ∧ RuC Hc' (rl ++ [q]) La' ∧ RuM Hm' (rl ++ [q]) Ma') := by
  obtain ⟨cs, ms, s13, cc, cm, bc, bm⟩ := id S
  have q8 := cs.tok
  have lt := cs.lt
  have e5 := rc.1
  have h8 := rc.2.1
  have e17 := rm.1
  obtain ⟨-, q12, -, -, -, -, e9, -⟩ := id ms
  have gr := c_ref cs
  have g0 := m_go0 q12
  have bad : S_66 Hc = some (nI 0, wr Hc 21 3 (nI t.2.1)) → S_212 Hm = some (nI 0, wr Hm 84 12 (nI 1)) → ∃ b Hc' Hm', S_66 Hc = some (bI b, Hc') ∧ S_212 Hm = some (nI 0, Hm') ∧ FrC2 Hc Hc' ∧ FrM2 Hm Hm' ∧ (b = false → Hc' 21 3 = Hm' 84 9 ∧ Hm' 84 12 = nI 1) ∧ (b = true → rl.length < 8 ∧ ∃ t' R' La' Ma' q, R'.length < R.length ∧ St N T 0 t' R' La' Ma' Hc' Hm' ∧ RuC Hc' (rl ++ [q]) La' ∧ RuM Hm' (rl ++ [q]) Ma') := fun a b => ⟨false, _, _, a, b, FrC.ref.x, FrM.w.x, fun _ => ⟨by rw [wr_self, wr_k (by decide), e9], wr_self⟩, (fun e => by cases e)⟩
  have w27 := fun v => w_27 (v1 := v) (h := wr Hm 84 12 (nI 1)) wr_self
  by_cases ck : t.1 ≤ 5
  · have g213 := (s_213 ms).1 ck
    by_cases cn : rl.length < 8
    · have h27 : t.1 ≠ 27 := by omega
      obtain ⟨t1, R1, rfl⟩ := ms.ne h27
      simp only [List.length_cons] at bc bm
      obtain ⟨C1, gc1, cs1, fc1⟩ := c_adv cs h27
      obtain ⟨M1, gm1, ms1, fm1⟩ := m_go1 ms h27
      have q81 := cs1.tok
      have lt1 := cs1.lt
      have cc1 := cc.a fc1
      have cm1 := cm.a fm1
      have e15 : M1 84 15 = nI Ma.length := cm1.1
      have s131 : M1 84 13 = nI 0 := by rw [fm1.2 13 (by decide) (by decide) (by decide) (by decide)]; exact s13
      have rc1 := rc.c fc1.c
      have rm1 := rm.c fm1.m
      have eC : S_66 Hc = R_66_34 (nI t.1) C1 := by
        simp (disch := omega) only [S_66, R_66_0, R_66_12, R_66_25, gd_t, bI_, bV_, bR_, and_self, and_true, true_and, ↓reduceIte, eq_self, oj_84, bI_1, bI_0, L0, L1, L5, L6, L8, L9, L21, L23, L25, le_t, le_f, lt_t, lt_f, eq_t, eq_f, ncl, nI_add, nmul, nsub, ndiv, nrem, nrem', nrN, e5, q8, gc1]
      have eM : S_212 Hm = R_212_27 (nI t.1) M1 := by
        simp (disch := omega) only [S_212, R_212_0, R_212_4, R_212_10, R_212_19, L8, gd_t, bI_, bV_, bR_, and_self, and_true, true_and, ↓reduceIte, eq_self, oj_84, bI_1, bI_0, L0, L1, le_t, le_f, lt_t, lt_f, eq_t, eq_f, ncl, nI_add, nmul, nsub, ndiv, nrem, nrem', nrN, g213, e17, gm1]
      by_cases c9 : t1.1 = 9
      · have h271 : t1.1 ≠ 27 := by omega
        obtain ⟨t2, R2, rfl⟩ := ms1.ne h271
        simp only [List.length_cons] at bc bm
        obtain ⟨C2, gc2, cs2, fc2⟩ := c_adv cs1 h271
        obtain ⟨M2, gm2, ms2, fm2⟩ := m_nx ms1 h271
        have m9 := m_214t ms1 (w := 9) (by decide) c9
        obtain ⟨b, C3, M3, g1, g2, r1, r2, r3, r4⟩ := S69_PX N T t2 R2 La Ma C2 M2 ⟨cs2, ms2, by rw [fm2.2 13 (by decide) (by decide) (by decide) (by decide)]; exact s131, cc1.a fc2, cm1.a fm2, by omega, by omega⟩
        have g1 : S_69 (nI 0) C2 = some (bI b, C3) := g1
        have eM2 : S_212 Hm = R_212_50 (nI t.1) (nI Ma.length) M3 := by
          rw [eM]
          simp (disch := omega) only [R_212_27, R_212_39, R_212_42, R_212_46, gd_t, bI_, bV_, bR_, and_self, and_true, true_and, ↓reduceIte, eq_self, oj_84, bI_1, bI_0, L0, L1, le_t, le_f, lt_t, lt_f, eq_t, eq_f, ncl, nI_add, nmul, nsub, ndiv, nrem, nrem', nrN, Wd9, m9, e15, gm2, g2]
        cases b with
        | false =>
          obtain ⟨y1, y2⟩ := r3 rfl
          refine ⟨false, C3, M3, ?_, ?_, (fc1.c.tr (fc2.c.tr r1)).x, (fm1.m.tr (fm2.m.tr r2)).x, r3, (fun e => by cases e)⟩
          · rw [eC]
            simp (disch := omega) only [R_66_34, R_66_43, R_66_47, R_66_52, R_66_55, L9, gd_t, bI_, bV_, bR_, and_self, and_true, true_and, ↓reduceIte, eq_self, oj_84, bI_1, bI_0, L0, L1, le_t, le_f, lt_t, lt_f, eq_t, eq_f, ncl, nI_add, nmul, nsub, ndiv, nrem, nrem', nrN, q81, c9, gc2, g1]
          · rw [eM2]
            exact w_50 y2
        | true =>
          obtain ⟨t3, R3, L, M, c, y1, y0, S3, p⟩ := r4 rfl
          obtain ⟨b, C4, M4, x1, x2, x3, x4, x5, x6⟩ := rule_end S3 ((rc1.c fc2.c).c r1) ((rm1.c fm2.m).c r2) ck cn (CdL.of p) (CdM.of p)
          refine ⟨b, C4, M4, ?_, by rw [eM2]; exact x2, (fc1.c.tr (fc2.c.tr r1)).x.tr x3, (fm1.m.tr (fm2.m.tr r2)).x.tr x4, x5, fun e => ?_⟩
          · rw [eC, ← x1]
            simp (disch := omega) only [R_66_34, R_66_43, R_66_47, R_66_52, L9, gd_t, bI_, bV_, bR_, and_self, and_true, true_and, ↓reduceIte, eq_self, oj_84, bI_1, bI_0, L0, L1, le_t, le_f, lt_t, lt_f, eq_t, eq_f, ncl, nI_add, nmul, nsub, ndiv, nrem, nrem', nrN, q81, c9, gc2, g1]
          · obtain ⟨t', R', q, z1, z2⟩ := x6 e
            exact ⟨cn, t', R', _, _, q, by simp only [List.length_cons]; omega, z2⟩
      · have m9 := m_214f ms1 (w := 9) (by decide) c9
        have S1 : St N T 0 t1 R1 (La ++ []) (Ma ++ []) C1 M1 := by
          rw [List.append_nil, List.append_nil]
          exact ⟨cs1, ms1, s131, cc1, cm1, by omega, by omega⟩
        obtain ⟨b, C4, M4, x1, x2, x3, x4, x5, x6⟩ := rule_end (L := []) (M := []) (c := fun _ => true) S1 rc1 rm1 ck cn (Or.inl ⟨rfl, fun _ => rfl⟩) (Or.inl ⟨rfl, fun _ => rfl⟩)
        refine ⟨b, C4, M4, ?_, ?_, fc1.c.x.tr x3, fm1.m.x.tr x4, x5, fun e => ?_⟩
        · rw [eC, ← x1]
          simp (disch := omega) only [R_66_34, L9, gd_t, bI_, bV_, bR_, and_self, and_true, true_and, ↓reduceIte, eq_self, oj_84, bI_1, bI_0, L0, L1, le_t, le_f, lt_t, lt_f, eq_t, eq_f, ncl, nI_add, nmul, nsub, ndiv, nrem, nrem', nrN, q81]
        · rw [eM, ← x2]
          simp (disch := omega) only [R_212_27, R_212_39, gd_t, bI_, bV_, bR_, and_self, and_true, true_and, ↓reduceIte, eq_self, oj_84, bI_1, bI_0, L0, L1, le_t, le_f, lt_t, lt_f, eq_t, eq_f, ncl, nI_add, nmul, nsub, ndiv, nrem, nrem', nrN, Wd9, m9, e15]
        · obtain ⟨t', R', q, z1, z2⟩ := x6 e
          exact ⟨cn, t', R', _, _, q, by simp only [List.length_cons]; omega, z2⟩
    · refine bad ?_ ?_
      · simp (disch := omega) only [S_66, R_66_0, R_66_20, R_66_24, gd_t, bI_, bV_, bR_, and_self, and_true, true_and, ↓reduceIte, eq_self, oj_84, bI_1, bI_0, L0, L1, L5, L6, L8, L9, L21, L23, L25, le_t, le_f, lt_t, lt_f, eq_t, eq_f, ncl, nI_add, nmul, nsub, ndiv, nrem, nrem', nrN, e5, gr, tor]
      · simp (disch := omega) only [S_212, R_212_0, R_212_4, R_212_10, R_212_23, L8, gd_t, bI_, bV_, bR_, and_self, and_true, true_and, ↓reduceIte, eq_self, oj_84, bI_1, bI_0, L0, L1, le_t, le_f, lt_t, lt_f, eq_t, eq_f, ncl, nI_add, nmul, nsub, ndiv, nrem, nrem', nrN, g213, e17, g0, w27]
  · have g213 := (s_213 ms).2 ck
    refine bad ?_ ?_
    · by_cases cn : 8 ≤ rl.length
      · simp (disch := omega) only [S_66, R_66_0, R_66_20, R_66_24, gd_t, bI_, bV_, bR_, and_self, and_true, true_and, ↓reduceIte, eq_self, oj_84, bI_1, bI_0, L0, L1, L5, L6, L8, L9, L21, L23, L25, le_t, le_f, lt_t, lt_f, eq_t, eq_f, ncl, nI_add, nmul, nsub, ndiv, nrem, nrem', nrN, e5, gr, tor]
      · simp (disch := omega) only [S_66, R_66_0, R_66_12, R_66_20, R_66_24, gd_t, bI_, bV_, bR_, and_self, and_true, true_and, ↓reduceIte, eq_self, oj_84, bI_1, bI_0, L0, L1, L5, L6, L8, L9, L21, L23, L25, le_t, le_f, lt_t, lt_f, eq_t, eq_f, ncl, nI_add, nmul, nsub, ndiv, nrem, nrem', nrN, e5, q8, gr, tor]
    · simp (disch := omega) only [S_212, R_212_0, R_212_4, R_212_23, gd_t, bI_, bV_, bR_, and_self, and_true, true_and, ↓reduceIte, eq_self, oj_84, bI_1, bI_0, L0, L1, le_t, le_f, lt_t, lt_f, eq_t, eq_f, ncl, nI_add, nmul, nsub, ndiv, nrem, nrem', nrN, g213, neg1lt, g0, w27]
