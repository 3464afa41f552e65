/-! part 79: bills and bars -/
theorem nandn : ∀ w, w < 64 → ∀ S, S < 64 → nI w &&& (nI S ^^^ -nI 1) = nI (w &&& (S ^^^ 63)) := by decide +kernel
theorem nandn' {w S : Nat} (hw : w < 64) (hS : S < 64) : nI w &&& (nI S ^^^ -nI 1) = nI (w &&& (S ^^^ 63)) := nandn w hw S hS
theorem andn0 : ∀ w, w < 64 → ∀ S, S < 64 → ((w &&& (S ^^^ 63) = 0) ↔ (S &&& w = w)) ∧ w &&& (S ^^^ 63) < 64 := by decide +kernel
theorem andnb : ∀ w, w < 64 → ∀ S, S < 64 → ∀ i, i < 6 → (w &&& (S ^^^ 63)).testBit i = (w.testBit i && !S.testBit i) := by decide +kernel
def BI (h H : Hp) (s : Sg) (m : Mo) (L w P : Nat) : Prop := Bk h H ∧ H 85 = h 85 ∧ H 84 22 = onI (accF s m L w P) ∧ H 84 23 = nI (accS s m L P) ∧ ∀ j, j ≠ 4 → j ≠ 22 → j ≠ 23 → H 84 j = h 84 j
theorem p2_64' {n : Nat} (h : n ≤ 6) : 2 ^ n ≤ 64 := (show 2 ^ n ≤ 2 ^ 6 from Nat.pow_le_pow_right (by decide) h)
theorem m3lt : (-nI 3 < nI 0) = True := eq_true (by decide)
set_option maxRecDepth 100000 in
theorem s_256 {h : Hp} {s : Sg} {m : Mo} {n w : Nat} (so : SgOk s) (mo : MoOk s m) (q : SMd h s m) (h4 : h 84 4 = nI 0) (hn : n ≤ 4) (hw : w < 64) : ∃ h', S_256 (nI n) (nI w) h = some (0, h') ∧ Agr h h' ∧ h' 84 22 = onI (accF s m (lenN s m n) w ((sN s + 1) ^ lenN s m n)) ∧ h' 84 23 = nI (accS s m (lenN s m n) ((sN s + 1) ^ lenN s m n)) := by
  have hN := so.1
  have he := so.2.2.2.2.2
  have hnt := mo.2.2
  have hl4 : lenN s m n ≤ 4 := by unfold lenN; omega
  have hlL : mNight m + lenN s m n ≤ 16 := by unfold lenN; omega
  generalize eL : lenN s m n = L at hl4 hlL ⊢
  have hB := pow_le4 (show sN s + 1 ≤ 7 by omega) hl4
  have done : ∀ H, BI h H s m L w ((sN s + 1) ^ L) → ∃ h', R_256_160 H = some (0, h') ∧ Agr h h' ∧ h' 84 22 = onI (accF s m L w ((sN s + 1) ^ L)) ∧ h' 84 23 = nI (accS s m L ((sN s + 1) ^ L)) := by
    intro H ⟨f1, f2, f3, f4, f5⟩
    obtain ⟨h', g, a, x⟩ := bk_231 (l := [22, 23]) h4 f1 (fun j hj hj4 => f5 j hj4 (fun w => hj (by simp [w])) (fun w => hj (by simp [w]))) (by decide)
    refine ⟨h', by simp (disch := omega) only [R_256_160, R_256_164, L0, gd_t, bI_, bV_, bR_, and_self, and_true, true_and, ↓reduceIte, eq_self, oj_84, bI_1, bI_0, L0, L1, g], a, by rw [x 22 (by decide)]; exact f3, by rw [x 23 (by decide)]; exact f4⟩
  have nights : ∀ (rec : Int32 → Int32 → Int32 → Int32 → Hp → Option (Int32 × Hp)) (P : Nat) (i j fu : Nat) (H : Hp), j + i = L → i < fu → Bk h H → SMd H s (preM s m j (P / (sN s + 1) ^ (L - j))) → (∀ t, t < L → H 92 t = nI (dig s L P t)) → ∃ H', H_256_51 rec fu (nI w) (nI L) (nI ((sN s + 1) ^ L)) (nI P) (nI (preT s j (P / (sN s + 1) ^ (L - j)))) (nI j) H = R_256_95 rec (nI w) (nI L) (nI ((sN s + 1) ^ L)) (nI P) (nI (preT s L P)) H' ∧ Bk h H' ∧ MFr H H' ∧ SMd H' s (preM s m L P) := by
    intro rec P i
    induction i with
    | zero =>
      intro j fu H ej hf b qH a
      obtain ⟨fu, rfl⟩ : ∃ p, fu = p + 1 := ⟨fu - 1, by omega⟩
      have ej' : j = L := by omega
      subst ej'
      rw [Nat.sub_self, Nat.pow_zero, Nat.div_one] at qH ⊢
      refine ⟨H, ?_, b, MFr.rf, qH⟩
      simp (disch := omega) only [H_256_51, R_256_51, gd_t, bI_, bV_, bR_, and_self, and_true, true_and, ↓reduceIte, eq_self, oj_84, bI_1, bI_0, L0, L1, le_t, le_f, lt_t, lt_f, eq_t, eq_f, ncl, nI_add, nmul, nsub, ndiv, nrem, nrem', nrN]
    | succ i ih =>
      intro j fu H ej hf b qH a
      obtain ⟨fu, rfl⟩ : ∃ p, fu = p + 1 := ⟨fu - 1, by omega⟩
      have o := preM_ok mo j (P / (sN s + 1) ^ (L - j)) (by omega)
      have hd := dig_le (s := s) (L := L) (P := P) (j := j)
      obtain ⟨H1, g1, q1, f1⟩ := s_226 so o.1 qH hd
      rw [← preM_P (by omega)] at q1
      obtain ⟨H', g, b', f', q'⟩ := ih (j + 1) fu H1 (by omega) (by omega) (b.mfr f1) q1 (fun t ht => by rw [f1.1 92 (by decide) (by decide)]; exact a t ht)
      refine ⟨H', ?_, b', f1.tr f', q'⟩
      have hT := preT_le s j (P / (sN s + 1) ^ (L - j))
      rw [preT_P (by omega)] at g
      have e92 := a j (by omega)
      have i92 : IA 92 (nI j) = True := ia_92 (by omega)
      by_cases c : dig s L P j = 0
      · rw [if_pos c] at g
        have cl : (nI (dig s L P j) ≤ nI 0) = True := le_t (by omega) (by omega)
        simp (disch := omega) only [H_256_51, R_256_51, R_256_57, R_256_73, R_256_88, gd_t, bI_, bV_, bR_, and_self, and_true, true_and, ↓reduceIte, eq_self, oj_84, bI_1, bI_0, L0, L1, le_t, le_f, lt_t, lt_f, eq_t, eq_f, ncl, nI_add, nmul, nsub, ndiv, nrem, nrem', nrN, i92, e92, cl, g1]
        exact g
      · rw [if_neg c] at g
        have cl : (nI (dig s L P j) ≤ nI 0) = False := le_f (by omega) (by omega)
        simp (disch := omega) only [H_256_51, R_256_51, R_256_57, R_256_69, R_256_88, gd_t, bI_, bV_, bR_, and_self, and_true, true_and, ↓reduceIte, eq_self, oj_84, bI_1, bI_0, L0, L1, le_t, le_f, lt_t, lt_f, eq_t, eq_f, ncl, nI_add, nmul, nsub, ndiv, nrem, nrem', nrN, i92, e92, cl, g1]
        exact g
  have step : ∀ (rec : Int32 → Int32 → Int32 → Int32 → Hp → Option (Int32 × Hp)) (P : Nat) (H : Hp), P < (sN s + 1) ^ L → BI h H s m L w P → ∃ H', R_256_38 rec (nI w) (nI L) (nI ((sN s + 1) ^ L)) (nI P) H = rec (nI w) (nI L) (nI ((sN s + 1) ^ L)) (nI (P + 1)) H' ∧ BI h H' s m L w (P + 1) := by
    intro rec P H hP ⟨f1, f2, f3, f4, f5⟩
    obtain ⟨H1, g1, s1, d1⟩ := s_251 (s := s) (L := L) (P := P) hN (show H 85 0 = _ by rw [f2]; exact q.1.n) hl4 (by omega)
    have q1 : SMd H1 s (preM s m 0 (P / (sN s + 1) ^ (L - 0))) := by
      show SMd H1 s m
      unfold SMd
      rw [s1 85 (by decide), f2]
      exact q
    obtain ⟨H2, g2, b2, m2, q2⟩ := nights rec P L 0 fuL H1 (by omega) (fuL_gt (by omega)) (f1.s92 s1) q1 d1
    obtain ⟨H3, g3, b3, e3, s3⟩ := bk_232 b2
    have x : ∀ j, H3 84 j = H 84 j := fun j => by rw [s3 84 (by decide), m2.1 84 (by decide) (by decide), s1 84 (by decide)]
    have hT := preT_le s L P
    have o := (preM_ok mo L P hlL).1
    have hset := o.set so
    have hS := p64 (accS_lt mo hlL P) hN
    have gset := s_206 so o q2.1
    have x22 : H3 84 22 = onI (accF s m L w P) := by rw [x]; exact f3
    have x23 : H3 84 23 = nI (accS s m L P) := by rw [x]; exact f4
    have g2' : R_256_38 rec (nI w) (nI L) (nI ((sN s + 1) ^ L)) (nI P) H = R_256_105 rec (nI w) (nI L) (nI ((sN s + 1) ^ L)) (nI P) (nI (preT s L P)) (nI (mSet (preM s m L P))) H3 := by
      have z : nI (preT s 0 (P / (sN s + 1) ^ (L - 0))) = nI 0 := rfl
      rw [z] at g2
      simp (disch := omega) only [R_256_38, R_256_45, gd_t, bI_, bV_, bR_, and_self, and_true, true_and, ↓reduceIte, eq_self, oj_84, bI_1, bI_0, L0, L1, g1, g2, R_256_95, R_256_99, gset, g3]
    rw [g2']
    have fin : ∀ (v : Int32), v = onI (accF s m L w (P + 1)) → BI h (wr (wr H3 84 23 (nI (accS s m L P ||| mSet (preM s m L P)))) 84 22 v) s m L w (P + 1) := fun v hv =>
      ⟨(b3.w84 (by decide)).w84 (by decide), by rw [wr_c (by decide), wr_c (by decide)]; exact e3, by rw [wr_self]; exact hv, by rw [wr_k (by decide), wr_self, accS_s], fun j j4 j22 j23 => by rw [wr_k j22, wr_k j23, x j]; exact f5 j j4 j22 j23⟩
    have an := andn0 w hw _ hset
    by_cases cs : mSet (preM s m L P) &&& w = w
    · have ec : (nI (w &&& (mSet (preM s m L P) ^^^ 63)) = nI 0) = True := eq_true (by rw [an.1.mpr cs])
      by_cases cf : preT s L P < fewL (accF s m L w P)
      · have eF : accF s m L w (P + 1) = some (preT s L P) := by rw [accF_s, if_pos ⟨cs, cf⟩]
        refine ⟨_, ?_, fin (nI (preT s L P)) (by rw [eF]; rfl)⟩
        cases hf : accF s m L w P with
        | none =>
          rw [hf] at x22
          have x22' : H3 84 22 = -nI 3 := x22
          simp (disch := omega) only [R_256_105, R_256_126, R_256_133, R_256_142, gd_t, bI_, bV_, bR_, and_self, and_true, true_and, ↓reduceIte, eq_self, oj_84, bI_1, bI_0, L0, L1, L3, L9, L22, L23, L84, L92, nandn', ec, wr_k, x22', x23, m3lt, nor', nI_add]
        | some y =>
          rw [hf] at x22 cf
          have x22' : H3 84 22 = nI y := x22
          have cf' : preT s L P < y := cf
          have hy := accF_le P y hf
          have c1 : (nI y < nI 0) = False := lt_f (by omega) (by omega)
          have c2 : (nI y ≤ nI (preT s L P)) = False := le_f (by omega) (by omega)
          simp (disch := omega) only [R_256_105, R_256_126, R_256_133, R_256_142, gd_t, bI_, bV_, bR_, and_self, and_true, true_and, ↓reduceIte, eq_self, oj_84, bI_1, bI_0, L0, L1, L3, L9, L22, L23, L84, L92, nandn', ec, wr_k, x22', x23, c1, c2, nor', nI_add]
      · have eF : accF s m L w (P + 1) = accF s m L w P := by rw [accF_s, if_neg (fun q => cf q.2)]
        refine ⟨_, ?_, fin (H3 84 22) (by rw [eF]; exact x22)⟩
        cases hf : accF s m L w P with
        | none => rw [hf] at cf; exact absurd (show preT s L P < 100 by omega) cf
        | some y =>
          rw [hf] at x22 cf
          have x22' : H3 84 22 = nI y := x22
          have cf' : ¬ preT s L P < y := cf
          have hy := accF_le P y hf
          have c1 : (nI y < nI 0) = False := lt_f (by omega) (by omega)
          have c2 : (nI y ≤ nI (preT s L P)) = True := le_t (by omega) (by omega)
          simp (disch := omega) only [R_256_105, R_256_126, R_256_133, R_256_147, gd_t, bI_, bV_, bR_, and_self, and_true, true_and, ↓reduceIte, eq_self, oj_84, bI_1, bI_0, L0, L1, L3, L9, L22, L23, L84, L92, nandn', ec, wr_k, x22', x23, c1, c2, nor', nI_add]
    · have ec : (nI (w &&& (mSet (preM s m L P) ^^^ 63)) = nI 0) = False := eq_false (fun e => cs (an.1.mp ((nI_eq (by have := an.2; omega) (by omega)).mp e)))
      have eF : accF s m L w (P + 1) = accF s m L w P := by rw [accF_s, if_neg (fun q => cs q.1)]
      refine ⟨_, ?_, fin (H3 84 22) (by rw [eF]; exact x22)⟩
      simp (disch := omega) only [R_256_105, R_256_147, gd_t, bI_, bV_, bR_, and_self, and_true, true_and, ↓reduceIte, eq_self, oj_84, bI_1, bI_0, L0, L1, L3, L9, L22, L23, L84, L92, nandn', ec, wr_k, x23, nor', nI_add]
  have loop : ∀ (i P fu : Nat) (H : Hp), P + i = (sN s + 1) ^ L → i < fu → BI h H s m L w P → ∃ h', H_256_31 fu (nI w) (nI L) (nI ((sN s + 1) ^ L)) (nI P) H = some (0, h') ∧ Agr h h' ∧ h' 84 22 = onI (accF s m L w ((sN s + 1) ^ L)) ∧ h' 84 23 = nI (accS s m L ((sN s + 1) ^ L)) := by
    intro i
    induction i with
    | zero =>
      intro P fu H eP hf F
      obtain ⟨fu, rfl⟩ : ∃ p, fu = p + 1 := ⟨fu - 1, by omega⟩
      have eP' : P = (sN s + 1) ^ L := by omega
      rw [eP'] at F ⊢
      obtain ⟨h', g, r⟩ := done H F
      refine ⟨h', ?_, r⟩
      simp (disch := omega) only [H_256_31, R_256_31, gd_t, bI_, bV_, bR_, and_self, and_true, true_and, ↓reduceIte, eq_self, oj_84, bI_1, bI_0, L0, L1, le_t, le_f, lt_t, lt_f, eq_t, eq_f, ncl, nI_add, nmul, nsub, ndiv, nrem, nrem', nrN, g]
    | succ i ih =>
      intro P fu H eP hf F
      obtain ⟨fu, rfl⟩ : ∃ p, fu = p + 1 := ⟨fu - 1, by omega⟩
      obtain ⟨H', g, F'⟩ := step (H_256_31 fu) P H (by omega) F
      obtain ⟨h', g2, r⟩ := ih (P + 1) fu H' (by omega) (by omega) F'
      refine ⟨h', ?_, r⟩
      simp (disch := omega) only [H_256_31, R_256_31, gd_t, bI_, bV_, bR_, and_self, and_true, true_and, ↓reduceIte, eq_self, oj_84, bI_1, bI_0, L0, L1, le_t, le_f, lt_t, lt_f, eq_t, eq_f, ncl, nI_add, nmul, nsub, ndiv, nrem, nrem', nrN, g]
      exact g2
  obtain ⟨h1, g1, b1, e1, x1⟩ := bk_229 (h := wr (wr h 84 22 (-nI 3)) 84 23 (nI 0)) (by rw [wr_k (by decide), wr_k (by decide)]; exact h4)
  have b1' : Bk h h1 := by
    obtain ⟨r, y1, y2, y3, y4, y5⟩ := b1
    have ww : ∀ c, c ≠ 84 → wrA (wr (wr h 84 22 (-nI 3)) 84 23 (nI 0)) 92 r c = wrA h 92 r c := fun c hc => by unfold wrA; rw [wr_c hc, wr_c hc]
    exact ⟨r, fun c a1 a2 a3 a4 => by rw [y1 c a1 a2 a3 a4, ww c a1], y2, fun j hj => by rw [y3 j hj, ww 85 (by decide)], fun j hj => by rw [y4 j hj, ww 87 (by decide)], fun j hj => by rw [y5 j hj, ww 85 (by decide)]⟩
  obtain ⟨h', g, r⟩ := loop ((sN s + 1) ^ L) 0 fuL h1 (by omega) (fuL_gt (by omega)) ⟨b1', by rw [e1, wr_c (by decide), wr_c (by decide)], by rw [x1 22 (by decide), wr_k (by decide), wr_self]; rfl, by rw [x1 23 (by decide), wr_self]; rfl, fun j j4 j22 j23 => by rw [x1 j j4, wr_k j23, wr_k j22]⟩
  refine ⟨h', ?_, r⟩
  have g249 := s_249 so mo q.1 (show n ≤ 1000 by omega)
  have g250 := s_250 so mo q.1 hn
  rw [eL] at g249 g250
  simp (disch := omega) only [S_256, R_256_0, R_256_5, R_256_11, R_256_28, gd_t, bI_, bV_, bR_, and_self, and_true, true_and, ↓reduceIte, eq_self, oj_84, bI_1, bI_0, L0, L1, L3, L9, L22, L23, L84, L92, g249, g250, g1]
  exact g
theorem s_116 {h : Hp} {s : Sg} {v : Int32} (hN : sN s ≤ 6) (hn : h 1 7 = nI (sN s)) : S_116 v h = some (bI (rng 0 (2 ^ sN s - 1) v), h) := by
  have hp := p2_64' hN
  have e := s_11r (h := h) (v := v) (a := 0) (b := 2 ^ sN s - 1) (by decide) (by omega)
  have h1 : 1 ≤ 2 ^ sN s := Nat.two_pow_pos _
  cases hr : rng 0 (2 ^ sN s - 1) v <;> rw [hr] at e <;> simp (disch := omega) only [R_116_16, R_116_0, S_116, gd_t, bI_, bV_, bR_, and_self, and_true, true_and, ↓reduceIte, eq_self, oj_84, bI_1, bI_0, L0, L1, L7, L31, hn, nbit'', nsub, e, true_or, or_true]
theorem s_255 {h : Hp} {s : Sg} {v : Int32} (hN : sN s ≤ 6) (hn : h 85 0 = nI (sN s)) : S_255 v h = some (bI (rng 0 (2 ^ sN s - 1) v), h) := by
  have hp := p2_64' hN
  have e := s_177r (h := h) (v := v) (a := 0) (b := 2 ^ sN s - 1) (by decide) (by omega)
  have h1 : 1 ≤ 2 ^ sN s := Nat.two_pow_pos _
  cases hr : rng 0 (2 ^ sN s - 1) v <;> rw [hr] at e <;> simp (disch := omega) only [R_255_17, R_255_0, S_255, gd_t, bI_, bV_, bR_, and_self, and_true, true_and, ↓reduceIte, eq_self, oj_84, bI_1, bI_0, L0, L1, L31, L85, ia_85, ncl, hn, nbit'', nsub, J0, e, true_or, or_true]
