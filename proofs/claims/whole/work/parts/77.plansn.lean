/-! part 77: the model goes through its plans -/
def FB (h H : Hp) (s : Sg) (m : Mo) (L P : Nat) : Prop := Bk h H ∧ H 85 = h 85 ∧ H 84 19 = nI (accB s m L P).1 - nI 1 ∧ (0 < P → H 84 20 = nI (accB s m L P).2.1 ∧ H 84 21 = nI (accB s m L P).2.2) ∧ ∀ j, j ≠ 4 → j ≠ 19 → j ≠ 20 → j ≠ 21 → H 84 j = h 84 j
set_option maxRecDepth 100000 in
theorem s_248 {h : Hp} {s : Sg} {m : Mo} {n : Nat} (so : SgOk s) (mo : MoOk s m) (q : SMd h s m) (h4 : h 84 4 = nI 0) (hn : n ≤ 4) : ∃ h', S_248 (nI n) h = some (0, h') ∧ Agr h h' ∧ h' 84 19 = nI (accB s m (lenN s m n) ((sN s + 1) ^ lenN s m n)).1 - nI 1 ∧ h' 84 20 = nI (accB s m (lenN s m n) ((sN s + 1) ^ lenN s m n)).2.1 ∧ h' 84 21 = nI (accB s m (lenN s m n) ((sN s + 1) ^ lenN s m n)).2.2 := by
  have hN := so.1
  have he := so.2.2.2.2.2
  have hnt := mo.2.2
  have hl4 : lenN s m n ≤ 4 := by unfold lenN; omega
  have hlL : mNight m + lenN s m n ≤ 16 := by unfold lenN; omega
  generalize eL : lenN s m n = L at hl4 hlL ⊢
  have hB := pow_le4 (show sN s + 1 ≤ 7 by omega) hl4
  have hB0 : 0 < (sN s + 1) ^ L := Nat.pow_pos (Nat.succ_pos _)
  -- the end
  have done : ∀ H, FB h H s m L ((sN s + 1) ^ L) → ∃ h', R_248_164 H = some (0, h') ∧ Agr h h' ∧ h' 84 19 = nI (accB s m L ((sN s + 1) ^ L)).1 - nI 1 ∧ h' 84 20 = nI (accB s m L ((sN s + 1) ^ L)).2.1 ∧ h' 84 21 = nI (accB s m L ((sN s + 1) ^ L)).2.2 := by
    intro H ⟨f1, f2, f3, f4, f5⟩
    obtain ⟨h', g, a, x⟩ := bk_231 (l := [19, 20, 21]) h4 f1 (fun j hj hj4 => f5 j hj4 (fun w => hj (by simp [w])) (fun w => hj (by simp [w])) (fun w => hj (by simp [w]))) (by decide)
    refine ⟨h', by simp (disch := omega) only [R_248_164, R_248_168, L0, gd_t, bI_, bV_, bR_, and_self, and_true, true_and, ↓reduceIte, eq_self, oj_84, bI_1, bI_0, L0, L1, g], a, by rw [x 19 (by decide)]; exact f3, by rw [x 20 (by decide)]; exact (f4 hB0).1, by rw [x 21 (by decide)]; exact (f4 hB0).2⟩
  -- the nights of a plan
  have nights : ∀ (rec : Int32 → Int32 → Int32 → Hp → Option (Int32 × Hp)) (P : Nat) (i j fu : Nat) (H : Hp), j + i = L → i < fu → Bk h H → SMd H s (preM s m j (P / (sN s + 1) ^ (L - j))) → (∀ t, t < L → H 92 t = nI (dig s L P t)) → ∃ H', H_248_43 rec fu (nI L) (nI ((sN s + 1) ^ L)) (nI P) (nI (preW s m j (P / (sN s + 1) ^ (L - j)))) (nI j) H = R_248_71 rec (nI L) (nI ((sN s + 1) ^ L)) (nI P) (nI (preW s m L P)) H' ∧ Bk h H' ∧ MFr H H' := by
    intro rec P i
    induction i with
    | zero =>
      intro j fu H ej hf b qH a
      obtain ⟨fu, rfl⟩ : ∃ p, fu = p + 1 := ⟨fu - 1, by omega⟩
      have ej' : j = L := by omega
      subst ej'
      refine ⟨H, ?_, b, MFr.rf⟩
      rw [Nat.sub_self, Nat.pow_zero, Nat.div_one]
      simp (disch := omega) only [H_248_43, R_248_43, gd_t, bI_, bV_, bR_, and_self, and_true, true_and, ↓reduceIte, eq_self, oj_84, bI_1, bI_0, L0, L1, le_t, le_f, lt_t, lt_f, eq_t, eq_f, ncl, nI_add, nmul, nsub, ndiv, nrem, nrem', nrN]
    | succ i ih =>
      intro j fu H ej hf b qH a
      obtain ⟨fu, rfl⟩ : ∃ p, fu = p + 1 := ⟨fu - 1, by omega⟩
      have o := preM_ok mo j (P / (sN s + 1) ^ (L - j)) (by omega)
      obtain ⟨H1, g1, q1, f1⟩ := s_226 so o.1 qH (dig_le (s := s) (L := L) (P := P) (j := j))
      rw [← preM_P (by omega)] at q1
      obtain ⟨H', g, b', f'⟩ := ih (j + 1) fu H1 (by omega) (by omega) (b.mfr f1) q1 (fun t ht => by rw [f1.1 92 (by decide) (by decide)]; exact a t ht)
      refine ⟨H', ?_, b', f1.tr f'⟩
      rw [preW_P (by omega)] at g
      have e92 := a j (by omega)
      have i92 : IA 92 (nI j) = True := ia_92 (by omega)
      simp (disch := omega) only [H_248_43, R_248_43, R_248_49, R_248_62, gd_t, bI_, bV_, bR_, and_self, and_true, true_and, ↓reduceIte, eq_self, oj_84, bI_1, bI_0, L0, L1, le_t, le_f, lt_t, lt_f, eq_t, eq_f, ncl, nI_add, nmul, nsub, ndiv, nrem, nrem', nrN, i92, e92, g1]
      exact g
  -- a plan
  have step : ∀ (rec : Int32 → Int32 → Int32 → Hp → Option (Int32 × Hp)) (P : Nat) (H : Hp), P < (sN s + 1) ^ L → FB h H s m L P → ∃ H', R_248_30 rec (nI L) (nI ((sN s + 1) ^ L)) (nI P) H = rec (nI L) (nI ((sN s + 1) ^ L)) (nI (P + 1)) H' ∧ FB h H' s m L (P + 1) := by
    intro rec P H hP ⟨f1, f2, f3, f4, f5⟩
    obtain ⟨H1, g1, s1, d1⟩ := s_251 (s := s) (L := L) (P := P) hN (show H 85 0 = _ by rw [f2]; exact q.1.n) hl4 (by omega)
    have q1 : SMd H1 s (preM s m 0 (P / (sN s + 1) ^ (L - 0))) := by
      show SMd H1 s m
      unfold SMd
      rw [s1 85 (by decide), f2]
      exact q
    obtain ⟨H2, g2, b2, m2⟩ := nights rec P L 0 fuL H1 (by omega) (fuL_gt (by omega)) (f1.s92 s1) q1 d1
    obtain ⟨H3, g3, b3, e3, s3⟩ := bk_232 b2
    have x : ∀ j, H3 84 j = H 84 j := fun j => by rw [s3 84 (by decide), m2.1 84 (by decide) (by decide), s1 84 (by decide)]
    have hW := preW_le so mo L P hlL
    obtain ⟨bt, bc, ba⟩ := accB_le so mo hlL P
    have x19 : H3 84 19 = nI (accB s m L P).1 - nI 1 := by rw [x]; exact f3
    have e1 := le_top (W := preW s m L P) (t := (accB s m L P).1) (by omega) (by omega)
    have e2 := eq_top (W := preW s m L P) (t := (accB s m L P).1) (by omega) (by omega)
    have g2' : R_248_30 rec (nI L) (nI ((sN s + 1) ^ L)) (nI P) H = R_248_75 rec (nI L) (nI ((sN s + 1) ^ L)) (nI P) (nI (preW s m L P)) H3 := by
      have z : nI (preW s m 0 (P / (sN s + 1) ^ (L - 0))) = nI 0 := rfl
      rw [z] at g2
      simp (disch := omega) only [R_248_30, R_248_37, gd_t, bI_, bV_, bR_, and_self, and_true, true_and, ↓reduceIte, eq_self, oj_84, bI_1, bI_0, L0, L1, g1, g2, R_248_71, g3]
    rw [g2']
    by_cases c1 : (accB s m L P).1 < preW s m L P + 1
    · have eB : accB s m L (P + 1) = (preW s m L P + 1, P, 1) := by rw [accB_s, if_pos c1]
      rw [eq_false (show ¬ preW s m L P + 1 ≤ (accB s m L P).1 by omega)] at e1
      refine ⟨wr (wr (wr H3 84 20 (nI P)) 84 21 (nI 1)) 84 19 (nI (preW s m L P)), ?_, ((b3.w84 (by decide)).w84 (by decide)).w84 (by decide), by rw [wr_c (by decide), wr_c (by decide), wr_c (by decide)]; exact e3, ?_, fun _ => ⟨?_, ?_⟩, fun j j4 j19 j20 j21 => by rw [wr_k j19, wr_k j21, wr_k j20, x j]; exact f5 j j4 j19 j20 j21⟩
      · simp (disch := omega) only [R_248_75, R_248_85, R_248_107, R_248_146, gd_t, bI_, bV_, bR_, and_self, and_true, true_and, ↓reduceIte, eq_self, oj_84, bI_1, bI_0, L0, L1, L9, L19, L20, L21, L84, L92, x19, e1, wr_k, nI_add]
      · rw [wr_self, eB]
        exact (nsub (show 1 ≤ preW s m L P + 1 by omega)).symm
      · rw [wr_k (by decide), wr_k (by decide), wr_self, eB]
      · rw [wr_k (by decide), wr_self, eB]
    · rw [eq_true (show preW s m L P + 1 ≤ (accB s m L P).1 by omega)] at e1
      have hp0 : 0 < P := by
        rcases Nat.eq_zero_or_pos P with e | e
        · subst e
          exact absurd (show (0 : Nat) < preW s m L 0 + 1 by omega) c1
        · exact e
      obtain ⟨f20, f21⟩ := f4 hp0
      have x20 : H3 84 20 = nI (accB s m L P).2.1 := by rw [x]; exact f20
      have x21 : H3 84 21 = nI (accB s m L P).2.2 := by rw [x]; exact f21
      by_cases c2 : (accB s m L P).1 = preW s m L P + 1
      · have eB : accB s m L (P + 1) = ((accB s m L P).1, (accB s m L P).2.1, (accB s m L P).2.2 + 1) := by rw [accB_s, if_neg c1, if_pos c2]
        rw [eq_true (show preW s m L P + 1 = (accB s m L P).1 by omega)] at e2
        refine ⟨wr (wr (wr H3 84 20 (H3 84 20)) 84 21 (nI ((accB s m L P).2.2 + 1))) 84 19 (H3 84 19), ?_, ((b3.w84 (by decide)).w84 (by decide)).w84 (by decide), by rw [wr_c (by decide), wr_c (by decide), wr_c (by decide)]; exact e3, ?_, fun _ => ⟨?_, ?_⟩, fun j j4 j19 j20 j21 => by rw [wr_k j19, wr_k j21, wr_k j20, x j]; exact f5 j j4 j19 j20 j21⟩
        · simp (disch := omega) only [R_248_75, R_248_90, R_248_111, R_248_120, R_248_151, gd_t, bI_, bV_, bR_, and_self, and_true, true_and, ↓reduceIte, eq_self, oj_84, bI_1, bI_0, L0, L1, L9, L19, L20, L21, L84, L92, x19, x20, x21, e1, e2, wr_k, nI_add]
        · rw [wr_self, eB, x19]
        · rw [wr_k (by decide), wr_k (by decide), wr_self, eB, x20]
        · rw [wr_k (by decide), wr_self, eB]
      · have eB : accB s m L (P + 1) = accB s m L P := by rw [accB_s, if_neg c1, if_neg c2]
        rw [eq_false (show ¬ preW s m L P + 1 = (accB s m L P).1 by omega)] at e2
        refine ⟨wr (wr (wr H3 84 20 (H3 84 20)) 84 21 (H3 84 21)) 84 19 (H3 84 19), ?_, ((b3.w84 (by decide)).w84 (by decide)).w84 (by decide), by rw [wr_c (by decide), wr_c (by decide), wr_c (by decide)]; exact e3, ?_, fun _ => ⟨?_, ?_⟩, fun j j4 j19 j20 j21 => by rw [wr_k j19, wr_k j21, wr_k j20, x j]; exact f5 j j4 j19 j20 j21⟩
        · simp (disch := omega) only [R_248_75, R_248_90, R_248_111, R_248_129, R_248_151, gd_t, bI_, bV_, bR_, and_self, and_true, true_and, ↓reduceIte, eq_self, oj_84, bI_1, bI_0, L0, L1, L9, L19, L20, L21, L84, L92, x19, x20, x21, e1, e2, wr_k, nI_add]
        · rw [wr_self, eB, x19]
        · rw [wr_k (by decide), wr_k (by decide), wr_self, eB, x20]
        · rw [wr_k (by decide), wr_self, eB, x21]
  have loop : ∀ (i P fu : Nat) (H : Hp), P + i = (sN s + 1) ^ L → i < fu → FB h H s m L P → ∃ h', H_248_24 fu (nI L) (nI ((sN s + 1) ^ L)) (nI P) H = some (0, h') ∧ Agr h h' ∧ h' 84 19 = nI (accB s m L ((sN s + 1) ^ L)).1 - nI 1 ∧ h' 84 20 = nI (accB s m L ((sN s + 1) ^ L)).2.1 ∧ h' 84 21 = nI (accB s m L ((sN s + 1) ^ L)).2.2 := by
    intro i
    induction i with
    | zero =>
      intro P fu H eP hf F
      obtain ⟨fu, rfl⟩ : ∃ p, fu = p + 1 := ⟨fu - 1, by omega⟩
      have eP' : P = (sN s + 1) ^ L := by omega
      rw [eP'] at F ⊢
      obtain ⟨h', g, r⟩ := done H F
      refine ⟨h', ?_, r⟩
      simp (disch := omega) only [H_248_24, R_248_24, gd_t, bI_, bV_, bR_, and_self, and_true, true_and, ↓reduceIte, eq_self, oj_84, bI_1, bI_0, L0, L1, le_t, le_f, lt_t, lt_f, eq_t, eq_f, ncl, nI_add, nmul, nsub, ndiv, nrem, nrem', nrN, g]
    | succ i ih =>
      intro P fu H eP hf F
      obtain ⟨fu, rfl⟩ : ∃ p, fu = p + 1 := ⟨fu - 1, by omega⟩
      obtain ⟨H', g, F'⟩ := step (H_248_24 fu) P H (by omega) F
      obtain ⟨h', g2, r⟩ := ih (P + 1) fu H' (by omega) (by omega) F'
      refine ⟨h', ?_, r⟩
      simp (disch := omega) only [H_248_24, R_248_24, gd_t, bI_, bV_, bR_, and_self, and_true, true_and, ↓reduceIte, eq_self, oj_84, bI_1, bI_0, L0, L1, le_t, le_f, lt_t, lt_f, eq_t, eq_f, ncl, nI_add, nmul, nsub, ndiv, nrem, nrem', nrN, g]
      exact g2
  obtain ⟨h1, g1, b1, e1, x1⟩ := bk_229 (h := wr h 84 19 (nI 0 - nI 1)) (by rw [wr_k (by decide)]; exact h4)
  have b1' : Bk h h1 := by
    obtain ⟨r, y1, y2, y3, y4, y5⟩ := b1
    have ww : ∀ c, c ≠ 84 → wrA (wr h 84 19 (nI 0 - nI 1)) 92 r c = wrA h 92 r c := fun c hc => by unfold wrA; rw [wr_c hc]
    exact ⟨r, fun c a1 a2 a3 a4 => by rw [y1 c a1 a2 a3 a4, ww c a1], y2, fun j hj => by rw [y3 j hj, ww 85 (by decide)], fun j hj => by rw [y4 j hj, ww 87 (by decide)], fun j hj => by rw [y5 j hj, ww 85 (by decide)]⟩
  obtain ⟨h', g, r⟩ := loop ((sN s + 1) ^ L) 0 fuL h1 (by omega) (fuL_gt (by omega)) ⟨b1', by rw [e1, wr_c (by decide)], by rw [x1 19 (by decide), wr_self]; rfl, fun w => absurd w (by decide), fun j j4 j19 _ _ => by rw [x1 j j4, wr_k j19]⟩
  refine ⟨h', ?_, r⟩
  have g249 := s_249 so mo q.1 (show n ≤ 1000 by omega)
  have g250 := s_250 so mo q.1 hn
  rw [eL] at g249 g250
  have em : nI 0 - nI 1 = -nI 1 := rfl
  rw [em] at g1
  simp (disch := omega) only [S_248, R_248_0, R_248_5, R_248_11, R_248_21, gd_t, bI_, bV_, bR_, and_self, and_true, true_and, ↓reduceIte, eq_self, oj_84, bI_1, bI_0, L0, L1, L9, L19, L20, L21, L84, L92, g249, g250, g1]
  exact g
