/-! part 81: prove, judge -/
def rowV (s : Sg) (m : Mo) (L p i : Nat) : Nat := if i % 3 = 0 then dig s L p (i / 3) else if i % 3 = 1 then goW s (preM s m (i / 3) (p / (sN s + 1) ^ (L - i / 3))) (dig s L p (i / 3)) else mSet (preM s m (i / 3 + 1) (p / (sN s + 1) ^ (L - (i / 3 + 1))))
theorem rowV_0 {s : Sg} {m : Mo} {L p k : Nat} : rowV s m L p (3 * k) = dig s L p k := by
  unfold rowV
  rw [if_pos (by omega), show 3 * k / 3 = k by omega]
theorem rowV_1 {s : Sg} {m : Mo} {L p k : Nat} : rowV s m L p (3 * k + 1) = goW s (preM s m k (p / (sN s + 1) ^ (L - k))) (dig s L p k) := by
  unfold rowV
  rw [if_neg (by omega), if_pos (by omega), show (3 * k + 1) / 3 = k by omega]
theorem rowV_2 {s : Sg} {m : Mo} {L p k : Nat} : rowV s m L p (3 * k + 2) = mSet (preM s m (k + 1) (p / (sN s + 1) ^ (L - (k + 1)))) := by
  unfold rowV
  rw [if_neg (by omega), if_neg (by omega), show (3 * k + 2) / 3 = k by omega]
theorem rows3 {f g : Nat → Int32} {s : Sg} {m : Mo} {L p k : Nat} (hf : ∀ t, t < 3 * k → f t = nI (rowV s m L p t)) (e : ∀ t, t < 3 * k → g t = f t) (e0 : g (3 * k) = nI (dig s L p k)) (e1 : g (3 * k + 1) = nI (goW s (preM s m k (p / (sN s + 1) ^ (L - k))) (dig s L p k))) (e2 : g (3 * k + 2) = nI (mSet (preM s m (k + 1) (p / (sN s + 1) ^ (L - (k + 1)))))) : ∀ t, t < 3 * (k + 1) → g t = nI (rowV s m L p t) := fun t ht => by
  have : t < 3 * k ∨ t = 3 * k ∨ t = 3 * k + 1 ∨ t = 3 * k + 2 := by omega
  rcases this with c | c | c | c
  · rw [e t c, hf t c]
  · rw [c, e0, rowV_0]
  · rw [c, e1, rowV_1]
  · rw [c, e2, rowV_2]
theorem s_139 {h : Hp} {s : Sg} {m : Mo} {L p : Nat} (so : SgOk s) (mo : MoOk s m) (hs : SF h s) (hm : MoAt h 13 s m) (hL : mNight m + L ≤ 16) (hL4 : L ≤ 4) (e5 : h 31 5 = nI L) (ed : ∀ j, j < L → h 34 j = nI (dig s L p j)) : ∃ h', S_139 63 h = some (0, h') ∧ Same [12, 35, 36, 37, 63] h h' ∧ ∀ t, t < 3 * L → h' 63 t = nI (rowV s m L p t) := by
  have hN := so.1
  have loop : ∀ (i k fu : Nat) (H : Hp), k + i = L → i < fu → Same [12, 35, 36, 37, 63] h H → MoAt H 35 s (preM s m k (p / (sN s + 1) ^ (L - k))) → (∀ t, t < 3 * k → H 63 t = nI (rowV s m L p t)) → ∃ h', H_139_7 fu 63 35 (nI k) H = some (0, h') ∧ Same [12, 35, 36, 37, 63] h h' ∧ ∀ t, t < 3 * L → h' 63 t = nI (rowV s m L p t) := by
    intro i
    induction i with
    | zero =>
      intro k fu H ek hf sm hmH hr
      obtain ⟨fu, rfl⟩ : ∃ p, fu = p + 1 := ⟨fu - 1, by omega⟩
      have ek' : k = L := by omega
      subst ek'
      have e5' : H 31 5 = nI k := by rw [sm 31 (by decide)]; exact e5
      exact ⟨H, by simp (disch := omega) only [H_139_7, R_139_7, R_139_64, gd_t, bI_, bV_, bR_, and_self, and_true, true_and, ↓reduceIte, eq_self, oj_84, bI_1, bI_0, L0, L1, L2, L3, L5, L31, L34, le_t, le_f, lt_t, lt_f, eq_t, eq_f, ncl, nI_add, nmul, nsub, ndiv, nrem, nrem', nrN, e5'], sm, hr⟩
    | succ i ih =>
      intro k fu H ek hf sm hmH hr
      obtain ⟨fu, rfl⟩ : ∃ p, fu = p + 1 := ⟨fu - 1, by omega⟩
      have o := (preM_ok mo k (p / (sN s + 1) ^ (L - k)) (by omega)).1
      have hd := dig_le (s := s) (L := L) (P := p) (j := k)
      have e5' : H 31 5 = nI L := by rw [sm 31 (by decide)]; exact e5
      have e34 : H 34 k = nI (dig s L p k) := by rw [sm 34 (by decide)]; exact ed k (by omega)
      have hsH : SF (wr H 63 (3 * k) (nI (dig s L p k))) s := hs.congr (fun c _ _ => by rw [wr_c (by omega), sm c (by simp only [List.mem_cons, List.not_mem_nil, or_false]; omega)])
      obtain ⟨H2, g2, s2, m2⟩ := s_81 mo35 so o hsH (hmH.w (by decide) (by decide) (by decide)) (show dig s L p k ≤ 6 by omega)
      rw [← preM_P (by omega)] at m2
      have e63 : H2 63 = (wr H 63 (3 * k) (nI (dig s L p k))) 63 := s2 63 (by decide)
      obtain ⟨h', g, r⟩ := ih (k + 1) fu (wr (wr H2 63 (3 * k + 1) (nI (goW s (preM s m k (p / (sN s + 1) ^ (L - k))) (dig s L p k)))) 63 (3 * k + 2) (nI (mSet (preM s m (k + 1) (p / (sN s + 1) ^ (L - (k + 1))))))) (by omega) (by omega) (fun c hc => by
        simp only [List.mem_cons, List.not_mem_nil, or_false, not_or] at hc
        rw [wr_c hc.2.2.2.2, wr_c hc.2.2.2.2, s2 c (by simp only [List.mem_cons, List.not_mem_nil, or_false]; omega), wr_c hc.2.2.2.2]
        exact sm c (by simp only [List.mem_cons, List.not_mem_nil, or_false]; omega)) ((m2.w (by decide) (by decide) (by decide)).w (by decide) (by decide) (by decide)) (rows3 hr (fun t ht => by rw [wr_k (by omega), wr_k (by omega), e63, wr_k (by omega)]) (by rw [wr_k (by omega), wr_k (by omega), e63, wr_self]) (by rw [wr_k (by omega), wr_self]) (by rw [wr_self]))
      refine ⟨h', ?_, r⟩
      have i34 : IA 34 (nI k) = True := ia_34 (by omega)
      have ek3 : k * 3 = 3 * k := Nat.mul_comm _ _
      have eset : H2 35 2 = nI (mSet (preM s m (k + 1) (p / (sN s + 1) ^ (L - (k + 1))))) := m2.set
      simp (disch := omega) only [H_139_7, R_139_7, R_139_15, R_139_46, gd_t, bI_, bV_, bR_, and_self, and_true, true_and, ↓reduceIte, eq_self, oj_84, bI_1, bI_0, L0, L1, L2, L3, L5, L31, L34, le_t, le_f, lt_t, lt_f, eq_t, eq_f, ncl, nI_add, nmul, nsub, ndiv, nrem, nrem', nrN, e5', i34, ek3, ia_63, e34, wr_c, g2, oj_35, eset]
      exact g
  obtain ⟨h1, g1, s1, m1⟩ := s_87 so hm
  obtain ⟨h', g, r⟩ := loop L 0 fuL h1 (by omega) (fuL_gt (by omega)) (s1.le (by decide)) m1 (fun t ht => absurd ht (by omega))
  refine ⟨h', ?_, r⟩
  simp (disch := omega) only [S_139, R_139_0, R_139_4, gd_t, bI_, bV_, bR_, and_self, and_true, true_and, ↓reduceIte, eq_self, oj_84, bI_1, bI_0, L0, L1, L2, L3, L5, L31, L34, g1]
  exact g
def Bz (h H : Hp) : Prop := ∃ r, Brk 0 (wrA h 93 r) H
theorem Bz.mfr {h H H' : Hp} (b : Bz h H) (f : MFr H H') : Bz h H' := by
  obtain ⟨r, b⟩ := b
  exact ⟨r, b.mfr f⟩
theorem Bz.w93 {h H : Hp} {i : Nat} {x : Int32} (b : Bz h H) : Bz h (wr H 93 i x) := by
  obtain ⟨r, b1, b2, b3, b4, b5⟩ := b
  refine ⟨(wr H 93 i x) 93, fun c e1 e2 e3 e4 => ?_, by rw [wr_c (by decide)]; exact b2, fun j hj => ?_, fun j hj => ?_, fun j hj => ?_⟩
  · by_cases e : c = 93
    · rw [e, wrA_self]
    · rw [wrA_c e, wr_c e, b1 c e1 e2 e3 e4, wrA_c e]
  · rw [wr_c (by decide), b3 j hj, wrA_c (by decide), wrA_c (by decide)]
  · rw [wr_c (by decide), b4 j hj, wrA_c (by decide), wrA_c (by decide)]
  · rw [wr_c (by decide), b5 j hj, wrA_c (by decide), wrA_c (by decide)]
theorem bz_229 {h : Hp} (h4 : h 84 4 = nI 0) : ∃ h', S_229 h = some (0, h') ∧ Bz h h' ∧ (∀ c, c ≠ 84 → c ≠ 87 → c ≠ 88 → h' c = h c) ∧ ∀ j, j ≠ 4 → h' 84 j = h 84 j := by
  obtain ⟨h', g, b, e, x⟩ := s_229 (by decide) h4
  refine ⟨h', g, ⟨h 93, ?_⟩, fun c e1 e2 e3 => ?_, x⟩
  · have : wrA h 93 (h 93) = h := funext (fun c => by unfold wrA; split <;> simp_all)
    rw [this]
    exact b
  · by_cases e85 : c = 85
    · rw [e85, e]
    · exact b.1 c e1 e85 e2 e3
theorem bz_231 {h H : Hp} (h4 : h 84 4 = nI 0) (b : Bz h H) : ∃ h', S_231 H = some (0, h') ∧ (∀ c, c ≠ 84 → c ≠ 87 → c ≠ 88 → c ≠ 93 → h' c = h c) ∧ h' 93 = H 93 ∧ h' 84 4 = nI 0 ∧ ∀ j, j ≠ 4 → h' 84 j = H 84 j := by
  obtain ⟨r, b⟩ := b
  obtain ⟨h', g, f, x⟩ := s_231 (h0 := wrA h 93 r) (a := 0) (by decide) (by rw [wrA_c (by decide)]; exact h4) b
  refine ⟨h', g, fun c e1 e2 e3 e4 => by rw [f.1 c e1 e2 e3, wrA_c e4], ?_, by rw [f.2.1, wrA_c (by decide)]; exact h4, x⟩
  rw [f.1 93 (by decide) (by decide) (by decide), b.1 93 (by decide) (by decide) (by decide) (by decide)]
/-- behind the finding: the rows are written (model) -/
theorem r_271 {h : Hp} {s : Sg} {m : Mo} {L p : Nat} (so : SgOk s) (mo : MoOk s m) (q : SMd h s m) (h4 : h 84 4 = nI 0) (hL : mNight m + L ≤ 16) (hL4 : L ≤ 4) (e27 : h 84 27 = nI L) (ed : ∀ j, j < L → h 92 j = nI (dig s L p j)) : ∃ h', R_271_35 h = some (nI L, h') ∧ (∀ c, c ≠ 84 → c ≠ 87 → c ≠ 88 → c ≠ 93 → h' c = h c) ∧ (∀ j, h' 84 j = h 84 j) ∧ ∀ t, t < 3 * L → h' 93 t = nI (rowV s m L p t) := by
  have hN := so.1
  have loop : ∀ (i k fu : Nat) (H : Hp), k + i = L → i < fu → Bz h H → (∀ j, j ≠ 4 → H 84 j = h 84 j) → H 92 = h 92 → SMd H s (preM s m k (p / (sN s + 1) ^ (L - k))) → (∀ t, t < 3 * k → H 93 t = nI (rowV s m L p t)) → ∃ h', H_271_41 fu (nI k) H = some (nI L, h') ∧ (∀ c, c ≠ 84 → c ≠ 87 → c ≠ 88 → c ≠ 93 → h' c = h c) ∧ (∀ j, h' 84 j = h 84 j) ∧ ∀ t, t < 3 * L → h' 93 t = nI (rowV s m L p t) := by
    intro i
    induction i with
    | zero =>
      intro k fu H ek hf b x x92 qH hr
      obtain ⟨fu, rfl⟩ : ∃ p, fu = p + 1 := ⟨fu - 1, by omega⟩
      have ek' : k = L := by omega
      subst ek'
      have e27' : H 84 27 = nI k := by rw [x 27 (by decide)]; exact e27
      obtain ⟨h', g, f1, f2, f3, f4⟩ := bz_231 h4 b
      have e27'' : h' 84 27 = nI k := by rw [f4 27 (by decide)]; exact e27'
      refine ⟨h', by simp (disch := omega) only [H_271_41, R_271_41, R_271_103, R_271_107, gd_t, bI_, bV_, bR_, and_self, and_true, true_and, ↓reduceIte, eq_self, oj_84, bI_1, bI_0, L0, L1, L2, L3, L9, L20, L27, L84, L92, L93, le_t, le_f, lt_t, lt_f, eq_t, eq_f, ncl, nI_add, nmul, nsub, ndiv, nrem, nrem', nrN, e27', g, e27''], f1, fun j => ?_, by rw [f2]; exact hr⟩
      by_cases e : j = 4
      · rw [e, f3, h4]
      · rw [f4 j e, x j e]
    | succ i ih =>
      intro k fu H ek hf b x x92 qH hr
      obtain ⟨fu, rfl⟩ : ∃ p, fu = p + 1 := ⟨fu - 1, by omega⟩
      have o := (preM_ok mo k (p / (sN s + 1) ^ (L - k)) (by omega)).1
      have o2 := (preM_ok mo (k + 1) (p / (sN s + 1) ^ (L - (k + 1))) (by omega)).1
      have hd := dig_le (s := s) (L := L) (P := p) (j := k)
      have e27' : H 84 27 = nI L := by rw [x 27 (by decide)]; exact e27
      have e92 : H 92 k = nI (dig s L p k) := by rw [x92]; exact ed k (by omega)
      obtain ⟨H2, g2, q2, f2⟩ := s_226 so o (qH.w (c := 93) (i := 3 * k) (x := nI (dig s L p k)) (by decide)) hd
      rw [← preM_P (by omega)] at q2
      have q3 : SMd (wr H2 93 (3 * k + 1) (nI (goW s (preM s m k (p / (sN s + 1) ^ (L - k))) (dig s L p k)))) s (preM s m (k + 1) (p / (sN s + 1) ^ (L - (k + 1)))) := q2.w (by decide)
      have g3 := s_206 so o2 q3.1
      have e93 : H2 93 = (wr H 93 (3 * k) (nI (dig s L p k))) 93 := f2.1 93 (by decide) (by decide)
      obtain ⟨h', g, r⟩ := ih (k + 1) fu (wr (wr H2 93 (3 * k + 1) (nI (goW s (preM s m k (p / (sN s + 1) ^ (L - k))) (dig s L p k)))) 93 (3 * k + 2) (nI (mSet (preM s m (k + 1) (p / (sN s + 1) ^ (L - (k + 1))))))) (by omega) (by omega) (((b.w93).mfr f2).w93).w93 (fun j hj => by rw [wr_c (by decide), wr_c (by decide), f2.1 84 (by decide) (by decide), wr_c (by decide)]; exact x j hj) (by rw [wr_c (by decide), wr_c (by decide), f2.1 92 (by decide) (by decide), wr_c (by decide)]; exact x92) (q3.w (by decide)) (rows3 hr (fun t ht => by rw [wr_k (by omega), wr_k (by omega), e93, wr_k (by omega)]) (by rw [wr_k (by omega), wr_k (by omega), e93, wr_self]) (by rw [wr_k (by omega), wr_self]) (by rw [wr_self]))
      refine ⟨h', ?_, r⟩
      have i92 : IA 92 (nI k) = True := ia_92 (by omega)
      simp (disch := omega) only [H_271_41, R_271_41, R_271_49, R_271_82, R_271_96, gd_t, bI_, bV_, bR_, and_self, and_true, true_and, ↓reduceIte, eq_self, oj_84, bI_1, bI_0, L0, L1, L2, L3, L9, L20, L27, L84, L92, L93, le_t, le_f, lt_t, lt_f, eq_t, eq_f, ncl, nI_add, nmul, nsub, ndiv, nrem, nrem', nrN, e27', i92, ia_93, e92, wr_c, g2, g3]
      exact g
  obtain ⟨h1, g1, b1, f1, x1⟩ := bz_229 h4
  have q1 : SMd h1 s m := by unfold SMd; rw [f1 85 (by decide) (by decide) (by decide)]; exact q
  obtain ⟨h', g, r⟩ := loop L 0 fuL h1 (by omega) (fuL_gt (by omega)) b1 x1 (f1 92 (by decide) (by decide) (by decide)) q1 (fun t ht => absurd ht (by omega))
  refine ⟨h', ?_, r⟩
  simp (disch := omega) only [R_271_35, R_271_39, gd_t, bI_, bV_, bR_, and_self, and_true, true_and, ↓reduceIte, eq_self, oj_84, bI_1, bI_0, L0, L1, L2, L3, L9, L20, L27, L84, L92, L93, g1]
  exact g
theorem KepI.c2 {h h' : Hp} (q : KepI h) (a : h' 0 12 = h 0 12) (b : h' 84 2 = h 84 2) (c : ∀ i, (64 ≤ i ∧ i ≤ 74 ∨ 76 ≤ i ∧ i ≤ 83 ∨ i = 86) → h' i = h i) : KepI h' := by
  obtain ⟨b0, k1, k2, k3⟩ := q
  refine ⟨b0, by rw [a]; exact k1, by rw [b]; exact k2, fun hb => ?_⟩
  obtain ⟨s, m, y1, y2, y3, y4, y5, y6, y7, n, K, A, L, M, z1, z2, z3, z4⟩ := k3 hb
  refine ⟨s, m, y1, y2, ?_, y4.congr (by rw [c _ (by decide)]) (c _ (by decide)) (c _ (by decide)) (c _ (by decide)) (c _ (by decide)), y5.congr (c _ (by decide)) (c _ (by decide)) (c _ (by decide)), by rw [c 86 (by decide)]; exact y6, by rw [c 86 (by decide)]; exact y7, n, K, A, L, M, z1, by rw [c 79 (by decide)]; exact z2, by rw [c 86 (by decide)]; exact z3, ?_⟩
  · unfold SgAtB at y3 ⊢
    rw [c 64 (by decide), c (64 + 1) (by decide), c (64 + 2) (by decide), c (64 + 3) (by decide), c (64 + 4) (by decide), c (64 + 5) (by decide)]
    exact y3
  · rw [c 86 (by decide), c (79 + 1) (by decide), c (79 + 2) (by decide), c (79 + 3) (by decide), c (79 + 4) (by decide)]
    exact z4
def AgrR (h h' : Hp) : Prop := (∀ c, KeepC c → c ≠ 0 → c ≠ 63 → c ≠ 93 → h' c = h c) ∧ (∀ j, j ≠ 8 → h' 0 j = h 0 j) ∧ h' 16 4 = h 16 4 ∧ h' 21 1 = h 21 1 ∧ h' 61 1 = h 61 1 ∧ ∀ j, (j = 2 ∨ j = 4 ∨ j = 7 ∨ j = 35) → h' 84 j = h 84 j
theorem Agr.r {h h' : Hp} (a : Agr h h') : AgrR h h' := ⟨fun c e _ _ _ => a.1 c e, fun j _ => by rw [a.cell 0 (by decide)], a.2.1, a.2.2.1, a.2.2.2.1, fun j hj => a.2.2.2.2 j (by omega)⟩
theorem AgrR.tr {h h1 h2 : Hp} (a : AgrR h h1) (b : AgrR h1 h2) : AgrR h h2 := ⟨fun c e e0 e1 e2 => (b.1 c e e0 e1 e2).trans (a.1 c e e0 e1 e2), fun j hj => (b.2.1 j hj).trans (a.2.1 j hj), b.2.2.1.trans a.2.2.1, b.2.2.2.1.trans a.2.2.2.1, b.2.2.2.2.1.trans a.2.2.2.2.1, fun j hj => (b.2.2.2.2.2 j hj).trans (a.2.2.2.2.2 j hj)⟩
theorem Core.r {h h' : Hp} {s : Sg} {m : Mo} (q : Core h s m) (a : AgrR h h') : Core h' s m := q.c (fun c h1 h2 h3 => a.1 c (by unfold KeepC; omega) (by omega) (by omega) (by omega)) (a.2.2.2.2.2 4 (by decide)) (fun j _ _ => by rw [a.1 85 (by unfold KeepC; omega) (by decide) (by decide) (by decide)])
theorem Inv.r {h h' : Hp} (I : Inv h) (a : AgrR h h') (r : RowI h') : Inv h' := by
  obtain ⟨⟨s, m, C⟩, d1, d2, d3, d4, d5, d6, d7⟩ := I
  obtain ⟨a1, a2, a3, a4, a5, a6⟩ := id a
  have cl : ∀ c, (c ≠ 0 ∧ c ≠ 12 ∧ c ≠ 16 ∧ c ≠ 21 ∧ (c < 23 ∨ 50 ≤ c) ∧ c ≠ 61 ∧ c ≠ 63 ∧ c ≠ 75 ∧ c ≠ 84 ∧ c ≠ 87 ∧ c ≠ 88 ∧ c ≠ 90 ∧ c ≠ 91 ∧ c ≠ 92 ∧ c ≠ 93) → h' c = h c := fun c e => a1 c (by unfold KeepC; omega) (by omega) (by omega) (by omega)
  have e85 : h' 85 = h 85 := cl 85 (by decide)
  exact ⟨⟨s, m, C.r a⟩, d1.c a3 (fun i h1 h2 => cl _ (by omega)) (fun j _ => by rw [e85]), d2.c2 (a2 12 (by decide)) (a6 2 (by decide)) (fun i hi => cl i (by omega)), d3.c a4 (a6 7 (by decide)) (cl 22 (by decide)) (cl 89 (by decide)), r, d5.c (fun i hi => cl i (by omega)), d6.c (fun i hi => cl i (by omega)), d7.c a5 (a6 35 (by decide)) (cl 62 (by decide)) (cl 100 (by decide))⟩
theorem p_prove {v : Int32} : Pub (S_138 v) (S_271 v) := by
  intro h I
  obtain ⟨⟨s, m, C⟩, D⟩ := id I
  obtain ⟨so, mo, hs, hm, q, h4⟩ := id C
  have hN := so.1
  cases hr : rng 0 4 v with
  | false => exact ⟨-nI 1, h, h, by simp (disch := omega) only [R_138_29, R_138_18, R_138_9, R_138_7, R_138_4, R_138_0, S_138, gd_t, bI_, bV_, bR_, and_self, and_true, true_and, ↓reduceIte, eq_self, oj_84, bI_1, bI_0, L0, L1, L2, L3, L5, L8, L9, L20, L27, L31, L63, L84, L92, L93, s_108, hr], by simp (disch := omega) only [R_271_107, R_271_103, R_271_96, R_271_82, R_271_49, R_271_41, R_271_39, R_271_35, R_271_20, R_271_14, R_271_9, R_271_7, R_271_4, R_271_0, S_271, gd_t, bI_, bV_, bR_, and_self, and_true, true_and, ↓reduceIte, eq_self, oj_84, bI_1, bI_0, L0, L1, L2, L3, L5, L8, L9, L20, L27, L31, L63, L84, L92, L93, s_247, hr], I⟩
  | true =>
    obtain ⟨n, -, hn, rfl⟩ := rng_t hr
    obtain ⟨h1, g1, s1, A⟩ := s_109 (w := 0) so mo hs hm hn (by decide)
    have a1 : Agr h h1 := Agr.ofC s1
    have hl4 : lenN s m n ≤ 4 := by unfold lenN; omega
    have hlL : mNight m + lenN s m n ≤ 16 := by have := so.2.2.2.2.2; have := mo.2.2; unfold lenN; omega
    have hB := pow_le4 (show sN s + 1 ≤ 7 by omega) hl4
    have hB0 : 0 < (sN s + 1) ^ lenN s m n := Nat.pow_pos (Nat.succ_pos _)
    have e5 := A.2.2.2.2.2.1
    have hbp := (accB_le so mo hlL ((sN s + 1) ^ lenN s m n)).2.2 hB0
    obtain ⟨-, -, hs1, hm1, -, -⟩ := C.agr a1
    obtain ⟨h2, g2, s2, r2⟩ := s_139 so mo hs1 hm1 hlL hl4 e5 (A.2.2.1 hB0)
    have e52 : h2 31 5 = nI (lenN s m n) := by rw [s2 31 (by decide)]; exact e5
    have a2 : AgrR h1 (wr h2 0 8 (nI (lenN s m n))) := by
      have cl : ∀ c, c ≠ 0 → (c ≠ 12 ∧ c ≠ 63 ∧ (c < 35 ∨ 37 < c)) → wr h2 0 8 (nI (lenN s m n)) c = h1 c := fun c c0 e => by rw [wr_c c0, s2 c (by simp only [List.mem_cons, List.not_mem_nil, or_false]; omega)]
      refine ⟨fun c e e0 e1 _ => cl c e0 (by unfold KeepC at e; omega), fun j hj => by rw [wr_k hj, s2 0 (by decide)], by rw [cl 16 (by decide) (by decide)], by rw [cl 21 (by decide) (by decide)], by rw [cl 61 (by decide) (by decide)], fun j _ => by rw [cl 84 (by decide) (by decide)]⟩
    have aR := (a1.r).tr a2
    obtain ⟨-, -, -, -, q3, h43⟩ := C.r aR
    obtain ⟨h4', g4, a4, e19, e20, e21⟩ := s_248 so mo q3 h43 hn
    obtain ⟨-, -, -, -, q4, h44⟩ := (C.r aR).agr a4
    have g249 := s_249 so mo q4.1 (show n ≤ 1000 by omega)
    have q5 : SMd (wr h4' 84 27 (nI (lenN s m n))) s m := q4.w (by decide)
    obtain ⟨h5, g5, s5, d5⟩ := s_251 (h := wr h4' 84 27 (nI (lenN s m n))) (s := s) (L := lenN s m n) (P := (accB s m (lenN s m n) ((sN s + 1) ^ lenN s m n)).2.1) hN q5.1.n hl4 (by omega)
    have q6 : SMd h5 s m := by unfold SMd; rw [s5 85 (by decide)]; exact q5
    obtain ⟨h6, g6, f6, x6, r6⟩ := r_271 so mo q6 (by rw [s5 84 (by decide), wr_k (by decide)]; exact h44) hlL hl4 (by rw [s5 84 (by decide), wr_self]) d5
    have a5 : AgrR h4' h6 := by
      have cl : ∀ c, (c ≠ 84 ∧ c ≠ 87 ∧ c ≠ 88 ∧ c ≠ 93 ∧ c ≠ 92) → h6 c = h4' c := fun c e => by rw [f6 c e.1 e.2.1 e.2.2.1 e.2.2.2.1, s5 c (by simpa using e.2.2.2.2), wr_c e.1]
      refine ⟨fun c e e0 e1 e2 => cl c (by unfold KeepC at e; omega), fun j hj => by rw [cl 0 (by decide)], by rw [cl 16 (by decide)], by rw [cl 21 (by decide)], by rw [cl 61 (by decide)], fun j hj => by rw [x6 j, s5 84 (by decide), wr_k (by omega)]⟩
    have c63 : h6 63 = h2 63 := by rw [f6 63 (by decide) (by decide) (by decide) (by decide), s5 63 (by decide), wr_c (by decide), a4.cell 63 (by decide), wr_c (by decide)]
    have c08 : h6 0 8 = nI (lenN s m n) := by rw [f6 0 (by decide) (by decide) (by decide) (by decide), s5 0 (by decide), wr_c (by decide), a4.cell 0 (by decide), wr_self]
    refine ⟨nI (lenN s m n), wr h2 0 8 (nI (lenN s m n)), h6, ?_, ?_, I.r ((aR.tr a4.r).tr a5) ⟨lenN s m n, hl4, c08, by rw [x6 27, s5 84 (by decide), wr_self], fun j hj => by rw [c63, r2 j hj, r6 j hj]⟩⟩
    · simp (disch := omega) only [R_138_29, R_138_18, R_138_9, R_138_7, R_138_4, R_138_0, S_138, gd_t, bI_, bV_, bR_, and_self, and_true, true_and, ↓reduceIte, eq_self, oj_84, bI_1, bI_0, L0, L1, L5, L8, L31, L63, s_108, hr, g1, eq_f, g2, e52, wr_s]
    · simp (disch := omega) only [S_271, R_271_0, R_271_4, R_271_9, R_271_14, R_271_20, gd_t, bI_, bV_, bR_, and_self, and_true, true_and, ↓reduceIte, eq_self, oj_84, bI_1, bI_0, L0, L1, L2, L3, L9, L20, L27, L84, L92, L93, s_247, hr, eq_f, g4, g249, wr_k, wr_s, e20, g5, g6]
