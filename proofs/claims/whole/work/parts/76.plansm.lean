/-! part 76: the model's plans -/
theorem pre_d {B P j L : Nat} (hj : j < L) : P / B ^ (L - (j + 1)) / B = P / B ^ (L - j) := by
  rw [Nat.div_div_eq_div_mul, ← Nat.pow_succ, show (L - (j + 1)).succ = L - j by omega]
theorem preM_P {s : Sg} {m : Mo} {L P j : Nat} (hj : j < L) : preM s m (j + 1) (P / (sN s + 1) ^ (L - (j + 1))) = goM s (preM s m j (P / (sN s + 1) ^ (L - j))) (dig s L P j) := by
  rw [preM_s, pre_d hj]
  unfold dig
  rw [show L - (j + 1) = L - 1 - j by omega]
theorem preW_P {s : Sg} {m : Mo} {L P j : Nat} (hj : j < L) : preW s m (j + 1) (P / (sN s + 1) ^ (L - (j + 1))) = preW s m j (P / (sN s + 1) ^ (L - j)) + goW s (preM s m j (P / (sN s + 1) ^ (L - j))) (dig s L P j) := by
  rw [preW_s, pre_d hj]
  unfold dig
  rw [show L - (j + 1) = L - 1 - j by omega]
theorem preT_P {s : Sg} {L P j : Nat} (hj : j < L) : preT s (j + 1) (P / (sN s + 1) ^ (L - (j + 1))) = preT s j (P / (sN s + 1) ^ (L - j)) + (if dig s L P j = 0 then 0 else 1) := by
  rw [preT_s, pre_d hj]
  unfold dig
  rw [show L - (j + 1) = L - 1 - j by omega]
theorem dig_le {s : Sg} {L P j : Nat} : dig s L P j ≤ sN s := Nat.le_of_lt_succ (Nat.mod_lt _ (Nat.succ_pos _))
theorem s_249 {h : Hp} {s : Sg} {m : Mo} {n : Nat} (so : SgOk s) (mo : MoOk s m) (q : MdAt (h 85) s m) (hn : n ≤ 1000) : S_249 (nI n) h = some (nI (lenN s m n), h) := by
  have h1 := so.2.2.2.2.2
  have h2 := mo.2.2
  have e := s_186' (h := h) (a := sEnd s) (c := mNight m) (b := 16) (by omega) (by omega) (by omega)
  have e2 := s_186 (h := h) (a := n) (b := min (sEnd s - mNight m) 16) (by omega) (by omega)
  rw [show min n (min (sEnd s - mNight m) 16) = lenN s m n by unfold lenN; omega] at e2
  simp (disch := omega) only [R_249_24, R_249_21, R_249_0, S_249, L16, L2, gd_t, bI_, bV_, bR_, and_self, and_true, true_and, ↓reduceIte, eq_self, oj_84, bI_1, bI_0, L0, L1, L2, L16, L85, ncl, ia_85, q.end_, q.night, e, e2]
theorem s_250 {h : Hp} {s : Sg} {m : Mo} {n : Nat} (so : SgOk s) (mo : MoOk s m) (q : MdAt (h 85) s m) (hn : n ≤ 4) : S_250 (nI n) h = some (nI ((sN s + 1) ^ lenN s m n), h) := by
  have hN := so.1
  have hl : lenN s m n ≤ 4 := by unfold lenN; omega
  have e := s_249 so mo q (show n ≤ 1000 by omega)
  have loop : ∀ (j i fu : Nat), i + j = lenN s m n → j < fu → H_250_4 fu (nI n) (nI ((sN s + 1) ^ i)) (nI i) h = some (nI ((sN s + 1) ^ lenN s m n), h) := by
    intro j
    induction j with
    | zero =>
      intro i fu ei hf
      obtain ⟨fu, rfl⟩ : ∃ p, fu = p + 1 := ⟨fu - 1, by omega⟩
      have ei' : i = lenN s m n := by omega
      simp (disch := omega) only [H_250_4, R_250_30, R_250_13, R_250_10, R_250_4, R_250_0, S_250, gd_t, bI_, bV_, bR_, and_self, and_true, true_and, ↓reduceIte, eq_self, oj_84, bI_1, bI_0, L0, L1, L85, le_t, le_f, lt_t, lt_f, eq_t, eq_f, ncl, nI_add, nmul, nsub, ndiv, nrem, nrem', nrN, e, ei']
    | succ j ih =>
      intro i fu ei hf
      obtain ⟨fu, rfl⟩ : ∃ p, fu = p + 1 := ⟨fu - 1, by omega⟩
      have nx := ih (i + 1) fu (by omega) (by omega)
      have hp := pow_le4 (show sN s + 1 ≤ 7 by omega) (show i ≤ 4 by omega)
      rw [Nat.pow_succ] at nx
      have em : nI ((sN s + 1) ^ i) * nI (sN s + 1) = nI ((sN s + 1) ^ i * (sN s + 1)) := nmul _ _
      simp (disch := omega) only [H_250_4, R_250_30, R_250_13, R_250_10, R_250_4, R_250_0, S_250, gd_t, bI_, bV_, bR_, and_self, and_true, true_and, ↓reduceIte, eq_self, oj_84, bI_1, bI_0, L0, L1, L85, le_t, le_f, lt_t, lt_f, eq_t, eq_f, ncl, nI_add, nmul, nsub, ndiv, nrem, nrem', nrN, e, ia_85, q.n, em]
      exact nx
  have g := loop (lenN s m n) 0 fuL (by omega) (fuL_gt (by omega))
  rw [Nat.pow_zero] at g
  simp (disch := omega) only [S_250, R_250_0, gd_t, bI_, bV_, bR_, and_self, and_true, true_and, ↓reduceIte, eq_self, oj_84, bI_1, bI_0, L0, L1, L85]
  exact g
theorem s_251 {h : Hp} {s : Sg} {L P : Nat} (hN : sN s ≤ 6) (hn : h 85 0 = nI (sN s)) (hL : L ≤ 4) (hP : P < 2401) : ∃ h', S_251 (nI P) (nI L) h = some (0, h') ∧ Same [92] h h' ∧ ∀ j, j < L → h' 92 j = nI (dig s L P j) := by
  have loop : ∀ (i x fu : Nat) (H : Hp), i ≤ 4 → x < 2401 → i < fu → H 85 0 = nI (sN s) → ∃ h', H_251_7 fu (nI x) (nI i - nI 1) H = some (0, h') ∧ Same [92] H h' ∧ (∀ j, i ≤ j → h' 92 j = H 92 j) ∧ ∀ j, j < i → h' 92 j = nI (x / (sN s + 1) ^ (i - 1 - j) % (sN s + 1)) := by
    intro i
    induction i with
    | zero =>
      intro x fu H hi hx hf e
      obtain ⟨fu, rfl⟩ : ∃ p, fu = p + 1 := ⟨fu - 1, by omega⟩
      have en : (nI 0 - nI 1 < nI 0) = True := eq_true (by decide)
      exact ⟨H, by simp (disch := omega) only [H_251_7, R_251_7, R_251_46, gd_t, bI_, bV_, bR_, and_self, and_true, true_and, ↓reduceIte, eq_self, oj_84, bI_1, bI_0, L0, L1, L85, L92, en], Same.rf, fun j _ => rfl, fun j hj => absurd hj (by omega)⟩
    | succ i ih =>
      intro x fu H hi hx hf e
      obtain ⟨fu, rfl⟩ : ∃ p, fu = p + 1 := ⟨fu - 1, by omega⟩
      have hx2 : x / (sN s + 1) < 2401 := Nat.lt_of_le_of_lt (Nat.div_le_self _ _) hx
      obtain ⟨h', g, s1, k1, k2⟩ := ih (x / (sN s + 1)) fu (wr H 92 i (nI (x % (sN s + 1)))) (by omega) hx2 (by omega) (by rw [wr_c (by decide)]; exact e)
      have hx3 : x / (sN s + 1) * (sN s + 1) ≤ x := Nat.div_mul_le_self _ _
      refine ⟨h', ?_, fun c hc => by
        rw [s1 c hc, wr_c (by simpa using hc)], fun j hj => by rw [k1 j (by omega), wr_k (by omega)], fun j hj => ?_⟩
      · have e0 : (nI (sN s + 1) = nI 0) = False := eq_false (fun w => by have := (nI_eq (by omega) (by omega)).mp w; omega)
        have i92 : IA 92 (nI i) = True := ia_92 (by omega)
        have edv : nI x / nI (sN s + 1) = nI (x / (sN s + 1)) := ndiv (by omega) (by omega) (by omega)
        have erm : nI x - nI (x / (sN s + 1) * (sN s + 1)) = nI (x % (sN s + 1)) := nrem' (by omega) (by omega) (by omega)
        have eml : nI (x / (sN s + 1)) * nI (sN s + 1) = nI (x / (sN s + 1) * (sN s + 1)) := nmul _ _
        have ei : nI (i + 1) - nI 1 = nI i := nsub (by omega)
        have lt : (nI i < nI 0) = False := lt_f (by omega) (by omega)
        simp (disch := omega) only [H_251_7, R_251_7, R_251_12, gd_t, bI_, bV_, bR_, and_self, and_true, true_and, ↓reduceIte, eq_self, oj_84, bI_1, bI_0, L0, L1, L85, L92, ei, lt, ia_85, i92, e, nI_add, e0, not_false_eq_true, wr_c, wr_k, edv, eml, erm, ncl, addneg]
        exact g
      · by_cases ej : j = i
        · rw [k1 j (by omega), ej, wr_self, show i + 1 - 1 - i = 0 by omega, Nat.pow_zero, Nat.div_one]
        · rw [k2 j (by omega), Nat.div_div_eq_div_mul, Nat.mul_comm, ← Nat.pow_succ, show (i - 1 - j).succ = i + 1 - 1 - j by omega]
  obtain ⟨h', g, s1, -, k2⟩ := loop L P fuL h hL hP (fuL_gt (by omega)) hn
  refine ⟨h', ?_, s1, k2⟩
  simp (disch := omega) only [S_251, R_251_0, gd_t, bI_, bV_, bR_, and_self, and_true, true_and, ↓reduceIte, eq_self, oj_84, bI_1, bI_0, L0, L1, L85, L92]
  exact g
def Bk (h H : Hp) : Prop := ∃ r, Brk 0 (wrA h 92 r) H
theorem Bk.w84 {h H : Hp} {i : Nat} {x : Int32} (b : Bk h H) (hi : i ≠ 4) : Bk h (wr H 84 i x) := by
  obtain ⟨r, b⟩ := b
  exact ⟨r, b.w84 hi⟩
theorem Bk.mfr {h H H' : Hp} (b : Bk h H) (f : MFr H H') : Bk h H' := by
  obtain ⟨r, b⟩ := b
  exact ⟨r, b.mfr f⟩
theorem Bk.s92 {h H H' : Hp} (b : Bk h H) (f : Same [92] H H') : Bk h H' := by
  obtain ⟨r, b1, b2, b3, b4, b5⟩ := b
  refine ⟨H' 92, fun c e1 e2 e3 e4 => ?_, by rw [f 84 (by decide)]; exact b2, fun j hj => ?_, fun j hj => ?_, fun j hj => ?_⟩
  · by_cases e : c = 92
    · rw [e, wrA_self]
    · rw [wrA_c e, f c (by simpa using e), b1 c e1 e2 e3 e4, wrA_c e]
  · rw [f 87 (by decide), b3 j hj, wrA_c (by decide), wrA_c (by decide)]
  · rw [f 87 (by decide), b4 j hj, wrA_c (by decide), wrA_c (by decide)]
  · rw [f 85 (by decide), b5 j hj, wrA_c (by decide), wrA_c (by decide)]
theorem bk_229 {h : Hp} (h4 : h 84 4 = nI 0) : ∃ h', S_229 h = some (0, h') ∧ Bk h h' ∧ h' 85 = h 85 ∧ ∀ j, j ≠ 4 → h' 84 j = h 84 j := by
  obtain ⟨h', g, b, e, x⟩ := s_229 (by decide) h4
  refine ⟨h', g, ⟨h 92, ?_⟩, e, x⟩
  have : wrA h 92 (h 92) = h := funext (fun c => by unfold wrA; split <;> simp_all)
  rw [this]
  exact b
theorem bk_232 {h H : Hp} (b : Bk h H) : ∃ h', S_232 H = some (0, h') ∧ Bk h h' ∧ h' 85 = h 85 ∧ Same [85] H h' := by
  obtain ⟨r, b⟩ := b
  obtain ⟨h', g, b', e, sm⟩ := s_232 (by decide) b
  exact ⟨h', g, ⟨r, b'⟩, by rw [e, wrA_c (by decide)], sm⟩
theorem bk_231 {h H : Hp} {l : List Nat} (h4 : h 84 4 = nI 0) (b : Bk h H) (hx : ∀ j, j ∉ l → j ≠ 4 → H 84 j = h 84 j) (hl : ∀ j ∈ l, j ≠ 2 ∧ j ≠ 7 ∧ j ≠ 27 ∧ j ≠ 35) : ∃ h', S_231 H = some (0, h') ∧ Agr h h' ∧ ∀ j, j ≠ 4 → h' 84 j = H 84 j := by
  obtain ⟨r, b⟩ := b
  obtain ⟨h', g, f, x⟩ := s_231 (h0 := wrA h 92 r) (a := 0) (by decide) (by rw [wrA_c (by decide)]; exact h4) b
  refine ⟨h', g, Agr.tr (h1 := wrA h 92 r) ?_ (Agr.ofM f (l := l) (fun j hj hj4 => by rw [x j hj4, hx j hj hj4, wrA_c (by decide)]) hl), x⟩
  exact ⟨fun c e => wrA_c (by unfold KeepC at e; omega), by rw [wrA_c (by decide)], by rw [wrA_c (by decide)], by rw [wrA_c (by decide)], fun j _ => by rw [wrA_c (by decide)]⟩
