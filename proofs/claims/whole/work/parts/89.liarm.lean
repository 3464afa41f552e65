/-! part 89: lone, liar of the model, and both -/
def fitV (g : Nat → Nat) (v q : Nat) : Bool := decide (g q &&& (v ^^^ 63) = 0)
set_option maxRecDepth 100000 in
theorem s_264 {h : Hp} {s : Sg} {m : Mo} {n lst v : Nat} {K A L M : Nat → Nat} (so : SgOk s) (q : MdAt (h 85) s m) (R : RepD (h 85) n K A L M) (hk : ∀ r, r < n → K r < lst) (hv : v < 64) : ∃ h', S_264 (nI v) h = some (0, h') ∧ (∀ c, c ≠ 84 → h' c = h c) ∧ (∀ j, j ≠ 24 → j ≠ 25 → h' 84 j = h 84 j) ∧ h' 84 24 = nI (cntN (fitV (misQ s n lst K A L M) v) 500) ∧ h' 84 25 = onI (lsQ (fitV (misQ s n lst K A L M) v) 500 0) := by
  obtain ⟨n6, e6, e⟩ := id R
  have h2n := p2_64' n6
  have h2p : 1 ≤ 2 ^ n := Nat.two_pow_pos _
  have hF : 2 ^ n - 1 < 64 := by omega
  have hv2 := (andn0 (2 ^ n - 1) hF v hv).2
  have loop : ∀ (i fu : Nat) (H : Hp), i ≤ 500 → i < fu → (∀ c, c ≠ 84 → H c = h c) → (∀ j, j ≠ 24 → j ≠ 25 → H 84 j = h 84 j) → H 84 24 = nI (cnR (fitV (misQ s n lst K A L M) v) (500 - i) i) → H 84 25 = onI (lsQ (fitV (misQ s n lst K A L M) v) (500 - i) i) → ∃ h', H_264_31 fu (nI ((2 ^ n - 1) &&& (v ^^^ 63))) (nI i - nI 1) H = some (0, h') ∧ (∀ c, c ≠ 84 → h' c = h c) ∧ (∀ j, j ≠ 24 → j ≠ 25 → h' 84 j = h 84 j) ∧ h' 84 24 = nI (cnR (fitV (misQ s n lst K A L M) v) 500 0) ∧ h' 84 25 = onI (lsQ (fitV (misQ s n lst K A L M) v) 500 0) := by
    intro i
    induction i with
    | zero =>
      intro fu H hi hf a1 a2 a3 a4
      obtain ⟨fu, rfl⟩ : ∃ p, fu = p + 1 := ⟨fu - 1, by omega⟩
      have en : (nI 0 - nI 1 < nI 0) = True := eq_true (by decide)
      exact ⟨H, by simp (disch := omega) only [H_264_31, R_264_31, R_264_115, gd_t, bI_, bV_, bR_, and_self, and_true, true_and, ↓reduceIte, eq_self, oj_84, bI_1, bI_0, L0, L1, L3, L6, L10, L24, L25, L31, L84, L85, L100, L499, en], a1, a2, a3, a4⟩
    | succ i ih =>
      intro fu H hi hf a1 a2 a3 a4
      obtain ⟨fu, rfl⟩ : ∃ p, fu = p + 1 := ⟨fu - 1, by omega⟩
      have ei : nI (i + 1) - nI 1 = nI i := nsub (by omega)
      have lt : (nI i < nI 0) = False := lt_f (by omega) (by omega)
      have q' : MdAt (H 85) s m := by rw [a1 85 (by decide)]; exact q
      have R' : RepD (H 85) n K A L M := by rw [a1 85 (by decide)]; exact R
      have g := s_265 (kind := 1 + i / 100) (pretty := i / 10 % 10) (first := 6 * (i % 10)) so q' R' (by omega) (by omega) (by omega) (by omega)
      have mg := miss_good (A := A) (L := L) (M := M) (K := K) (f := lTD s (1 + i / 100) (i / 10 % 10) (6 * (i % 10))) (lst := lst) n6 (fun r hr => ⟨hk r hr, by have := (e r hr).1; omega⟩)
      have hG := p64 (accN_lt (goodP A L M K (lTD s (1 + i / 100) (i / 10 % 10) (6 * (i % 10)))) n 16) n6
      have ed1 : nI i / nI 100 = nI (i / 100) := ndiv (by omega) (by decide) (by decide)
      have ed2 : nI i / nI 10 = nI (i / 10) := ndiv (by omega) (by decide) (by decide)
      have er2 : nI (i / 10) - nI (i / 10) / nI 10 * nI 10 = nI (i / 10 % 10) := nrem (by omega) (by decide) (by decide)
      have er4 : nI (i / 10) - nI (i / 10 / 10 * 10) = nI (i / 10 % 10) := nrem' (by omega) (by decide) (by decide)
      have er3 : nI i - nI (i / 10 * 10) = nI (i % 10) := nrem' (by omega) (by decide) (by decide)
      have ej : 500 - i = 500 - (i + 1) + 1 := by omega
      have am : ((2 ^ n - 1) &&& (v ^^^ 63)) &&& (accN (goodP A L M K (lTD s (1 + i / 100) (i / 10 % 10) (6 * (i % 10)))) n 16 ^^^ 63) = misQ s n lst K A L M i &&& (v ^^^ 63) := by
        unfold misQ
        rw [mg, Nat.and_assoc, Nat.and_comm (v ^^^ 63), ← Nat.and_assoc]
      have ea := nandn' hv2 hG
      rw [am] at ea
      have hb : misQ s n lst K A L M i &&& (v ^^^ 63) < 64 := by
        have := Nat.and_le_left (n := misQ s n lst K A L M i) (m := v ^^^ 63)
        have := p64 (accN_lt (badP A L M K (lTD s (1 + i / 100) (i / 10 % 10) (6 * (i % 10)))) n lst) n6
        unfold misQ at *
        omega
      have pre : H_264_31 (fu + 1) (nI ((2 ^ n - 1) &&& (v ^^^ 63))) (nI (i + 1) - nI 1) H = if nI (misQ s n lst K A L M i &&& (v ^^^ 63)) = nI 0 then R_264_66 (H_264_31 fu) (nI ((2 ^ n - 1) &&& (v ^^^ 63))) (nI i) H else R_264_70 (H_264_31 fu) (nI ((2 ^ n - 1) &&& (v ^^^ 63))) (nI i) H := by
        rw [← ea]
        simp (disch := omega) only [H_264_31, R_264_31, R_264_35, R_264_60, gd_t, bI_, bV_, bR_, and_self, and_true, true_and, ↓reduceIte, eq_self, oj_84, bI_1, bI_0, L0, L1, L3, L6, L10, L24, L25, L31, L84, L85, L100, L499, ei, lt, ed1, ed2, er2, er3, er4, nI_add, nmul, g]
        rfl
      rw [pre]
      by_cases c : misQ s n lst K A L M i &&& (v ^^^ 63) = 0
      · have fv : fitV (misQ s n lst K A L M) v i = true := decide_eq_true c
        rw [if_pos (by rw [c])]
        obtain ⟨h', g2, r⟩ := ih fu (wr (wr H 84 24 (nI (cnR (fitV (misQ s n lst K A L M) v) (500 - (i + 1)) (i + 1) + 1))) 84 25 (nI i)) (by omega) (by omega) (fun c hc => by rw [wr_c hc, wr_c hc]; exact a1 c hc) (fun j j1 j2 => by rw [wr_k j2, wr_k j1]; exact a2 j j1 j2) (by rw [wr_k (by decide), wr_self, ej, cnR_s, if_pos fv]) (by rw [wr_self, ej, lsQ_s, if_pos fv]; rfl)
        refine ⟨h', ?_, r⟩
        simp (disch := omega) only [R_264_66, gd_t, bI_, bV_, bR_, and_self, and_true, true_and, ↓reduceIte, eq_self, oj_84, bI_1, bI_0, L0, L1, L3, L6, L10, L24, L25, L31, L84, L85, L100, L499, a3, nI_add, addneg]
        exact g2
      · have fv : fitV (misQ s n lst K A L M) v i = false := decide_eq_false c
        rw [if_neg (fun w => c ((nI_eq (by omega) (by decide)).mp w))]
        obtain ⟨h', g2, r⟩ := ih fu (wr (wr H 84 24 (nI (cnR (fitV (misQ s n lst K A L M) v) (500 - (i + 1)) (i + 1) + 0))) 84 25 (onI (lsQ (fitV (misQ s n lst K A L M) v) (500 - (i + 1)) (i + 1)))) (by omega) (by omega) (fun c hc => by rw [wr_c hc, wr_c hc]; exact a1 c hc) (fun j j1 j2 => by rw [wr_k j2, wr_k j1]; exact a2 j j1 j2) (by rw [wr_k (by decide), wr_self, ej, cnR_s, fv, if_neg (by decide)]) (by rw [wr_self, ej, lsQ_s, fv, if_neg (by decide)])
        refine ⟨h', ?_, r⟩
        simp (disch := omega) only [R_264_70, gd_t, bI_, bV_, bR_, and_self, and_true, true_and, ↓reduceIte, eq_self, oj_84, bI_1, bI_0, L0, L1, L3, L6, L10, L24, L25, L31, L84, L85, L100, L499, a3, a4, wr_k, nI_add, addneg]
        exact g2
  obtain ⟨h', g, r1, r2, r3, r4⟩ := loop 500 fuL (wr (wr h 84 24 (nI 0)) 84 25 (-nI 3)) (by omega) (fuL_gt (by omega)) (fun c hc => by rw [wr_c hc, wr_c hc]) (fun j j1 j2 => by rw [wr_k j2, wr_k j1]) (by rw [wr_k (by decide), wr_self]; rfl) (by rw [wr_self]; rfl)
  have e5 : nI 500 - nI 1 = nI 499 := rfl
  rw [e5] at g
  refine ⟨h', ?_, r1, r2, ?_, r4⟩
  · have eF := nandn' hF hv
    have L499 : (499 : Int32) = nI 499 := rfl
    simp (disch := omega) only [S_264, R_264_0, gd_t, bI_, bV_, bR_, and_self, and_true, true_and, ↓reduceIte, eq_self, oj_84, bI_1, bI_0, L0, L1, L3, L6, L10, L24, L25, L31, L84, L85, L100, L499, ia_85, ncl, e6, nbit'', nsub, eF, L499]
    exact g
  · rw [r3]
    have := cnR_N (fitV (misQ s n lst K A L M) v) 500 0
    rw [show cntN (fitV (misQ s n lst K A L M) v) 0 = 0 from rfl, Nat.zero_add, Nat.zero_add] at this
    rw [this]
