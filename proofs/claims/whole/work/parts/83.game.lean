/-! part 83: the game of two (class) -/
def pkF (b : Bool) (W : Nat → Nat) : Nat → Nat → Nat × Nat → Nat × Nat
  | 0, _, r => r
  | j + 1, i, r => pkF b W j (i + 1) (if (b = true ∧ r.1 < W i) ∨ (b = false ∧ W i < r.1) then (W i, i) else r)
theorem pkF_s (b : Bool) (W : Nat → Nat) (j i : Nat) (r : Nat × Nat) : pkF b W (j + 1) i r = pkF b W j (i + 1) (if (b = true ∧ r.1 < W i) ∨ (b = false ∧ W i < r.1) then (W i, i) else r) := rfl
def gV (s : Sg) : Nat → Bool → Mo → Nat
  | 0, _, _ => 0
  | k + 1, b, m => (pkF b (fun a => goW s m a + gV s k (!b) (goM s m a)) (sN s) 1 (goW s m 0 + gV s k (!b) (goM s m 0), 0)).1
theorem gV_s (s : Sg) (k : Nat) (b : Bool) (m : Mo) : gV s (k + 1) b m = (pkF b (fun a => goW s m a + gV s k (!b) (goM s m a)) (sN s) 1 (goW s m 0 + gV s k (!b) (goM s m 0), 0)).1 := rfl
def gA (s : Sg) (k : Nat) (m : Mo) : Nat := (pkF true (fun a => goW s m a + gV s k false (goM s m a)) (sN s) 1 (goW s m 0 + gV s k false (goM s m 0), 0)).2
theorem pkF_le {b : Bool} {W : Nat → Nat} {M : Nat} : ∀ (j i : Nat) (r : Nat × Nat), (∀ a, a < i + j → W a ≤ M) → r.1 ≤ M → (pkF b W j i r).1 ≤ M
  | 0, _, _, _, h => h
  | j + 1, i, r, hW, h => by
    rw [pkF_s]
    refine pkF_le j (i + 1) _ (fun a ha => hW a (by omega)) ?_
    split
    · exact hW i (by omega)
    · exact h
theorem pkF_add {b : Bool} {W : Nat → Nat} {B : Nat} : ∀ (j i : Nat) (r : Nat × Nat), pkF b (fun a => B + W a) j i (B + r.1, r.2) = (B + (pkF b W j i r).1, (pkF b W j i r).2)
  | 0, _, _ => rfl
  | j + 1, i, r => by
    rw [pkF_s, pkF_s, ← pkF_add j (i + 1)]
    congr 1
    by_cases c : (b = true ∧ r.1 < W i) ∨ (b = false ∧ W i < r.1)
    · rw [if_pos c, if_pos (by
        rcases c with ⟨c1, c2⟩ | ⟨c1, c2⟩
        · exact Or.inl ⟨c1, by show B + r.1 < B + W i; omega⟩
        · exact Or.inr ⟨c1, by show B + W i < B + r.1; omega⟩)]
    · rw [if_neg c, if_neg (by
        intro w
        apply c
        rcases w with ⟨c1, c2⟩ | ⟨c1, c2⟩
        · have c2' : B + r.1 < B + W i := c2
          exact Or.inl ⟨c1, by omega⟩
        · have c2' : B + W i < B + r.1 := c2
          exact Or.inr ⟨c1, by omega⟩)]
theorem gV_le {s : Sg} (so : SgOk s) : ∀ (k : Nat) (b : Bool) (m : Mo), MoOk s m → mNight m + k ≤ 16 → gV s k b m ≤ 453 * k
  | 0, _, _, _, _ => Nat.le_refl 0
  | k + 1, b, m, mo, h => by
    have w : ∀ a, goW s m a + gV s k (!b) (goM s m a) ≤ 453 * (k + 1) := fun a => by
      have h1 := goW_le (act := a) so mo
      have h2 := gV_le so k (!b) (goM s m a) (goOk mo (by omega)) (by rw [goM_night mo]; omega)
      omega
    rw [gV_s]
    exact pkF_le _ _ _ (fun a _ => w a) (w 0)
def GF (d : Nat) (h H : Hp) : Prop := (∀ c, c ≠ 12 → c ≠ 31 → (c < 38 + 3 * d ∨ 50 ≤ c) → H c = h c) ∧ ∀ j, j ≠ 11 → H 31 j = h 31 j
set_option maxRecDepth 100000 in
theorem s_121g {s : Sg} {m : Mo} {L : Nat} (so : SgOk s) (hL4 : L ≤ 4) : ∀ (k d n B : Nat) (m1 : Mo) (h : Hp), d + k = L → k < n → SF h s → MoOk s m1 → mNight m1 + k ≤ 16 → MoAt h (35 + 3 * d) s m1 → h 13 4 = mScore m → mScore m1 = mScore m + nI B → h 31 5 = nI L → B + 453 * k ≤ 1000000 → ∃ h', SG_121 n (nI d) h = some (nI (B + gV s k (decide (d % 2 = 0)) m1), h') ∧ GF d h h' ∧ (0 < d → h' 31 11 = h 31 11) ∧ (d = 0 → 0 < k → h' 31 11 = nI (gA s (k - 1) m1)) := by
  have hN := so.1
  intro k
  induction k with
  | zero =>
    intro d n B m1 h e hk hs o hnt hm h13 hsc h5 hB
    obtain ⟨n, rfl⟩ : ∃ p, n = p + 1 := ⟨n - 1, by omega⟩
    have ed : d = L := by omega
    have md := (moD (d := d) (by omega)).1
    have esc : h (35 + 3 * d) 4 - h 13 4 = nI B := by rw [hm.score, h13, hsc, sub_l]
    refine ⟨h, ?_, ⟨fun _ _ _ _ => rfl, fun _ _ => rfl⟩, fun _ => rfl, fun _ w => absurd w (by decide)⟩
    show R_121_0 (SG_121 n) _ h = some (nI (B + 0), h)
    rw [Nat.add_zero, ← esc]
    simp (disch := omega) only [R_121_0, R_121_13, gd_t, bI_, bV_, bR_, and_self, and_true, true_and, ↓reduceIte, eq_self, oj_84, bI_1, bI_0, L0, L1, le_t, le_f, lt_t, lt_f, eq_t, eq_f, ncl, nI_add, nmul, nsub, ndiv, nrem, nrem', nrN, h5, ed.symm, vpN, md]
  | succ k ih =>
    intro d n B m1 h e hk hs o hnt hm h13 hsc h5 hB
    obtain ⟨n, rfl⟩ : ∃ p, n = p + 1 := ⟨n - 1, by omega⟩
    have hd4 : d < 4 := by omega
    have md := moD (d := d) (by omega)
    have md1 := moD (d := d + 1) (by omega)
    generalize eb : decide (d % 2 = 0) = b
    have eb1 : decide ((d + 1) % 2 = 0) = !b := by
      rw [← eb]
      by_cases c : d % 2 = 0
      · rw [decide_eq_true c, decide_eq_false (by omega)]; rfl
      · rw [decide_eq_false c, decide_eq_true (by omega)]; rfl
    have wl : ∀ a, goW s m1 a + gV s k (!b) (goM s m1 a) ≤ 453 * (k + 1) := fun a => by
      have h1 := goW_le (act := a) so o
      have h2 := gV_le so k (!b) (goM s m1 a) (goOk o (by omega)) (by rw [goM_night o]; omega)
      omega
    -- an act: the night, and what it leads to
    have body : ∀ (rec : Int32 → Int32 → Int32 → Nat → Int32 → Hp → Option (Int32 × Hp)) (v3 : Int32) (a : Nat) (H : Hp), a ≤ sN s → GF d h H → ∃ H4, R_121_58 (SG_121 n) rec (nI d) (bI b) v3 (35 + 3 * (d + 1)) (nI a) H = R_121_100 (SG_121 n) rec (nI d) (bI b) v3 (35 + 3 * (d + 1)) (nI a) (nI (B + (goW s m1 a + gV s k (!b) (goM s m1 a)))) H4 ∧ GF d h H4 ∧ H4 31 11 = H 31 11 := by
      intro rec v3 a H ha P
      have cl : ∀ c, c < 12 ∨ (12 < c ∧ c < 31) ∨ (31 < c ∧ c < 38 + 3 * d) → H c = h c := fun c hc => P.1 c (by omega) (by omega) (by omega)
      have hsH : SF H s := hs.congr (fun c _ _ => cl c (by omega))
      have hmH : MoAt H (35 + 3 * d) s m1 := hm.congr (cl _ (by omega)) (cl _ (by omega)) (cl _ (by omega))
      have e17 : H 1 7 = nI (sN s) := hsH.1.n
      obtain ⟨H1, g1, s1, m1'⟩ := s_88 md1 md (by omega) so hmH
      have c1 : ∀ c, c < 38 + 3 * d ∨ 40 + 3 * d < c → H1 c = H c := fun c hc => s1 c (by simp only [List.mem_cons, List.not_mem_nil, or_false]; omega)
      have hs1 : SF H1 s := hsH.congr (fun c _ _ => c1 c (by omega))
      obtain ⟨H2, g2, s2, m2⟩ := s_81 md1 so o hs1 m1' (show a ≤ 6 by omega)
      have c2 : ∀ c, c ≠ 12 → c < 38 + 3 * d ∨ 40 + 3 * d < c → H2 c = H c := fun c h12 hc => by rw [s2 c (by simp only [List.mem_cons, List.not_mem_nil, or_false]; omega), c1 c hc]
      have e31 : H2 31 = H 31 := c2 31 (by decide) (by omega)
      obtain ⟨H4, g4, P4, x4, -⟩ := ih (d + 1) n (B + goW s m1 a) (goM s m1 a) H2 (by omega) (by omega) (hsH.congr (fun c _ _ => c2 c (by omega) (by omega))) (goOk o (by omega)) (by rw [goM_night o]; omega) m2 (by rw [c2 13 (by decide) (by omega), cl 13 (by omega)]; exact h13) (by rw [goM_score o, hsc, Int32.add_assoc, nI_add]) (by rw [e31, P.2 5 (by decide)]; exact h5) (by have := goW_le (act := a) so o; omega)
      refine ⟨H4, ?_, ⟨fun c h12 h31 hc => ?_, fun j hj => ?_⟩, by rw [x4 (by omega), e31]⟩
      · rw [eb1, Nat.add_assoc] at g4
        have o3 := md1.1
        simp (disch := omega) only [R_121_58, R_121_70, R_121_81, R_121_92, gd_t, bI_, bV_, bR_, and_self, and_true, true_and, ↓reduceIte, eq_self, oj_84, bI_1, bI_0, L0, L1, le_t, le_f, lt_t, lt_f, eq_t, eq_f, ncl, nI_add, nmul, nsub, ndiv, nrem, nrem', nrN, e17, vpN, o3, g1, g2, g4]
      · rw [P4.1 c h12 h31 (by omega), c2 c h12 (by omega)]
        exact P.1 c h12 h31 hc
      · rw [P4.2 j hj, e31]
        exact P.2 j hj
    generalize eW : (fun a => B + (goW s m1 a + gV s k (!b) (goM s m1 a))) = W
    have Wa : ∀ a, B + (goW s m1 a + gV s k (!b) (goM s m1 a)) = W a := fun a => by rw [← eW]
    have Wl : ∀ a, W a ≤ 1000000 := fun a => by have := wl a; rw [← Wa]; omega
    have loop : ∀ (i a fu : Nat) (H : Hp) (r : Nat × Nat), 1 ≤ a → a + i = sN s + 1 → i < fu → GF d h H → (0 < d → H 31 11 = h 31 11) → (d = 0 → H 31 11 = nI r.2) → r.1 ≤ 1000000 → ∃ h', H_121_58 (SG_121 n) fu (nI d) (bI b) (nI r.1) (35 + 3 * (d + 1)) (nI a) H = some (nI (pkF b W i a r).1, h') ∧ GF d h h' ∧ (0 < d → h' 31 11 = h 31 11) ∧ (d = 0 → h' 31 11 = nI (pkF b W i a r).2) := by
      intro i
      induction i with
      | zero =>
        intro a fu H r ha ea hf P x y hr
        obtain ⟨fu, rfl⟩ : ∃ p, fu = p + 1 := ⟨fu - 1, by omega⟩
        have e17 : H 1 7 = nI (sN s) := by rw [P.1 1 (by decide) (by decide) (by omega)]; exact hs.1.n
        have ea' : a = sN s + 1 := by omega
        exact ⟨H, by simp (disch := omega) only [H_121_58, R_121_58, R_121_145, gd_t, bI_, bV_, bR_, and_self, and_true, true_and, ↓reduceIte, eq_self, oj_84, bI_1, bI_0, L0, L1, le_t, le_f, lt_t, lt_f, eq_t, eq_f, ncl, nI_add, nmul, nsub, ndiv, nrem, nrem', nrN, e17, ea']; rfl, P, x, y⟩
      | succ i ihi =>
        intro a fu H r ha ea hf P x y hr
        obtain ⟨fu, rfl⟩ : ∃ p, fu = p + 1 := ⟨fu - 1, by omega⟩
        obtain ⟨H4, g4, P4, x4⟩ := body (H_121_58 (SG_121 n) fu) (nI r.1) a H (by omega) P
        rw [Wa] at g4
        have hWa := Wl a
        have ea0 : (nI a = nI 0) = False := eq_f (by omega) (by omega) (by decide)
        rw [pkF_s]
        by_cases c : (b = true ∧ r.1 < W a) ∨ (b = false ∧ W a < r.1)
        · rw [if_pos c]
          have setr : ∃ H5, R_121_126 (SG_121 n) (H_121_58 (SG_121 n) fu) (nI d) (bI b) (35 + 3 * (d + 1)) (nI a) (nI (W a)) H4 = H_121_58 (SG_121 n) fu (nI d) (bI b) (nI (W a)) (35 + 3 * (d + 1)) (nI (a + 1)) H5 ∧ R_121_117 (SG_121 n) (H_121_58 (SG_121 n) fu) (nI d) (bI b) (35 + 3 * (d + 1)) (nI a) (nI (W a)) H4 = H_121_58 (SG_121 n) fu (nI d) (bI b) (nI (W a)) (35 + 3 * (d + 1)) (nI (a + 1)) H5 ∧ GF d h H5 ∧ (0 < d → H5 31 11 = h 31 11) ∧ (d = 0 → H5 31 11 = nI a) := by
            by_cases d0 : d = 0
            · refine ⟨wr H4 31 11 (nI a), ?_, ?_, ⟨fun c h12 h31 hc => by rw [wr_c h31]; exact P4.1 c h12 h31 hc, fun j hj => by rw [wr_k hj]; exact P4.2 j hj⟩, fun w => absurd w (by omega), fun _ => wr_self⟩
              · subst d0
                simp (disch := omega) only [R_121_126, R_121_133, L11, gd_t, bI_, bV_, bR_, and_self, and_true, true_and, ↓reduceIte, eq_self, oj_84, bI_1, bI_0, L0, L1, le_t, le_f, lt_t, lt_f, eq_t, eq_f, ncl, nI_add, nmul, nsub, ndiv, nrem, nrem', nrN]
              · subst d0
                simp (disch := omega) only [R_121_117, R_121_133, L11, gd_t, bI_, bV_, bR_, and_self, and_true, true_and, ↓reduceIte, eq_self, oj_84, bI_1, bI_0, L0, L1, le_t, le_f, lt_t, lt_f, eq_t, eq_f, ncl, nI_add, nmul, nsub, ndiv, nrem, nrem', nrN]
            · have ed0 : (nI d = nI 0) = False := eq_f d0 (by omega) (by decide)
              refine ⟨H4, ?_, ?_, P4, fun w => by rw [x4]; exact x w, fun w => absurd w d0⟩
              · simp (disch := omega) only [R_121_126, R_121_139, gd_t, bI_, bV_, bR_, and_self, and_true, true_and, ↓reduceIte, eq_self, oj_84, bI_1, bI_0, L0, L1, le_t, le_f, lt_t, lt_f, eq_t, eq_f, ncl, nI_add, nmul, nsub, ndiv, nrem, nrem', nrN, ed0]
              · simp (disch := omega) only [R_121_117, R_121_139, gd_t, bI_, bV_, bR_, and_self, and_true, true_and, ↓reduceIte, eq_self, oj_84, bI_1, bI_0, L0, L1, le_t, le_f, lt_t, lt_f, eq_t, eq_f, ncl, nI_add, nmul, nsub, ndiv, nrem, nrem', nrN, ed0]
          obtain ⟨H5, g5a, g5b, P5, x5, y5⟩ := setr
          obtain ⟨h', g, rest⟩ := ihi (a + 1) fu H5 (W a, a) (by omega) (by omega) (by omega) P5 x5 y5 hWa
          refine ⟨h', ?_, rest⟩
          show R_121_58 (SG_121 n) (H_121_58 (SG_121 n) fu) _ _ _ _ _ H = _
          rw [g4]
          rcases c with ⟨cb, c⟩ | ⟨cb, c⟩
          · subst cb
            rw [bI_1] at g5b g
            simp (disch := omega) only [R_121_100, R_121_107, R_121_111, gd_t, bI_, bV_, bR_, and_self, and_true, true_and, ↓reduceIte, eq_self, oj_84, bI_1, bI_0, L0, L1, le_t, le_f, lt_t, lt_f, eq_t, eq_f, ncl, nI_add, nmul, nsub, ndiv, nrem, nrem', nrN, ea0, g5b]
            exact g
          · subst cb
            rw [bI_0] at g5a g
            simp (disch := omega) only [R_121_100, R_121_107, R_121_120, gd_t, bI_, bV_, bR_, and_self, and_true, true_and, ↓reduceIte, eq_self, oj_84, bI_1, bI_0, L0, L1, le_t, le_f, lt_t, lt_f, eq_t, eq_f, ncl, nI_add, nmul, nsub, ndiv, nrem, nrem', nrN, ea0, g5a]
            exact g
        · rw [if_neg c]
          obtain ⟨h', g, rest⟩ := ihi (a + 1) fu H4 r (by omega) (by omega) (by omega) P4 (fun w => by rw [x4]; exact x w) (fun w => by rw [x4]; exact y w) hr
          refine ⟨h', ?_, rest⟩
          show R_121_58 (SG_121 n) (H_121_58 (SG_121 n) fu) _ _ _ _ _ H = _
          rw [g4]
          cases b with
          | true =>
            have c' : W a ≤ r.1 := Nat.not_lt.mp (fun w => c (Or.inl ⟨rfl, w⟩))
            simp (disch := omega) only [R_121_100, R_121_107, R_121_111, R_121_139, gd_t, bI_, bV_, bR_, and_self, and_true, true_and, ↓reduceIte, eq_self, oj_84, bI_1, bI_0, L0, L1, le_t, le_f, lt_t, lt_f, eq_t, eq_f, ncl, nI_add, nmul, nsub, ndiv, nrem, nrem', nrN, ea0]
            rw [bI_1] at g
            exact g
          | false =>
            have c' : r.1 ≤ W a := Nat.not_lt.mp (fun w => c (Or.inr ⟨rfl, w⟩))
            simp (disch := omega) only [R_121_100, R_121_107, R_121_120, R_121_139, gd_t, bI_, bV_, bR_, and_self, and_true, true_and, ↓reduceIte, eq_self, oj_84, bI_1, bI_0, L0, L1, le_t, le_f, lt_t, lt_f, eq_t, eq_f, ncl, nI_add, nmul, nsub, ndiv, nrem, nrem', nrN, ea0]
            rw [bI_0] at g
            exact g
    -- the first act
    obtain ⟨N, ef, hNf⟩ := fuL_s
    obtain ⟨H4, g4, P4, x4⟩ := body (H_121_58 (SG_121 n) N) (nI 0) 0 h (by omega) ⟨fun _ _ _ _ => rfl, fun _ _ => rfl⟩
    rw [Wa] at g4
    have first : ∃ H5, R_121_100 (SG_121 n) (H_121_58 (SG_121 n) N) (nI d) (bI b) (nI 0) (35 + 3 * (d + 1)) (nI 0) (nI (W 0)) H4 = H_121_58 (SG_121 n) N (nI d) (bI b) (nI (W 0)) (35 + 3 * (d + 1)) (nI 1) H5 ∧ GF d h H5 ∧ (0 < d → H5 31 11 = h 31 11) ∧ (d = 0 → H5 31 11 = nI 0) := by
      by_cases d0 : d = 0
      · refine ⟨wr H4 31 11 (nI 0), ?_, ⟨fun c h12 h31 hc => by rw [wr_c h31]; exact P4.1 c h12 h31 hc, fun j hj => by rw [wr_k hj]; exact P4.2 j hj⟩, fun w => absurd w (by omega), fun _ => wr_self⟩
        subst d0
        simp (disch := omega) only [R_121_100, R_121_126, R_121_133, L11, gd_t, bI_, bV_, bR_, and_self, and_true, true_and, ↓reduceIte, eq_self, oj_84, bI_1, bI_0, L0, L1, nI_add]
      · refine ⟨H4, ?_, P4, fun _ => x4, fun w => absurd w d0⟩
        have ed0 : (nI d = nI 0) = False := eq_f d0 (by omega) (by decide)
        simp (disch := omega) only [R_121_100, R_121_126, R_121_139, gd_t, bI_, bV_, bR_, and_self, and_true, true_and, ↓reduceIte, eq_self, oj_84, bI_1, bI_0, L0, L1, nI_add, ed0]
    obtain ⟨H5, g5, P5, x5, y5⟩ := first
    obtain ⟨h', g, P', x', y'⟩ := loop (sN s) 1 N H5 (W 0, 0) (by omega) (by omega) (by omega) P5 x5 y5 (Wl 0)
    have ep : pkF b W (sN s) 1 (W 0, 0) = (B + (pkF b (fun a => goW s m1 a + gV s k (!b) (goM s m1 a)) (sN s) 1 (goW s m1 0 + gV s k (!b) (goM s m1 0), 0)).1, (pkF b (fun a => goW s m1 a + gV s k (!b) (goM s m1 a)) (sN s) 1 (goW s m1 0 + gV s k (!b) (goM s m1 0), 0)).2) := by
      rw [← pkF_add, ← Wa 0, eW]
    refine ⟨h', ?_, P', x', fun w _ => ?_⟩
    · show R_121_0 (SG_121 n) _ h = _
      rw [gV_s]
      rw [ep] at g
      have g0 : H_121_58 (SG_121 n) fuL (nI d) (bI b) (nI 0) (35 + 3 * (d + 1)) (nI 0) h = some (nI (B + (pkF b (fun a => goW s m1 a + gV s k (!b) (goM s m1 a)) (sN s) 1 (goW s m1 0 + gV s k (!b) (goM s m1 0), 0)).1), h') := by
        rw [ef]
        show R_121_58 (SG_121 n) (H_121_58 (SG_121 n) N) _ _ _ _ _ h = _
        rw [g4, g5]
        exact g
      by_cases c : d % 2 = 0
      · have eb' : b = true := by rw [← eb, decide_eq_true c]
        subst eb'
        rw [bI_1] at g0
        simp (disch := omega) only [R_121_0, R_121_8, R_121_31, R_121_37, L2, L4, gd_t, bI_, bV_, bR_, and_self, and_true, true_and, ↓reduceIte, eq_self, oj_84, bI_1, bI_0, L0, L1, le_t, le_f, lt_t, lt_f, eq_t, eq_f, ncl, nI_add, nmul, nsub, ndiv, nrem, nrem', nrN, h5, vpN, c]
        exact g0
      · have eb' : b = false := by rw [← eb, decide_eq_false c]
        subst eb'
        rw [bI_0] at g0
        simp (disch := omega) only [R_121_0, R_121_8, R_121_31, R_121_41, L2, L4, gd_t, bI_, bV_, bR_, and_self, and_true, true_and, ↓reduceIte, eq_self, oj_84, bI_1, bI_0, L0, L1, le_t, le_f, lt_t, lt_f, eq_t, eq_f, ncl, nI_add, nmul, nsub, ndiv, nrem, nrem', nrN, h5, vpN, show d % 2 = 1 by omega]
        exact g0
    · rw [y' w, ep]
      have eb' : b = true := by rw [← eb, w]; rfl
      subst eb'
      rfl
