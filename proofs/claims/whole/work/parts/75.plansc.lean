/-! part 75: the class's plans, all of them -/
theorem dig_0 {s : Sg} {d q a : Nat} (ha : a ≤ sN s) : dig s (d + 1) (q * (sN s + 1) + a) d = a := by
  unfold dig
  rw [show d + 1 - 1 - d = 0 by omega, Nat.pow_zero, Nat.div_one, Nat.mul_comm, Nat.mul_add_mod, Nat.mod_eq_of_lt (by omega)]
theorem ext_q {B q a : Nat} (ha : a < B) : (q * B + a) / B = q := by
  rw [Nat.mul_comm, Nat.mul_add_div (by omega), Nat.div_eq_of_lt ha, Nat.add_zero]
theorem ext_r {B q a : Nat} (ha : a < B) : (q * B + a) % B = a := by
  rw [Nat.mul_comm, Nat.mul_add_mod, Nat.mod_eq_of_lt ha]
theorem dig_1 {s : Sg} {d q a j : Nat} (ha : a ≤ sN s) (hj : j < d) : dig s (d + 1) (q * (sN s + 1) + a) j = dig s d q j := by
  unfold dig
  rw [show d + 1 - 1 - j = d - 1 - j + 1 by omega, Nat.pow_succ, Nat.mul_comm, Nat.mul_comm _ (sN s + 1), ← Nat.div_div_eq_div_mul, Nat.mul_comm, ext_q (by omega)]
theorem pre_M {s : Sg} {m : Mo} {d q a : Nat} (ha : a ≤ sN s) : preM s m (d + 1) (q * (sN s + 1) + a) = goM s (preM s m d q) a := by
  rw [preM_s, ext_q (by omega), ext_r (by omega)]
theorem pre_W {s : Sg} {m : Mo} {d q a : Nat} (ha : a ≤ sN s) : preW s m (d + 1) (q * (sN s + 1) + a) = preW s m d q + goW s (preM s m d q) a := by
  rw [preW_s, ext_q (by omega), ext_r (by omega)]
theorem pre_T {s : Sg} {d q a : Nat} (ha : a ≤ sN s) : preT s (d + 1) (q * (sN s + 1) + a) = preT s d q + (if a = 0 then 0 else 1) := by
  rw [preT_s, ext_q (by omega), ext_r (by omega)]
theorem moD {d : Nat} (h : d ≤ 4) : MoId (35 + 3 * d) := by
  have : d = 0 ∨ d = 1 ∨ d = 2 ∨ d = 3 ∨ d = 4 := by omega
  rcases this with rfl | rfl | rfl | rfl | rfl
  · exact mo35
  · exact mo38
  · exact mo41
  · exact mo44
  · exact mo47
theorem AccC.congr {h H : Hp} {s : Sg} {m : Mo} {L w P : Nat} (A : AccC h s m L w P) (e1 : H 31 = h 31) (e2 : H 34 = h 34) : AccC H s m L w P := by
  unfold AccC
  rw [e1, e2]
  exact A
def PFr (d : Nat) (h h' : Hp) : Prop := (∀ c, c ≠ 12 → c ≠ 31 → c ≠ 33 → c ≠ 34 → (c < 38 + 3 * d ∨ 50 ≤ c) → h' c = h c) ∧ ∀ j, j < d → h' 33 j = h 33 j
theorem pow_le4 {B L : Nat} (hB : B ≤ 7) (hL : L ≤ 4) : B ^ L ≤ 2401 := by
  have h1 : B ^ L ≤ 7 ^ L := Nat.pow_le_pow_left hB L
  have h2 : 7 ^ L ≤ 7 ^ 4 := Nat.pow_le_pow_right (by decide) hL
  have h3 : (7 : Nat) ^ 4 = 2401 := by decide
  omega
set_option maxRecDepth 100000 in
theorem s_111g {s : Sg} {m : Mo} {L w : Nat} (so : SgOk s) (mo : MoOk s m) (hL : mNight m + L ≤ 16) (hL4 : L ≤ 4) (hw : w < 64) : ∀ (k d q n : Nat) (h : Hp), d + k = L → k < n → q < (sN s + 1) ^ d → SF h s → h 13 4 = mScore m → MoAt h (35 + 3 * d) s (preM s m d q) → (∀ j, j < d → h 33 j = nI (dig s d q j)) → AccC h s m L w (q * (sN s + 1) ^ k) → ∃ h', SG_111 n (nI d) (nI (preT s d q)) h = some (0, h') ∧ PFr d h h' ∧ AccC h' s m L w ((q + 1) * (sN s + 1) ^ k) := by
  have hn := so.1
  intro k
  induction k with
  | zero =>
    intro d q n h e hk hq hs h13 hm hact A
    obtain ⟨n, rfl⟩ : ∃ p, n = p + 1 := ⟨n - 1, by omega⟩
    have ed : d = L := by omega
    rw [ed] at hm hact hq
    have hq' := pow_le4 (show sN s + 1 ≤ 7 by omega) hL4
    rw [Nat.pow_zero, Nat.mul_one] at A
    obtain ⟨h', g, sm, A'⟩ := s_112 so mo hL hL4 hw (show q < 2401 by omega) (moD hL4) h13 hm hact A (by omega)
    refine ⟨h', ?_, ⟨fun c _ h31 _ h34 _ => sm c (by simp only [List.mem_cons, List.not_mem_nil, or_false]; omega), fun j _ => by rw [sm 33 (by decide)]⟩, by rw [Nat.pow_zero, Nat.mul_one]; exact A'⟩
    show R_111_0 (SG_111 n) _ _ h = _
    simp (disch := omega) only [R_111_0, R_111_13, R_111_24, gd_t, bI_, bV_, bR_, and_self, and_true, true_and, ↓reduceIte, eq_self, oj_84, bI_1, bI_0, L0, L1, le_t, le_f, lt_t, lt_f, eq_t, eq_f, ncl, nI_add, nmul, nsub, ndiv, nrem, nrem', nrN, A.2.2.2.2.2.1, ed, vpN, ncl, g]
  | succ k ih =>
    intro d q n h e hk hq hs h13 hm hact A
    obtain ⟨n, rfl⟩ : ∃ p, n = p + 1 := ⟨n - 1, by omega⟩
    have hd4 : d < 4 := by omega
    have ht := preT_le s d q
    have okq := preM_ok mo d q (by omega)
    have loop : ∀ (i a fu : Nat) (H : Hp), a + i = sN s + 1 → i < fu → PFr d h H → AccC H s m L w ((q * (sN s + 1) + a) * (sN s + 1) ^ k) → ∃ h', H_111_37 (SG_111 n) fu (nI d) (nI (preT s d q)) (35 + 3 * (d + 1)) (nI a) H = some (0, h') ∧ PFr d h h' ∧ AccC h' s m L w ((q * (sN s + 1) + (sN s + 1)) * (sN s + 1) ^ k) := by
      intro i
      induction i with
      | zero =>
        intro a fu H ea hf P A
        obtain ⟨fu, rfl⟩ : ∃ p, fu = p + 1 := ⟨fu - 1, by omega⟩
        have ea' : a = sN s + 1 := by omega
        subst ea'
        refine ⟨H, ?_, P, A⟩
        have e17 : H 1 7 = nI (sN s) := by rw [P.1 1 (by decide) (by decide) (by decide) (by decide) (by omega)]; exact hs.1.n
        simp (disch := omega) only [H_111_37, R_111_37, R_111_103, gd_t, bI_, bV_, bR_, and_self, and_true, true_and, ↓reduceIte, eq_self, oj_84, bI_1, bI_0, L0, L1, le_t, le_f, lt_t, lt_f, eq_t, eq_f, ncl, nI_add, nmul, nsub, ndiv, nrem, nrem', nrN, e17]
      | succ i ihi =>
        intro a fu H ea hf P A
        obtain ⟨fu, rfl⟩ : ∃ p, fu = p + 1 := ⟨fu - 1, by omega⟩
        have haN : a ≤ sN s := by omega
        have cl : ∀ c, c < 12 ∨ (12 < c ∧ c < 31) ∨ (34 < c ∧ c < 38 + 3 * d) → H c = h c := fun c hc => P.1 c (by omega) (by omega) (by omega) (by omega) (by omega)
        have hsH : SF H s := hs.congr (fun c _ _ => cl c (by omega))
        have hmH : MoAt H (35 + 3 * d) s (preM s m d q) := hm.congr (cl _ (by omega)) (cl _ (by omega)) (cl _ (by omega))
        have e17 : H 1 7 = nI (sN s) := hsH.1.n
        have md := moD (d := d) (by omega)
        have md1 := moD (d := d + 1) (by omega)
        obtain ⟨H1, g1, s1, m1⟩ := s_88 md1 md (by omega) so hmH
        have c1 : ∀ c, c < 38 + 3 * d ∨ 40 + 3 * d < c → H1 c = H c := fun c hc => s1 c (by simp only [List.mem_cons, List.not_mem_nil, or_false]; omega)
        have hs1 : SF H1 s := hsH.congr (fun c _ _ => c1 c (by omega))
        obtain ⟨H2, g2, s2, m2⟩ := s_81 md1 so okq.1 hs1 m1 (show a ≤ 6 by omega)
        have c2 : ∀ c, c ≠ 12 → c < 38 + 3 * d ∨ 40 + 3 * d < c → H2 c = H1 c := fun c h12 hc => s2 c (by simp only [List.mem_cons, List.not_mem_nil, or_false]; omega)
        have c3 : ∀ c, c ≠ 12 → c ≠ 33 → c < 38 + 3 * d ∨ 40 + 3 * d < c → wr H2 33 d (nI a) c = H c := fun c h12 h33 hc => by rw [wr_c h33, c2 c h12 hc, c1 c hc]
        have hq2 : q * (sN s + 1) + a < (sN s + 1) ^ (d + 1) := by
          have := Nat.mul_le_mul_right (sN s + 1) (show q + 1 ≤ (sN s + 1) ^ d from hq)
          rw [Nat.pow_succ]
          rw [Nat.add_mul, Nat.one_mul] at this
          omega
        obtain ⟨H4, g4, P4, A4⟩ := ih (d + 1) (q * (sN s + 1) + a) n (wr H2 33 d (nI a)) (by omega) (by omega) hq2 (hsH.congr (fun c _ _ => c3 c (by omega) (by omega) (by omega))) (by rw [c3 13 (by decide) (by decide) (by omega), cl 13 (by omega)]; exact h13) (by
          rw [pre_M haN]
          exact m2.w (by omega) (by omega) (by omega)) (fun j hj => by
          by_cases ej : j = d
          · rw [ej, wr_self, dig_0 haN]
          · rw [wr_k ej, c2 33 (by decide) (by omega), c1 33 (by omega), P.2 j (by omega), dig_1 haN (by omega)]
            exact hact j (by omega)) (A.congr (c3 31 (by decide) (by decide) (by omega)) (c3 34 (by decide) (by decide) (by omega)))
        have P' : PFr d h H4 := by
          refine ⟨fun c h12 h31 h33 h34 hc => ?_, fun j hj => ?_⟩
          · rw [P4.1 c h12 h31 h33 h34 (by omega), c3 c h12 h33 (by omega)]
            exact P.1 c h12 h31 h33 h34 hc
          · rw [P4.2 j (by omega), wr_k (by omega), c2 33 (by decide) (by omega), c1 33 (by omega)]
            exact P.2 j hj
        obtain ⟨h', g, P5, A5⟩ := ihi (a + 1) fu H4 (by omega) (by omega) P' (by rw [← Nat.add_assoc]; exact A4)
        refine ⟨h', ?_, P5, A5⟩
        have o3 := md1.1
        have ea33 := ia_33 hd4
        rw [pre_T haN] at g4
        by_cases a0 : a = 0
        · rw [if_pos a0, Nat.add_zero (preT s d q)] at g4
          subst a0
          simp (disch := omega) only [H_111_37, R_111_37, R_111_49, R_111_59, R_111_69, R_111_87, R_111_97, gd_t, bI_, bV_, bR_, and_self, and_true, true_and, ↓reduceIte, eq_self, oj_84, bI_1, bI_0, L0, L1, le_t, le_f, lt_t, lt_f, eq_t, eq_f, ncl, nI_add, nmul, nsub, ndiv, nrem, nrem', nrN, e17, vpN, ncl, o3, g1, g2, ea33, oj_31, g4]
          exact g
        · rw [if_neg a0] at g4
          simp (disch := omega) only [H_111_37, R_111_37, R_111_49, R_111_59, R_111_69, R_111_91, R_111_97, gd_t, bI_, bV_, bR_, and_self, and_true, true_and, ↓reduceIte, eq_self, oj_84, bI_1, bI_0, L0, L1, le_t, le_f, lt_t, lt_f, eq_t, eq_f, ncl, nI_add, nmul, nsub, ndiv, nrem, nrem', nrN, e17, vpN, ncl, o3, g1, g2, ea33, oj_31, g4]
          exact g
    obtain ⟨h', g, P, A'⟩ := loop (sN s + 1) 0 fuL h (by omega) (fuL_gt (by omega)) ⟨fun c _ _ _ _ _ => rfl, fun j _ => rfl⟩ (by rw [Nat.add_zero, Nat.mul_assoc, Nat.mul_comm (sN s + 1), ← Nat.pow_succ]; exact A)
    refine ⟨h', ?_, P, ?_⟩
    · show R_111_0 (SG_111 n) _ _ h = _
      simp (disch := omega) only [R_111_0, R_111_8, R_111_25, L4, gd_t, bI_, bV_, bR_, and_self, and_true, true_and, ↓reduceIte, eq_self, oj_84, bI_1, bI_0, L0, L1, le_t, le_f, lt_t, lt_f, eq_t, eq_f, ncl, nI_add, nmul, nsub, ndiv, nrem, nrem', nrN, A.2.2.2.2.2.1, vpN, ncl]
      exact g
    · rw [show q * (sN s + 1) + (sN s + 1) = (q + 1) * (sN s + 1) by rw [Nat.add_mul, Nat.one_mul], Nat.mul_assoc, Nat.mul_comm (sN s + 1), ← Nat.pow_succ] at A'
      exact A'
theorem lenmax {e t n : Nat} (he : e ≤ 16) (ht : t ≤ 16) (hn : n ≤ 1000) : (if nI 0 < (if nI e - nI t < nI n then nI e - nI t else nI n) then (if nI e - nI t < nI n then nI e - nI t else nI n) else nI 0) = nI (min n (e - t)) := by
  rcases Nat.lt_or_ge e t with h | h
  · have h1 : nI e - nI t < nI n := by
      rw [Int32.lt_iff_toInt_lt, pk_sub_toInt (by omega) (by omega), nI_toInt (by omega)]
      omega
    have h2 : ¬ nI 0 < nI e - nI t := by
      rw [Int32.lt_iff_toInt_lt, pk_sub_toInt (by omega) (by omega), nI_toInt (by omega)]
      omega
    rw [if_pos h1, if_neg h2, show min n (e - t) = 0 by omega]
  · rw [pk_sub h, minc (by omega) (by omega)]
    rcases Nat.eq_zero_or_pos (min n (e - t)) with h0 | h0
    · rw [h0]; rfl
    · rw [if_pos ((nI_ltI (by omega) (by omega)).mpr h0)]
def lenN (s : Sg) (m : Mo) (n : Nat) : Nat := min n (sEnd s - mNight m)
theorem s_110 {h : Hp} {s : Sg} {m : Mo} {n : Nat} (so : SgOk s) (mo : MoOk s m) (hs : SgAt h s) (hm : MoAt h 13 s m) (hn : n ≤ 1000) : S_110 (nI n) h = some (nI (lenN s m n), h) := by
  have h1 := so.2.2.2.2.2
  have h2 := mo.2.2
  simp (disch := omega) only [R_110_0, S_110, gd_t, bI_, bV_, bR_, and_self, and_true, true_and, ↓reduceIte, eq_self, oj_84, bI_1, bI_0, L0, L1, L3, L8, L13, hs.end_, hm.night, lenmax]
  rfl
