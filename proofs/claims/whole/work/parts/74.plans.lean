/-! part 74: plans, by their number; the class goes through them -/
def preM (s : Sg) (m : Mo) : Nat → Nat → Mo
  | 0, _ => m
  | d + 1, q => goM s (preM s m d (q / (sN s + 1))) (q % (sN s + 1))
def preW (s : Sg) (m : Mo) : Nat → Nat → Nat
  | 0, _ => 0
  | d + 1, q => preW s m d (q / (sN s + 1)) + goW s (preM s m d (q / (sN s + 1))) (q % (sN s + 1))
def preT (s : Sg) : Nat → Nat → Nat
  | 0, _ => 0
  | d + 1, q => preT s d (q / (sN s + 1)) + (if q % (sN s + 1) = 0 then 0 else 1)
theorem preM_s (s : Sg) (m : Mo) (d q : Nat) : preM s m (d + 1) q = goM s (preM s m d (q / (sN s + 1))) (q % (sN s + 1)) := rfl
theorem preW_s (s : Sg) (m : Mo) (d q : Nat) : preW s m (d + 1) q = preW s m d (q / (sN s + 1)) + goW s (preM s m d (q / (sN s + 1))) (q % (sN s + 1)) := rfl
theorem preT_s (s : Sg) (d q : Nat) : preT s (d + 1) q = preT s d (q / (sN s + 1)) + (if q % (sN s + 1) = 0 then 0 else 1) := rfl
theorem preM_ok {s : Sg} {m : Mo} (mo : MoOk s m) : ∀ (d q : Nat), mNight m + d ≤ 16 → MoOk s (preM s m d q) ∧ mNight (preM s m d q) = mNight m + d ∧ mSeed (preM s m d q) = mSeed m
  | 0, _, _ => ⟨mo, rfl, rfl⟩
  | d + 1, q, h => by
    obtain ⟨a, b, c⟩ := preM_ok mo d (q / (sN s + 1)) (by omega)
    rw [preM_s]
    exact ⟨goOk a (by omega), by rw [goM_night a, b]; omega, by rw [goM_seed a, c]⟩
theorem preW_le {s : Sg} {m : Mo} (so : SgOk s) (mo : MoOk s m) : ∀ (d q : Nat), mNight m + d ≤ 16 → preW s m d q ≤ 453 * d
  | 0, _, _ => Nat.le_refl 0
  | d + 1, q, h => by
    have h1 := preW_le so mo d (q / (sN s + 1)) (by omega)
    have h2 := goW_le (act := q % (sN s + 1)) so (preM_ok mo d (q / (sN s + 1)) (by omega)).1
    rw [preW_s]
    omega
theorem preT_le (s : Sg) : ∀ d q, preT s d q ≤ d
  | 0, _ => Nat.le_refl 0
  | d + 1, q => by
    have := preT_le s d (q / (sN s + 1))
    rw [preT_s]
    split <;> omega
theorem preM_score {s : Sg} {m : Mo} (mo : MoOk s m) : ∀ (d q : Nat), mNight m + d ≤ 16 → mScore (preM s m d q) = mScore m + nI (preW s m d q)
  | 0, _, _ => by
    show mScore m = mScore m + 0
    rw [Int32.add_zero]
  | d + 1, q, h => by
    rw [preM_s, goM_score (preM_ok mo d _ (by omega)).1, preM_score mo d _ (by omega), Int32.add_assoc, nI_add, preW_s]
def dig (s : Sg) (L p j : Nat) : Nat := p / (sN s + 1) ^ (L - 1 - j) % (sN s + 1)
def accB (s : Sg) (m : Mo) (L : Nat) : Nat → Nat × Nat × Nat
  | 0 => (0, 0, 0)
  | P + 1 => if (accB s m L P).1 < preW s m L P + 1 then (preW s m L P + 1, P, 1) else if (accB s m L P).1 = preW s m L P + 1 then ((accB s m L P).1, (accB s m L P).2.1, (accB s m L P).2.2 + 1) else accB s m L P
theorem accB_s (s : Sg) (m : Mo) (L P : Nat) : accB s m L (P + 1) = if (accB s m L P).1 < preW s m L P + 1 then (preW s m L P + 1, P, 1) else if (accB s m L P).1 = preW s m L P + 1 then ((accB s m L P).1, (accB s m L P).2.1, (accB s m L P).2.2 + 1) else accB s m L P := rfl
def fewL : Option Nat → Nat
  | none => 100
  | some x => x
def accF (s : Sg) (m : Mo) (L w : Nat) : Nat → Option Nat
  | 0 => none
  | P + 1 => if mSet (preM s m L P) &&& w = w ∧ preT s L P < fewL (accF s m L w P) then some (preT s L P) else accF s m L w P
theorem accF_s (s : Sg) (m : Mo) (L w P : Nat) : accF s m L w (P + 1) = if mSet (preM s m L P) &&& w = w ∧ preT s L P < fewL (accF s m L w P) then some (preT s L P) else accF s m L w P := rfl
def accS (s : Sg) (m : Mo) (L : Nat) : Nat → Nat
  | 0 => 0
  | P + 1 => accS s m L P ||| mSet (preM s m L P)
theorem accS_s (s : Sg) (m : Mo) (L P : Nat) : accS s m L (P + 1) = accS s m L P ||| mSet (preM s m L P) := rfl
theorem accB_le {s : Sg} {m : Mo} (so : SgOk s) (mo : MoOk s m) {L : Nat} (hL : mNight m + L ≤ 16) : ∀ P, (accB s m L P).1 ≤ 453 * L + 1 ∧ (accB s m L P).2.2 ≤ P ∧ (0 < P → (accB s m L P).2.1 < P)
  | 0 => ⟨Nat.zero_le _, Nat.le_refl 0, fun h => by omega⟩
  | P + 1 => by
    obtain ⟨a, b, c⟩ := accB_le so mo hL P
    have hw := preW_le so mo L P hL
    rw [accB_s]
    split
    · exact ⟨by show preW s m L P + 1 ≤ _; omega, by show 1 ≤ P + 1; omega, fun _ => by show P < P + 1; omega⟩
    · split
      · exact ⟨a, by show (accB s m L P).2.2 + 1 ≤ P + 1; omega, fun _ => by
          show (accB s m L P).2.1 < P + 1
          rcases Nat.eq_zero_or_pos P with e | e
          · subst e; exact Nat.zero_lt_one
          · have := c e; omega⟩
      · refine ⟨a, by omega, fun _ => ?_⟩
        rcases Nat.eq_zero_or_pos P with e | e
        · subst e; exact Nat.zero_lt_one
        · have := c e; omega
theorem accF_le {s : Sg} {m : Mo} {L w : Nat} : ∀ P x, accF s m L w P = some x → x ≤ L
  | 0, x, h => by cases h
  | P + 1, x, h => by
    rw [accF_s] at h
    split at h
    · cases h; exact preT_le s L P
    · exact accF_le P x h
theorem accS_lt {s : Sg} {m : Mo} (mo : MoOk s m) {L : Nat} (hL : mNight m + L ≤ 16) : ∀ P, accS s m L P < 2 ^ sN s
  | 0 => Nat.two_pow_pos _
  | P + 1 => by
    rw [accS_s]
    exact Nat.or_lt_two_pow (accS_lt mo hL P) (preM_ok mo L P hL).1.2.1
theorem le_top {W t : Nat} (hW : W < 1000000) (ht : t < 1000000) : (nI W ≤ nI t - nI 1) = (W + 1 ≤ t) := propext (by
  rw [Int32.le_iff_toInt_le, pk_sub_toInt (by omega) (by decide), nI_toInt (by omega)]
  omega)
theorem eq_top {W t : Nat} (hW : W < 1000000) (ht : t < 1000000) : (nI W = nI t - nI 1) = (W + 1 = t) := propext (by
  rw [← Int32.toInt_inj, pk_sub_toInt (by omega) (by decide), nI_toInt (by omega)]
  omega)
theorem eq_m3 {a : Nat} (h : a < 2147483648) : (nI a = -nI 3) = False := eq_false (fun e => by
  have := neg_eq (a := 3) (b := a) (by decide) (by decide) h
  exact (of_eq_false this) e.symm)
def AccC (h : Hp) (s : Sg) (m : Mo) (L w P : Nat) : Prop := h 31 6 = nI (accB s m L P).1 - nI 1 ∧ h 31 7 = nI (accB s m L P).2.2 ∧ (0 < P → ∀ j, j < L → h 34 j = nI (dig s L (accB s m L P).2.1 j)) ∧ h 31 9 = onI (accF s m L w P) ∧ h 31 10 = nI (accS s m L P) ∧ h 31 5 = nI L ∧ h 31 4 = nI w
set_option maxRecDepth 100000 in
theorem s_112 {h : Hp} {s : Sg} {m : Mo} {L w p a : Nat} (so : SgOk s) (mo : MoOk s m) (hL : mNight m + L ≤ 16) (hL4 : L ≤ 4) (hw : w < 64) (hp : p < 2401) (hid : MoId a) (hsc : h 13 4 = mScore m) (hm : MoAt h a s (preM s m L p)) (hact : ∀ j, j < L → h 33 j = nI (dig s L p j)) (A : AccC h s m L w p) (ha31 : a ≠ 31 ∧ a ≠ 34) : ∃ h', S_112 a (nI (preT s L p)) h = some (0, h') ∧ Same [31, 34] h h' ∧ AccC h' s m L w (p + 1) := by
  obtain ⟨A1, A2, A3, A4, A5, A6, A7⟩ := A
  obtain ⟨o1, o2, o3⟩ := preM_ok mo L p hL
  have hsx := preM_score mo L p hL
  have hW := preW_le so mo L p hL
  have hT := preT_le s L p
  obtain ⟨bt, bc, ba⟩ := accB_le so mo hL p
  have hn := so.1
  have hset := o1.set so
  have hS := p64 (accS_lt mo hL p) hn
  have esc : h a 4 - h 13 4 = nI (preW s m L p) := by rw [hm.score, hsc, hsx, sub_l]
  have ea2 : h a 2 = nI (mSet (preM s m L p)) := hm.set
  have z0 : (nI 0).toNatClampNeg = 0 := rfl
  have z4 : (nI 4).toNatClampNeg = 4 := rfl
  -- behind the first half: best, ways, first
  have back : ∀ H : Hp, (∀ c, c ≠ 31 → c ≠ 34 → H c = h c) → H 31 9 = h 31 9 → H 31 10 = h 31 10 → H 31 5 = nI L → H 31 4 = nI w → H 31 6 = nI (accB s m L (p + 1)).1 - nI 1 → H 31 7 = nI (accB s m L (p + 1)).2.2 → (∀ j, j < L → H 34 j = nI (dig s L (accB s m L (p + 1)).2.1 j)) → ∃ h', R_112_63 a (nI (preT s L p)) H = some (0, h') ∧ Same [31, 34] h h' ∧ AccC h' s m L w (p + 1) := by
    intro H eo e9 e10 e5 e4 e6 e7 e34
    have ha2 : H a 2 = nI (mSet (preM s m L p)) := by rw [eo a ha31.1 ha31.2, ea2]
    have same : ∀ H' : Hp, (∀ c, c ≠ 31 → H' c = H c) → Same [31, 34] h H' := fun H' q c hc => by
      simp only [List.mem_cons, List.not_mem_nil, or_false, not_or] at hc
      rw [q c hc.1, eo c hc.1 hc.2]
    have e9' : H 31 9 = onI (accF s m L w p) := by rw [e9, A4]
    have e10' : H 31 10 = nI (accS s m L p) := by rw [e10, A5]
    have na : a ≠ 31 := ha31.1
    by_cases cs : mSet (preM s m L p) &&& w = w
    · have ece : (nI (mSet (preM s m L p)) &&& nI w = nI w) = True := eq_true (by rw [nand' hset hw, cs])
      by_cases cf : preT s L p < fewL (accF s m L w p)
      · have eF : accF s m L w (p + 1) = some (preT s L p) := by rw [accF_s, if_pos ⟨cs, cf⟩]
        refine ⟨wr (wr H 31 9 (nI (preT s L p))) 31 10 (nI (accS s m L p ||| mSet (preM s m L p))), ?_, same _ (fun c hc => by simp (disch := omega) only [wr_c]), ?_⟩
        · cases hf : accF s m L w p with
          | none =>
            have en : (onI none = -nI 3) = True := eq_true rfl
            rw [hf] at e9'
            simp (disch := omega) only [R_112_63, R_112_79, R_112_88, R_112_96, R_112_101, gd_t, bI_, bV_, bR_, and_self, and_true, true_and, ↓reduceIte, eq_self, oj_84, bI_1, bI_0, L0, L1, L2, L3, L4, L6, L7, L9, L10, L13, L31, L33, L34, hid.1, ha2, e4, ece, e9', en, wr_k, wr_s, wr_c, e10', nor']
          | some x =>
            rw [hf] at e9' cf
            have cf' : preT s L p < x := cf
            have hx := accF_le p x hf
            have e9x : H 31 9 = nI x := e9'
            simp (disch := omega) only [R_112_63, R_112_79, R_112_88, R_112_96, R_112_101, gd_t, bI_, bV_, bR_, and_self, and_true, true_and, ↓reduceIte, eq_self, oj_84, bI_1, bI_0, L0, L1, L2, L3, L4, L6, L7, L9, L10, L13, L31, L33, L34, hid.1, ha2, e4, ece, e9x, eq_m3, le_f, wr_k, wr_s, wr_c, e10', nor']
        · refine ⟨by simp (disch := omega) only [wr_k]; exact e6, by simp (disch := omega) only [wr_k]; exact e7, fun _ j hj => by simp (disch := omega) only [wr_c]; exact e34 j hj, by simp (disch := omega) only [wr_k, wr_s]; rw [eF]; rfl, by simp (disch := omega) only [wr_s]; rw [accS_s], by simp (disch := omega) only [wr_k]; exact e5, by simp (disch := omega) only [wr_k]; exact e4⟩
      · have eF : accF s m L w (p + 1) = accF s m L w p := by rw [accF_s, if_neg (fun q => cf q.2)]
        refine ⟨wr H 31 10 (nI (accS s m L p ||| mSet (preM s m L p))), ?_, same _ (fun c hc => by simp (disch := omega) only [wr_c]), ?_⟩
        · cases hf : accF s m L w p with
          | none => rw [hf] at cf; exact absurd (show preT s L p < 100 by omega) cf
          | some x =>
            rw [hf] at e9' cf
            have cf' : ¬ preT s L p < x := cf
            have hx := accF_le p x hf
            have e9x : H 31 9 = nI x := e9'
            simp (disch := omega) only [R_112_63, R_112_79, R_112_88, R_112_96, R_112_101, gd_t, bI_, bV_, bR_, and_self, and_true, true_and, ↓reduceIte, eq_self, oj_84, bI_1, bI_0, L0, L1, L2, L3, L4, L6, L7, L9, L10, L13, L31, L33, L34, hid.1, ha2, e4, ece, e9x, eq_m3, le_t, wr_k, wr_s, wr_c, e10', nor']
        · refine ⟨by simp (disch := omega) only [wr_k]; exact e6, by simp (disch := omega) only [wr_k]; exact e7, fun _ j hj => by simp (disch := omega) only [wr_c]; exact e34 j hj, by simp (disch := omega) only [wr_k]; rw [eF]; exact e9', by simp (disch := omega) only [wr_s]; rw [accS_s], by simp (disch := omega) only [wr_k]; exact e5, by simp (disch := omega) only [wr_k]; exact e4⟩
    · have ece : (nI (mSet (preM s m L p)) &&& nI w = nI w) = False := eq_false (by rw [nand' hset hw]; exact fun q => cs ((nI_eq (by have := Nat.and_le_right (n := mSet (preM s m L p)) (m := w); omega) (by omega)).mp q))
      have eF : accF s m L w (p + 1) = accF s m L w p := by rw [accF_s, if_neg (fun q => cs q.1)]
      refine ⟨wr H 31 10 (nI (accS s m L p ||| mSet (preM s m L p))), ?_, same _ (fun c hc => by simp (disch := omega) only [wr_c]), ?_⟩
      · simp (disch := omega) only [R_112_63, R_112_79, R_112_88, R_112_96, R_112_101, gd_t, bI_, bV_, bR_, and_self, and_true, true_and, ↓reduceIte, eq_self, oj_84, bI_1, bI_0, L0, L1, L2, L3, L4, L6, L7, L9, L10, L13, L31, L33, L34, hid.1, ha2, e4, ece, wr_k, wr_s, wr_c, e10', nor']
      · refine ⟨by simp (disch := omega) only [wr_k]; exact e6, by simp (disch := omega) only [wr_k]; exact e7, fun _ j hj => by simp (disch := omega) only [wr_c]; exact e34 j hj, by simp (disch := omega) only [wr_k]; rw [eF]; exact e9', by simp (disch := omega) only [wr_s]; rw [accS_s], by simp (disch := omega) only [wr_k]; exact e5, by simp (disch := omega) only [wr_k]; exact e4⟩
  -- the same behind 53 (ways counted)
  have b53 : ∀ H : Hp, R_112_53 a (nI (preT s L p)) H = R_112_63 a (nI (preT s L p)) (wr H 31 7 (H 31 7 + nI 1)) := fun H => by
    simp only [R_112_53, R_112_63, L1]
    rfl
  have bt' : (accB s m L p).1 < 1000000 := by omega
  have e1 := le_top (W := preW s m L p) (t := (accB s m L p).1) (by omega) bt'
  have e2 := eq_top (W := preW s m L p) (t := (accB s m L p).1) (by omega) bt'
  by_cases c1 : (accB s m L p).1 < preW s m L p + 1
  · have eB : accB s m L (p + 1) = (preW s m L p + 1, p, 1) := by rw [accB_s, if_pos c1]
    rw [eq_false (show ¬ preW s m L p + 1 ≤ (accB s m L p).1 by omega)] at e1
    obtain ⟨h', g, sm, A'⟩ := back (wr (wrA (wr (wr h 31 6 (nI (preW s m L p))) 31 7 (nI 0)) 34 (va_cpy (h 33) (h 34) 0 0 4)) 31 7 (nI 0 + nI 1)) (fun c h1 h2 => by simp (disch := omega) only [wr_c, wrA_c]) (by simp (disch := omega) only [wr_k, wrA_c]) (by simp (disch := omega) only [wr_k, wrA_c]) (by simp (disch := omega) only [wr_k, wrA_c]; exact A6) (by simp (disch := omega) only [wr_k, wrA_c]; exact A7) (by rw [eB]; simp (disch := omega) only [wr_k, wrA_c, wr_s]; rw [nsub (by omega)]; rfl) (by rw [eB]; simp (disch := omega) only [wr_s]; rfl) (fun j hj => by
      rw [eB]
      simp (disch := omega) only [wr_c, wrA_self, pk_cpy_in, Nat.zero_add, Nat.sub_zero]
      exact hact j hj)
    refine ⟨h', ?_, sm, A'⟩
    have e34n : (34 : Nat) ≠ 31 := by decide
    simp (disch := omega) only [S_112, R_112_0, R_112_21, gd_t, bI_, bV_, bR_, and_self, and_true, true_and, ↓reduceIte, eq_self, oj_84, bI_1, bI_0, L0, L1, L2, L3, L4, L6, L7, L9, L10, L13, L31, L33, L34, hid.1, esc, A1, e1, z0, z4, wr_c, wr_k, wr_s, wrA_c, b53]
    exact g
  · by_cases c2 : (accB s m L p).1 = preW s m L p + 1
    · have eB : accB s m L (p + 1) = ((accB s m L p).1, (accB s m L p).2.1, (accB s m L p).2.2 + 1) := by rw [accB_s, if_neg c1, if_pos c2]
      rw [eq_true (show preW s m L p + 1 ≤ (accB s m L p).1 by omega)] at e1
      rw [eq_true (show preW s m L p + 1 = (accB s m L p).1 by omega)] at e2
      have hp0 : 0 < p := by
        rcases Nat.eq_zero_or_pos p with e | e
        · subst e; cases c2
        · exact e
      obtain ⟨h', g, sm, A'⟩ := back (wr h 31 7 (nI (accB s m L p).2.2 + nI 1)) (fun c h1 h2 => by simp (disch := omega) only [wr_c]) (by simp (disch := omega) only [wr_k]) (by simp (disch := omega) only [wr_k]) (by simp (disch := omega) only [wr_k]; exact A6) (by simp (disch := omega) only [wr_k]; exact A7) (by rw [eB]; simp (disch := omega) only [wr_k]; exact A1) (by rw [eB, wr_self]; exact nI_add _ _) (fun j hj => by
        rw [eB]
        simp (disch := omega) only [wr_c]
        exact A3 hp0 j hj)
      refine ⟨h', ?_, sm, A'⟩
      simp (disch := omega) only [S_112, R_112_0, R_112_45, gd_t, bI_, bV_, bR_, and_self, and_true, true_and, ↓reduceIte, eq_self, oj_84, bI_1, bI_0, L0, L1, L2, L3, L4, L6, L7, L9, L10, L13, L31, L33, L34, hid.1, esc, A1, e1, e2, b53, A2]
      exact g
    · have eB : accB s m L (p + 1) = accB s m L p := by rw [accB_s, if_neg c1, if_neg c2]
      rw [eq_true (show preW s m L p + 1 ≤ (accB s m L p).1 by omega)] at e1
      rw [eq_false (show ¬ preW s m L p + 1 = (accB s m L p).1 by omega)] at e2
      have hp0 : 0 < p := by
        rcases Nat.eq_zero_or_pos p with e | e
        · subst e
          exact absurd (show (0 : Nat) < preW s m L 0 + 1 by omega) c1
        · exact e
      obtain ⟨h', g, sm, A'⟩ := back h (fun c h1 h2 => rfl) rfl rfl A6 A7 (by rw [eB]; exact A1) (by rw [eB]; exact A2) (fun j hj => by rw [eB]; exact A3 hp0 j hj)
      refine ⟨h', ?_, sm, A'⟩
      simp (disch := omega) only [S_112, R_112_0, R_112_45, gd_t, bI_, bV_, bR_, and_self, and_true, true_and, ↓reduceIte, eq_self, oj_84, bI_1, bI_0, L0, L1, L2, L3, L4, L6, L7, L9, L10, L13, L31, L33, L34, hid.1, esc, A1, e1, e2]
      exact g
