/-! part 88: lone, liar -/
def cntN (f : Nat → Bool) : Nat → Nat
  | 0 => 0
  | q + 1 => cntN f q + (if f q = true then 1 else 0)
theorem cntN_s (f : Nat → Bool) (q : Nat) : cntN f (q + 1) = cntN f q + (if f q = true then 1 else 0) := rfl
theorem cntN_le (f : Nat → Bool) : ∀ q, cntN f q ≤ q
  | 0 => Nat.le_refl 0
  | q + 1 => by
    have := cntN_le f q
    rw [cntN_s]
    split <;> omega
def fstN (f : Nat → Bool) : Nat → Nat
  | 0 => 0
  | q + 1 => if cntN f q = 0 ∧ f q = true then q else fstN f q
theorem fstN_s (f : Nat → Bool) (q : Nat) : fstN f (q + 1) = if cntN f q = 0 ∧ f q = true then q else fstN f q := rfl
theorem fstN_le (f : Nat → Bool) : ∀ q, fstN f q ≤ q
  | 0 => Nat.le_refl 0
  | q + 1 => by
    have := fstN_le f q
    rw [fstN_s]
    split <;> omega
def blmN (g : Nat → Nat) : Nat → Nat
  | 0 => 0
  | q + 1 => blmN g q ||| (if onesN (g q) 6 = 1 then g q else 0)
theorem blmN_s (g : Nat → Nat) (q : Nat) : blmN g (q + 1) = blmN g q ||| (if onesN (g q) 6 = 1 then g q else 0) := rfl
theorem blmN_lt {g : Nat → Nat} {n : Nat} (hg : ∀ q, g q < 2 ^ n) : ∀ q, blmN g q < 2 ^ n
  | 0 => Nat.two_pow_pos _
  | q + 1 => by
    rw [blmN_s]
    refine Nat.or_lt_two_pow (blmN_lt hg q) ?_
    split
    · exact hg q
    · exact Nat.two_pow_pos _
def cnR (f : Nat → Bool) : Nat → Nat → Nat
  | 0, _ => 0
  | j + 1, i => cnR f j (i + 1) + (if f i = true then 1 else 0)
def lsQ (f : Nat → Bool) : Nat → Nat → Option Nat
  | 0, _ => none
  | j + 1, i => if f i = true then some i else lsQ f j (i + 1)
theorem cnR_s (f : Nat → Bool) (j i : Nat) : cnR f (j + 1) i = cnR f j (i + 1) + (if f i = true then 1 else 0) := rfl
theorem lsQ_s (f : Nat → Bool) (j i : Nat) : lsQ f (j + 1) i = if f i = true then some i else lsQ f j (i + 1) := rfl
theorem cnR_N (f : Nat → Bool) : ∀ j q, cntN f q + cnR f j q = cntN f (q + j)
  | 0, q => rfl
  | j + 1, q => by
    have := cnR_N f j (q + 1)
    rw [cntN_s] at this
    rw [cnR_s, show q + (j + 1) = q + 1 + j by omega]
    omega
theorem cntN_mono (f : Nat → Bool) (q : Nat) : ∀ j, cntN f q ≤ cntN f (q + j) := fun j => by
  have := cnR_N f j q
  omega
theorem fst_keep (f : Nat → Bool) {q : Nat} (h : 0 < cntN f q) : ∀ j, fstN f (q + j) = fstN f q
  | 0 => rfl
  | j + 1 => by
    have := cntN_mono f q j
    show fstN f (q + j + 1) = _
    rw [fstN_s, if_neg (by omega), fst_keep f h j]
theorem lsQ_N (f : Nat → Bool) : ∀ j q, cntN f q = 0 → lsQ f j q = if cntN f (q + j) = 0 then none else some (fstN f (q + j))
  | 0, q, h => by
    rw [Nat.add_zero, if_pos h]
    rfl
  | j + 1, q, h => by
    rw [lsQ_s]
    cases c : f q with
    | true =>
      have h1 : cntN f (q + 1) = 1 := by rw [cntN_s, h, c, if_pos rfl]
      have h2 := cntN_mono f (q + 1) j
      have h3 := fst_keep f (q := q + 1) (by omega) j
      rw [if_pos rfl, show q + (j + 1) = q + 1 + j by omega, if_neg (by omega), h3, fstN_s, if_pos ⟨h, c⟩]
    | false =>
      have h1 : cntN f (q + 1) = 0 := by rw [cntN_s, h, c, if_neg (by decide)]
      rw [if_neg (by decide), lsQ_N f j (q + 1) h1, show q + (j + 1) = q + 1 + j by omega]
theorem cntN_ex (f : Nat → Bool) : ∀ q, 0 < cntN f q ↔ ∃ x, x < q ∧ f x = true
  | 0 => ⟨fun h => absurd h (Nat.lt_irrefl 0), fun ⟨x, h, _⟩ => absurd h (Nat.not_lt_zero x)⟩
  | q + 1 => by
    have ih := cntN_ex f q
    rw [cntN_s]
    constructor
    · intro h
      cases c : f q with
      | true => exact ⟨q, Nat.lt_succ_self q, c⟩
      | false =>
        rw [c, if_neg (by decide)] at h
        obtain ⟨x, hx, e⟩ := ih.mp h
        exact ⟨x, by omega, e⟩
    · intro ⟨x, hx, e⟩
      by_cases ex : x = q
      · rw [← ex, e, if_pos rfl]; omega
      · have := ih.mpr ⟨x, by omega, e⟩
        omega
theorem blmN_ex {g : Nat → Nat} {r : Nat} : ∀ q, (blmN g q).testBit r = true ↔ ∃ x, x < q ∧ onesN (g x) 6 = 1 ∧ (g x).testBit r = true
  | 0 => by
    show (0 : Nat).testBit r = true ↔ _
    rw [Nat.zero_testBit]
    exact ⟨(fun h => by cases h), fun ⟨x, h, _⟩ => absurd h (Nat.not_lt_zero x)⟩
  | q + 1 => by
    have ih := blmN_ex (g := g) (r := r) q
    rw [blmN_s, Nat.testBit_or, Bool.or_eq_true]
    constructor
    · rintro (h | h)
      · obtain ⟨x, hx, e⟩ := ih.mp h
        exact ⟨x, by omega, e⟩
      · by_cases c : onesN (g q) 6 = 1
        · rw [if_pos c] at h
          exact ⟨q, Nat.lt_succ_self q, c, h⟩
        · rw [if_neg c, Nat.zero_testBit] at h
          cases h
    · intro ⟨x, hx, e1, e2⟩
      by_cases ex : x = q
      · subst ex
        right
        rw [if_pos e1]
        exact e2
      · left
        exact ih.mpr ⟨x, by omega, e1, e2⟩
theorem ones1 : ∀ g, g < 64 → ∀ r, r < 6 → ((onesN g 6 = 1 ∧ g.testBit r = true) ↔ g = 2 ^ r) ∧ ((g &&& (2 ^ r ^^^ 63) = 0) ↔ (g = 0 ∨ g = 2 ^ r)) := by decide +kernel
def misQ (s : Sg) (n lst : Nat) (K A L M : Nat → Nat) (q : Nat) : Nat := accN (badP A L M K (lTD s (1 + q / 100) (q / 10 % 10) (6 * (q % 10)))) n lst
def LI (g : Nat → Nat) (h H : Hp) (q : Nat) : Prop := (∀ c, c ≠ 16 → H c = h c) ∧ H 16 4 = h 16 4 ∧ H 16 5 = nI (cntN (fun x => decide (g x = 0)) q) ∧ (0 < cntN (fun x => decide (g x = 0)) q → H 16 6 = nI (1 + fstN (fun x => decide (g x = 0)) q / 100) ∧ H 16 7 = nI (fstN (fun x => decide (g x = 0)) q / 10 % 10) ∧ H 16 8 = nI (6 * (fstN (fun x => decide (g x = 0)) q % 10))) ∧ H 16 9 = nI (blmN g q)
set_option maxRecDepth 100000 in
theorem li_step {h H : Hp} {s : Sg} {n lst : Nat} {K A L M : Nat → Nat} (so : SgOk s) (hs : SgAt h s) (R : RepC h n K A L M) (hl : lst ≤ 16) {q : Nat} (hq : q < 500) (I : LI (misQ s n lst K A L M) h H q) (r17 : Nat → Int32 → Int32 → Hp → Option (Int32 × Hp)) (r25 : Nat → Int32 → Int32 → Int32 → Hp → Option (Int32 × Hp)) (r35 : Nat → Int32 → Int32 → Int32 → Int32 → Hp → Option (Int32 × Hp)) : ∃ H', R_127_42 r17 r25 r35 1 (nI lst - nI 1) (nI (1 + q / 100)) (nI (q / 10 % 10)) (nI (6 * (q % 10))) H = r35 1 (nI lst - nI 1) (nI (1 + q / 100)) (nI (q / 10 % 10)) (nI (6 * (q % 10) + 6)) H' ∧ LI (misQ s n lst K A L M) h H' (q + 1) := by
  obtain ⟨i1, i2, i3, i4, i5⟩ := I
  have n6 := R.1
  have hsH : SgAt H s := by
    unfold SgAt
    rw [i1 1 (by decide), i1 2 (by decide), i1 3 (by decide), i1 4 (by decide), i1 5 (by decide), i1 6 (by decide)]
    exact hs
  have RH : RepC H n K A L M := by
    unfold RepC
    rw [i2, i1 17 (by decide), i1 18 (by decide), i1 19 (by decide), i1 20 (by decide)]
    exact R
  have g129 := s_129 so hsH RH (lst := lst) (kind := 1 + q / 100) (pretty := q / 10 % 10) (first := 6 * (q % 10)) hl (by omega) (by omega) (by omega) (by omega)
  have hm : misQ s n lst K A L M q < 64 := p64 (accN_lt _ n lst) n6
  have hbm : blmN (misQ s n lst K A L M) q < 64 := p64 (blmN_lt (n := n) (fun q => accN_lt _ n lst) q) n6
  have hc := cntN_le (fun x => decide (misQ s n lst K A L M x = 0)) q
  change S_129 1 (nI lst - nI 1) (nI (1 + q / 100)) (nI (q / 10 % 10)) (nI (6 * (q % 10))) H = some (nI (misQ s n lst K A L M q), H) at g129
  have fq : decide (misQ s n lst K A L M q = 0) = true ↔ misQ s n lst K A L M q = 0 := decide_eq_true_iff
  by_cases c0 : misQ s n lst K A L M q = 0
  · have ec : cntN (fun x => decide (misQ s n lst K A L M x = 0)) (q + 1) = cntN (fun x => decide (misQ s n lst K A L M x = 0)) q + 1 := by rw [cntN_s, if_pos (fq.mpr c0)]
    have eb : blmN (misQ s n lst K A L M) (q + 1) = blmN (misQ s n lst K A L M) q := by
      rw [blmN_s, c0, if_neg (show ¬ onesN 0 6 = 1 by decide), Nat.or_zero]
    have g105 : ∀ H', S_105 (nI 0) H' = some (nI 0, H') := fun H' => s_105 (by decide)
    rw [c0] at g129
    by_cases c1 : cntN (fun x => decide (misQ s n lst K A L M x = 0)) q = 0
    · have ef : fstN (fun x => decide (misQ s n lst K A L M x = 0)) (q + 1) = q := by rw [fstN_s, if_pos ⟨c1, fq.mpr c0⟩]
      refine ⟨wr (wr (wr (wr H 16 5 (nI 1)) 16 6 (nI (1 + q / 100))) 16 7 (nI (q / 10 % 10))) 16 8 (nI (6 * (q % 10))), ?_, fun c hc => by rw [wr_c hc, wr_c hc, wr_c hc, wr_c hc]; exact i1 c hc, by simp (disch := omega) only [wr_k]; exact i2, by rw [ec, c1]; simp (disch := omega) only [wr_k, wr_s], fun _ => by rw [ef]; exact ⟨by simp (disch := omega) only [wr_k, wr_s], by simp (disch := omega) only [wr_k, wr_s], wr_self⟩, by rw [eb]; simp (disch := omega) only [wr_k]; exact i5⟩
      rw [c1] at i3
      simp (disch := omega) only [R_127_42, g129, R_127_53, R_127_60, S_131, R_131_0, R_131_19, R_127_69, R_127_74, R_127_89, gd_t, bI_, bV_, bR_, and_self, and_true, true_and, ↓reduceIte, eq_self, oj_84, bI_1, bI_0, L0, L1, L5, L6, L7, L8, L9, L16, L54, le_t, le_f, lt_t, lt_f, eq_t, eq_f, ncl, nI_add, nmul, nsub, ndiv, nrem, nrem', nrN, i3, wr_s, g105]
    · have ef : fstN (fun x => decide (misQ s n lst K A L M x = 0)) (q + 1) = fstN (fun x => decide (misQ s n lst K A L M x = 0)) q := by rw [fstN_s, if_neg (fun w => c1 w.1)]
      refine ⟨wr H 16 5 (nI (cntN (fun x => decide (misQ s n lst K A L M x = 0)) q + 1)), ?_, fun c hc => by rw [wr_c hc]; exact i1 c hc, by simp (disch := omega) only [wr_k]; exact i2, by rw [ec, wr_self], fun _ => by rw [ef]; simp (disch := omega) only [wr_k]; exact i4 (by omega), by rw [eb]; simp (disch := omega) only [wr_k]; exact i5⟩
      generalize cntN (fun x => decide (misQ s n lst K A L M x = 0)) q = cc at i3 c1 hc
      simp (disch := omega) only [R_127_42, g129, R_127_53, R_127_60, S_131, R_131_0, R_131_18, R_127_69, R_127_74, R_127_89, gd_t, bI_, bV_, bR_, and_self, and_true, true_and, ↓reduceIte, eq_self, oj_84, bI_1, bI_0, L0, L1, L5, L6, L7, L8, L9, L16, L54, le_t, le_f, lt_t, lt_f, eq_t, eq_f, ncl, nI_add, nmul, nsub, ndiv, nrem, nrem', nrN, i3, wr_s, g105]
  · have ec : cntN (fun x => decide (misQ s n lst K A L M x = 0)) (q + 1) = cntN (fun x => decide (misQ s n lst K A L M x = 0)) q := by rw [cntN_s, if_neg (fun w => c0 (fq.mp w)), Nat.add_zero]
    have ef : fstN (fun x => decide (misQ s n lst K A L M x = 0)) (q + 1) = fstN (fun x => decide (misQ s n lst K A L M x = 0)) q := by rw [fstN_s, if_neg (fun w => c0 (fq.mp w.2))]
    have g105 := s_105 (h := H) hm
    have ho := onesN_le (misQ s n lst K A L M q) 6
    by_cases c1 : onesN (misQ s n lst K A L M q) 6 = 1
    · have eb : blmN (misQ s n lst K A L M) (q + 1) = blmN (misQ s n lst K A L M) q ||| misQ s n lst K A L M q := by rw [blmN_s, if_pos c1]
      refine ⟨wr H 16 9 (nI (blmN (misQ s n lst K A L M) q ||| misQ s n lst K A L M q)), ?_, fun c hc => by rw [wr_c hc]; exact i1 c hc, by simp (disch := omega) only [wr_k]; exact i2, by rw [ec]; simp (disch := omega) only [wr_k]; exact i3, fun w => by rw [ef]; simp (disch := omega) only [wr_k]; exact i4 (by rw [← ec]; exact w), by rw [eb, wr_self]⟩
      simp (disch := omega) only [R_127_42, g129, R_127_53, R_127_69, g105, c1, R_127_74, R_127_78, gd_t, bI_, bV_, bR_, and_self, and_true, true_and, ↓reduceIte, eq_self, oj_84, bI_1, bI_0, L0, L1, L5, L6, L9, L16, L54, le_t, le_f, lt_t, lt_f, eq_t, eq_f, ncl, nI_add, nmul, nsub, ndiv, nrem, nrem', nrN, c0, i5, nor']
    · have eb : blmN (misQ s n lst K A L M) (q + 1) = blmN (misQ s n lst K A L M) q := by rw [blmN_s, if_neg c1, Nat.or_zero]
      refine ⟨H, ?_, i1, i2, by rw [ec]; exact i3, fun w => by rw [ef]; exact i4 (by rw [← ec]; exact w), by rw [eb]; exact i5⟩
      simp (disch := omega) only [R_127_42, g129, R_127_53, R_127_69, g105, R_127_74, R_127_89, gd_t, bI_, bV_, bR_, and_self, and_true, true_and, ↓reduceIte, eq_self, oj_84, bI_1, bI_0, L0, L1, L5, L6, L9, L16, L54, le_t, le_f, lt_t, lt_f, eq_t, eq_f, ncl, nI_add, nmul, nsub, ndiv, nrem, nrem', nrN, c0, c1]
theorem s_127 {h : Hp} {s : Sg} {n : Nat} {K A L M : Nat → Nat} (so : SgOk s) (hs : SgAt h s) (R : RepC h n K A L M) : ∃ lst h', lst ≤ 16 ∧ (∀ r, r < n → K r < lst) ∧ S_127 1 h = some (0, h') ∧ LI (misQ s n lst K A L M) h h' 500 := by
  have n6 := R.1
  have e4 := R.2.1
  have loopL : ∀ (j i l fu : Nat) (H : Hp), H 16 4 = nI n → (∀ c, c ≠ 16 → H c = h c) → i + j = n → j < fu → l ≤ 16 → (∀ r, r < i → K r < l) → ∃ l', l' ≤ 16 ∧ (∀ r, r < n → K r < l') ∧ H_128_4 fu (nI l - nI 1) (nI i) H = some (nI l' - nI 1, H) := by
    intro j
    induction j with
    | zero =>
      intro i l fu H eH eo ei hf hl hk
      obtain ⟨fu, rfl⟩ : ∃ p, fu = p + 1 := ⟨fu - 1, by omega⟩
      have ei' : i = n := by omega
      subst ei'
      exact ⟨l, hl, hk, by simp (disch := omega) only [H_128_4, R_128_4, R_128_29, gd_t, bI_, bV_, bR_, and_self, and_true, true_and, ↓reduceIte, eq_self, oj_84, bI_1, bI_0, L0, L1, L4, L16, L17, eH, le_t]⟩
    | succ j ih =>
      intro i l fu H eH eo ei hf hl hk
      obtain ⟨fu, rfl⟩ : ∃ p, fu = p + 1 := ⟨fu - 1, by omega⟩
      obtain ⟨u1, -, -, -, v1, -⟩ := R.2.2 i (by omega)
      have e17 : H 17 i = nI (K i) := by rw [eo 17 (by decide)]; exact v1
      have c1 : (nI n ≤ nI i) = False := le_f (by omega) (by omega)
      by_cases c : l ≤ K i
      · obtain ⟨l', a, b, g⟩ := ih (i + 1) (K i + 1) fu H eH eo (by omega) (by omega) (by omega) (fun r hr => by
          rcases Nat.lt_or_ge r i with w | w
          · have := hk r w; omega
          · rw [show r = i by omega]; omega)
        rw [nsub (show 1 ≤ K i + 1 by omega), show K i + 1 - 1 = K i by omega] at g
        have lt : (nI l - nI 1 < nI (K i)) = True := eq_true (by rw [Int32.lt_iff_toInt_lt, pk_sub_toInt (by omega) (by omega), nI_toInt (by omega)]; omega)
        refine ⟨l', a, b, ?_⟩
        simp (disch := omega) only [H_128_4, R_128_4, R_128_12, gd_t, bI_, bV_, bR_, and_self, and_true, true_and, ↓reduceIte, eq_self, oj_84, bI_1, bI_0, L0, L1, L4, L16, L17, eH, c1, ia_17, ncl, e17, lt, nI_add]
        exact g
      · obtain ⟨l', a, b, g⟩ := ih (i + 1) l fu H eH eo (by omega) (by omega) hl (fun r hr => by
          rcases Nat.lt_or_ge r i with w | w
          · exact hk r w
          · rw [show r = i by omega]; omega)
        have lt : (nI l - nI 1 < nI (K i)) = False := eq_false (by rw [Int32.lt_iff_toInt_lt, pk_sub_toInt (by omega) (by omega), nI_toInt (by omega)]; omega)
        refine ⟨l', a, b, ?_⟩
        simp (disch := omega) only [H_128_4, R_128_4, R_128_12, gd_t, bI_, bV_, bR_, and_self, and_true, true_and, ↓reduceIte, eq_self, oj_84, bI_1, bI_0, L0, L1, L4, L16, L17, eH, c1, ia_17, ncl, e17, lt, nI_add]
        exact g
  have eo0 : ∀ c, c ≠ 16 → (wr (wr h 16 5 (nI 0)) 16 9 (nI 0)) c = h c := fun c hc => by rw [wr_c hc, wr_c hc]
  obtain ⟨lst, hl, hk, gl⟩ := loopL n 0 0 fuL (wr (wr h 16 5 (nI 0)) 16 9 (nI 0)) (by simp (disch := omega) only [wr_k]; exact e4) eo0 (by omega) (fuL_gt (by omega)) (by omega) (fun r hr => absurd hr (by omega))
  have step := fun (q : Nat) (H : Hp) hq I => li_step (H := H) (q := q) so hs R hl hq I
  have l35 : ∀ r17 r25 (j x kd p fu : Nat) (H : Hp), kd < 5 → p < 10 → x + j = 10 → j < fu → LI (misQ s n lst K A L M) h H (kd * 100 + p * 10 + x) → ∃ H', H_127_35 r17 r25 fu 1 (nI lst - nI 1) (nI (1 + kd)) (nI p) (nI (6 * x)) H = R_127_95 r17 r25 1 (nI lst - nI 1) (nI (1 + kd)) (nI p) H' ∧ LI (misQ s n lst K A L M) h H' (kd * 100 + p * 10 + 10) := by
    intro r17 r25 j
    induction j with
    | zero =>
      intro x kd p fu H hkd hp ex hf I
      obtain ⟨fu, rfl⟩ : ∃ p, fu = p + 1 := ⟨fu - 1, by omega⟩
      have ex' : x = 10 := by omega
      subst ex'
      exact ⟨H, by simp (disch := omega) only [H_127_35, R_127_35, gd_t, bI_, bV_, bR_, and_self, and_true, true_and, ↓reduceIte, eq_self, oj_84, bI_1, bI_0, L0, L1, L5, L6, L9, L16, L54, le_t, le_f, lt_t, lt_f, eq_t, eq_f, ncl, nI_add, nmul, nsub, ndiv, nrem, nrem', nrN], I⟩
    | succ j ih =>
      intro x kd p fu H hkd hp ex hf I
      obtain ⟨fu, rfl⟩ : ∃ p, fu = p + 1 := ⟨fu - 1, by omega⟩
      obtain ⟨H', g, I'⟩ := step (kd * 100 + p * 10 + x) H (by omega) I r17 r25 (H_127_35 r17 r25 fu)
      rw [show (kd * 100 + p * 10 + x) / 100 = kd by omega, show (kd * 100 + p * 10 + x) / 10 % 10 = p by omega, show (kd * 100 + p * 10 + x) % 10 = x by omega, show 6 * x + 6 = 6 * (x + 1) by omega] at g
      obtain ⟨H2, g2, I2⟩ := ih (x + 1) kd p fu H' hkd hp (by omega) (by omega) I'
      refine ⟨H2, ?_, I2⟩
      have c1 : (nI 54 < nI (6 * x)) = False := lt_f (by omega) (by omega)
      simp (disch := omega) only [H_127_35, R_127_35, gd_t, bI_, bV_, bR_, and_self, and_true, true_and, ↓reduceIte, eq_self, oj_84, bI_1, bI_0, L0, L1, L5, L6, L9, L16, L54, c1, g]
      exact g2
  have l25 : ∀ r17 (j p kd fu : Nat) (H : Hp), kd < 5 → p + j = 10 → j < fu → LI (misQ s n lst K A L M) h H (kd * 100 + p * 10) → ∃ H', H_127_25 r17 fu 1 (nI lst - nI 1) (nI (1 + kd)) (nI p) H = R_127_101 r17 1 (nI lst - nI 1) (nI (1 + kd)) H' ∧ LI (misQ s n lst K A L M) h H' (kd * 100 + 100) := by
    intro r17 j
    induction j with
    | zero =>
      intro p kd fu H hkd ep hf I
      obtain ⟨fu, rfl⟩ : ∃ p, fu = p + 1 := ⟨fu - 1, by omega⟩
      have ep' : p = 10 := by omega
      subst ep'
      exact ⟨H, by simp (disch := omega) only [H_127_25, R_127_25, gd_t, bI_, bV_, bR_, and_self, and_true, true_and, ↓reduceIte, eq_self, oj_84, bI_1, bI_0, L0, L1, L5, L6, L9, L16, L54, le_t, le_f, lt_t, lt_f, eq_t, eq_f, ncl, nI_add, nmul, nsub, ndiv, nrem, nrem', nrN], I⟩
    | succ j ih =>
      intro p kd fu H hkd ep hf I
      obtain ⟨fu, rfl⟩ : ∃ p, fu = p + 1 := ⟨fu - 1, by omega⟩
      obtain ⟨H', g, I'⟩ := l35 r17 (H_127_25 r17 fu) 10 0 kd p fuL H hkd (by omega) (by omega) (fuL_gt (by omega)) I
      rw [show kd * 100 + p * 10 + 10 = kd * 100 + (p + 1) * 10 by omega] at I'
      obtain ⟨H2, g2, I2⟩ := ih (p + 1) kd fu H' hkd (by omega) (by omega) I'
      refine ⟨H2, ?_, I2⟩
      have c1 : (nI 9 < nI p) = False := lt_f (by omega) (by omega)
      rw [Nat.mul_zero] at g
      simp (disch := omega) only [H_127_25, R_127_25, R_127_32, gd_t, bI_, bV_, bR_, and_self, and_true, true_and, ↓reduceIte, eq_self, oj_84, bI_1, bI_0, L0, L1, L5, L6, L9, L16, L54, c1, g, R_127_95, nI_add]
      exact g2
  have l17 : ∀ (j kd fu : Nat) (H : Hp), kd + j = 5 → j < fu → LI (misQ s n lst K A L M) h H (kd * 100) → ∃ H', H_127_17 fu 1 (nI lst - nI 1) (nI (1 + kd)) H = some (0, H') ∧ LI (misQ s n lst K A L M) h H' 500 := by
    intro j
    induction j with
    | zero =>
      intro kd fu H ek hf I
      obtain ⟨fu, rfl⟩ : ∃ p, fu = p + 1 := ⟨fu - 1, by omega⟩
      have ek' : kd = 5 := by omega
      subst ek'
      exact ⟨H, by simp (disch := omega) only [H_127_17, R_127_17, R_127_107, gd_t, bI_, bV_, bR_, and_self, and_true, true_and, ↓reduceIte, eq_self, oj_84, bI_1, bI_0, L0, L1, L5, L6, L9, L16, L54, le_t, le_f, lt_t, lt_f, eq_t, eq_f, ncl, nI_add, nmul, nsub, ndiv, nrem, nrem', nrN], I⟩
    | succ j ih =>
      intro kd fu H ek hf I
      obtain ⟨fu, rfl⟩ : ∃ p, fu = p + 1 := ⟨fu - 1, by omega⟩
      obtain ⟨H', g, I'⟩ := l25 (H_127_17 fu) 10 0 kd fuL H (by omega) (by omega) (fuL_gt (by omega)) I
      rw [show kd * 100 + 100 = (kd + 1) * 100 by omega] at I'
      obtain ⟨H2, g2, I2⟩ := ih (kd + 1) fu H' (by omega) (by omega) I'
      refine ⟨H2, ?_, I2⟩
      have c1 : (nI 5 < nI (1 + kd)) = False := lt_f (by omega) (by omega)
      rw [← Nat.add_assoc] at g2
      simp (disch := omega) only [H_127_17, R_127_17, R_127_22, gd_t, bI_, bV_, bR_, and_self, and_true, true_and, ↓reduceIte, eq_self, oj_84, bI_1, bI_0, L0, L1, L5, L6, L9, L16, L54, c1, g, R_127_101, nI_add]
      exact g2
  obtain ⟨H', g, I'⟩ := l17 5 0 fuL (wr (wr h 16 5 (nI 0)) 16 9 (nI 0)) (by omega) (fuL_gt (by omega)) ⟨eo0, by simp (disch := omega) only [wr_k], by simp (disch := omega) only [wr_k, wr_s]; rfl, fun w => absurd w (Nat.lt_irrefl 0), by simp (disch := omega) only [wr_s]; rfl⟩
  refine ⟨lst, H', hl, hk, ?_, I'⟩
  have gl' : H_128_4 fuL (-nI 1) (nI 0) (wr (wr h 16 5 (nI 0)) 16 9 (nI 0)) = some (nI lst - nI 1, wr (wr h 16 5 (nI 0)) 16 9 (nI 0)) := gl
  simp (disch := omega) only [S_127, R_127_0, S_128, R_128_0, gd_t, bI_, bV_, bR_, and_self, and_true, true_and, ↓reduceIte, eq_self, oj_84, bI_1, bI_0, L0, L1, L4, L5, L6, L9, L16, L17, L54, gl', R_127_14]
  exact g
