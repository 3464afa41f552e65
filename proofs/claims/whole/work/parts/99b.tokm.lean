/-! part 99b: the model's tokens -/
def lgN (n : Nat) : Int64 := Int64.ofInt (n : Int)
theorem lgN_toInt {n : Nat} (h : n < 9223372036854775808) : (lgN n).toInt = (n : Int) := by
  unfold lgN
  exact Int64.toInt_ofInt_of_le (by omega) (by omega)
theorem lgN_inj {a b : Nat} (ha : a < 9223372036854775808) (hb : b < 9223372036854775808) : lgN a = lgN b ↔ a = b := by
  constructor
  · intro e
    have := congrArg Int64.toInt e
    rw [lgN_toInt ha, lgN_toInt hb] at this
    omega
  · intro e
    rw [e]
theorem lgN_i {x : Nat} (h : x < 2147483648) : Int32.toInt64 (nI x) = lgN x := by
  apply Int64.toInt_inj.mp
  rw [Int32.toInt_toInt64, nI_toInt h, lgN_toInt (by omega)]
theorem lgN_27 {a x : Nat} (hx : 97 ≤ x) : 27 * lgN a + lgN x - 97 + 1 = lgN (27 * a + (x - 96)) := by
  unfold lgN
  rw [show (27 : Int64) = Int64.ofInt 27 from rfl, show (97 : Int64) = Int64.ofInt 97 from rfl, show (1 : Int64) = Int64.ofInt 1 from rfl, ← Int64.ofInt_mul, ← Int64.ofInt_add, ← Int64.ofInt_sub, ← Int64.ofInt_add]
  congr 1
  omega
theorem lgN_10 {a x : Nat} (hx : 48 ≤ x) : 10 * lgN a + lgN x - 48 = lgN (a * 10 + x - 48) := by
  unfold lgN
  rw [show (10 : Int64) = Int64.ofInt 10 from rfl, show (48 : Int64) = Int64.ofInt 48 from rfl, ← Int64.ofInt_mul, ← Int64.ofInt_add, ← Int64.ofInt_sub]
  congr 1
  omega
/-- letters as a number -/
def encG (f : Nat → Nat) : Nat → Nat
  | 0 => 0
  | k + 1 => 27 * encG f k + (f k - 96)
theorem encG_lt {f : Nat → Nat} : ∀ k, (∀ j, j < k → isLet (f j)) → encG f k + 1 ≤ 27 ^ k := by
  intro k
  induction k with
  | zero => exact fun _ => Nat.le_refl 1
  | succ k ih =>
    intro h
    have i := ih (fun j hj => h j (by omega))
    have l := h k (by omega)
    unfold isLet at l
    show 27 * encG f k + (f k - 96) + 1 ≤ 27 ^ (k + 1)
    rw [Nat.pow_succ]
    omega
theorem encG_inj : ∀ (k l : Nat) (f g : Nat → Nat), (∀ j, j < k → isLet (f j)) → (∀ j, j < l → isLet (g j)) → encG f k = encG g l → k = l ∧ ∀ j, j < k → f j = g j := by
  intro k
  induction k with
  | zero =>
    intro l f g hf hg e
    cases l with
    | zero => exact ⟨rfl, fun j hj => by omega⟩
    | succ l =>
      exfalso
      have := hg l (by omega)
      unfold isLet at this
      have e2 : (0 : Nat) = 27 * encG g l + (g l - 96) := e
      omega
  | succ k ih =>
    intro l f g hf hg e
    have x := hf k (by omega)
    unfold isLet at x
    cases l with
    | zero =>
      exfalso
      have e2 : 27 * encG f k + (f k - 96) = 0 := e
      omega
    | succ l =>
      have y := hg l (by omega)
      unfold isLet at y
      have e2 : 27 * encG f k + (f k - 96) = 27 * encG g l + (g l - 96) := e
      obtain ⟨a, b⟩ := ih l f g (fun j hj => hf j (by omega)) (fun j hj => hg j (by omega)) (by omega)
      subst a
      refine ⟨rfl, fun j hj => ?_⟩
      by_cases c : j = k
      · rw [c]; omega
      · exact b j (by omega)
theorem encG_c {f g : Nat → Nat} : ∀ k, (∀ j, j < k → f j = g j) → encG f k = encG g k := by
  intro k
  induction k with
  | zero => exact fun _ => rfl
  | succ k ih =>
    intro h
    show 27 * encG f k + (f k - 96) = 27 * encG g k + (g k - 96)
    rw [ih (fun j hj => h j (by omega)), h k (by omega)]
def wNL : List Nat := [10160456, 10989714, 94196, 284079062, 1960177, 6943085, 259906, 220309, 407038, 249, 10631, 1111, 423, 7622660, 10998971, 239262010, 355278, 212302449]
def wN (w : Nat) : Nat := wNL.getD w 0
def wV (w : Nat) : Int64 := lgN (wN w)
def wwW (w : Nat) : List Nat := wdL.getD w []
theorem wN_lt : ∀ w, w < 18 → wN w < 300000000 := by decide +kernel
theorem wN_inj : ∀ w, w < 18 → ∀ v, v < 18 → wN w = wN v → w = v := by decide +kernel
theorem wwW_len : ∀ w, w < 18 → (wwW w).length ≤ 6 := by decide +kernel
theorem wwW_let : ∀ w, w < 18 → ∀ j, j < 6 → j < (wwW w).length → 97 ≤ (wwW w).getD j 0 ∧ (wwW w).getD j 0 ≤ 122 := by decide +kernel
theorem wwW_enc : ∀ w, w < 18 → encG (fun j => (wwW w).getD j 0) (wwW w).length = wN w := by decide +kernel
/-- these letters are word w -/
def isW (f : Nat → Int32) (n : Nat) (w : List Nat) : Prop := w.length = n ∧ ∀ j, j < n → f j = nI (w.getD j 0)
theorem wdF_at {f : Nat → Int32} {n : Nat} : ∀ (l : List (List Nat)) (i w : Nat), w < l.length → isW f n (l.getD w []) → (∀ v, v < w → ¬ isW f n (l.getD v [])) → wdF f n l i = i + w := by
  intro l
  induction l with
  | nil => exact fun i w h => absurd h (by simp)
  | cons a t ih =>
    intro i w hw q nq
    unfold wdF
    cases w with
    | zero =>
      have q' : a.length = n ∧ ∀ j, j < n → f j = nI (a.getD j 0) := q
      rw [if_pos q', Nat.add_zero]
    | succ w =>
      have q' : ¬ (a.length = n ∧ ∀ j, j < n → f j = nI (a.getD j 0)) := nq 0 (by omega)
      simp only [List.length_cons] at hw
      rw [if_neg q', ih (i + 1) w (by omega) q (fun v hv => nq (v + 1) (by omega))]
      omega
theorem wdF_no {f : Nat → Int32} {n : Nat} : ∀ (l : List (List Nat)) (i : Nat), (∀ v, v < l.length → ¬ isW f n (l.getD v [])) → wdF f n l i = 28 := by
  intro l
  induction l with
  | nil => exact fun i _ => rfl
  | cons a t ih =>
    intro i nq
    have q' : ¬ (a.length = n ∧ ∀ j, j < n → f j = nI (a.getD j 0)) := nq 0 (by simp)
    unfold wdF
    rw [if_neg q']
    exact ih (i + 1) (fun v hv => nq (v + 1) (by simp only [List.length_cons]; omega))
theorem isW_enc {T : Nat → Nat} {b k w : Nat} (hl : ∀ j, j < k → isLet (T (b + j))) (hw : w < 18) : isW (fun j => nI (T (b + j))) k (wwW w) ↔ encG (fun j => T (b + j)) k = wN w := by
  have hle := wwW_len w hw
  have hlw : ∀ j, j < (wwW w).length → isLet ((wwW w).getD j 0) := fun j hj => wwW_let w hw j (by omega) hj
  constructor
  · rintro ⟨a, c⟩
    rw [← wwW_enc w hw, a]
    refine encG_c k (fun j hj => ?_)
    have h1 := hl j hj
    have h2 := hlw j (by omega)
    have h3 := c j hj
    unfold isLet at h1 h2
    exact (nI_eq (by omega) (by omega)).mp h3
  · intro e
    rw [← wwW_enc w hw] at e
    obtain ⟨e1, e2⟩ := encG_inj k (wwW w).length (fun j => T (b + j)) (fun j => (wwW w).getD j 0) hl hlw e
    exact ⟨e1.symm, fun j hj => congrArg nI (e2 j hj)⟩
theorem wc_iff {T : Nat → Nat} {b k w : Nat} (hl : ∀ j, j < k → isLet (T (b + j))) (hw : w < 18) : wcF T b k = w ↔ encG (fun j => T (b + j)) k = wN w := by
  have at_ : ∀ v, v < 18 → encG (fun j => T (b + j)) k = wN v → wcF T b k = v := fun v hv e => by
    have := wdF_at (f := fun j => nI (T (b + j))) (n := k) wdL 0 v (by exact hv) ((isW_enc hl hv).mpr e) (fun u hu q => by
      have e2 := (isW_enc hl (show u < 18 by omega)).mp q
      have := wN_inj u (by omega) v hv (by rw [← e2, e])
      omega)
    rw [Nat.zero_add] at this
    exact this
  constructor
  · intro e
    by_cases c : ∃ v, v < 18 ∧ encG (fun j => T (b + j)) k = wN v
    · obtain ⟨v, hv, ev⟩ := c
      have := at_ v hv ev
      rw [← e, this]
      exact ev
    · exfalso
      have := wdF_no (f := fun j => nI (T (b + j))) (n := k) wdL 0 (fun v hv q => c ⟨v, hv, (isW_enc hl hv).mp q⟩)
      have e2 : wcF T b k = 28 := this
      omega
  · exact at_ w hw
theorem wcF_or {T : Nat → Nat} {b k : Nat} : wcF T b k < 18 ∨ wcF T b k = 28 := by
  by_cases c : ∃ v, v < 18 ∧ isW (fun j => nI (T (b + j))) k (wwW v)
  · have hw : ∀ (l : List (List Nat)) (i : Nat) (f : Nat → Int32) (n : Nat), i + l.length ≤ 18 → wdF f n l i < 18 ∨ wdF f n l i = 28 := by
      intro l
      induction l with
      | nil => exact fun _ _ _ _ => Or.inr rfl
      | cons w t ih =>
        intro i f n hi
        simp only [List.length_cons] at hi
        unfold wdF
        by_cases c : w.length = n ∧ ∀ j, j < n → f j = nI (w.getD j 0)
        · rw [if_pos c]; omega
        · rw [if_neg c]; exact ih (i + 1) f n (by omega)
    exact hw wdL 0 _ _ (by decide)
  · exact Or.inr (wdF_no wdL 0 (fun v hv q => c ⟨v, hv, q⟩))
def valL (T : Nat → Nat) (b k : Nat) : Int64 := if k ≤ 7 then lgN (encG (fun j => T (b + j)) k) else -1
def valD (T : Nat → Nat) (b k : Nat) : Int64 := if k ≤ 4 then lgN (numF T b k) else 100000
theorem numF_lt {T : Nat → Nat} {b : Nat} : ∀ k, (∀ j, j < k → isDig (T (b + j))) → numF T b k + 1 ≤ 10 ^ k := by
  intro k
  induction k with
  | zero => exact fun _ => Nat.le_refl 1
  | succ k ih =>
    intro h
    have i := ih (fun j hj => h j (by omega))
    have l := h k (by omega)
    unfold isDig at l
    show numF T b k * 10 + T (b + k) - 48 + 1 ≤ 10 ^ (k + 1)
    rw [Nat.pow_succ]
    omega
theorem wV_m1 : ∀ w, w < 18 → (-1 : Int64) ≠ wV w := by decide +kernel
theorem valL_w {T : Nat → Nat} {b k w : Nat} (hl : ∀ j, j < k → isLet (T (b + j))) (hw : w < 18) : valL T b k = wV w ↔ wcF T b k = w := by
  rw [wc_iff hl hw]
  unfold valL
  by_cases c : k ≤ 7
  · rw [if_pos c]
    have h1 := encG_lt k hl
    have h2 : 27 ^ k ≤ 27 ^ 7 := Nat.pow_le_pow_right (by decide) c
    have h3 : (27 : Nat) ^ 7 = 10460353203 := by decide
    have h4 := wN_lt w hw
    unfold wV
    exact lgN_inj (by omega) (by omega)
  · rw [if_neg c]
    constructor
    · intro e
      exact absurd e (wV_m1 w hw)
    · intro e
      exfalso
      have := (isW_enc hl hw).mpr e
      have l6 := wwW_len w hw
      have := this.1
      omega
/-- what the model knows of a token -/
def MT (tok : Nat) (val : Int64) (t : Nat × Nat × Nat) : Prop := tok ≤ 3 ∧ t.1 < 29 ∧ (∀ w, w < 18 → (tok = 1 ∧ val = wV w ↔ t.1 = w)) ∧ (∀ x, (x = 40 ∨ x = 41 ∨ x = 59 ∨ x = 60 ∨ x = 61 ∨ x = 62) → (tok = 3 ∧ val = lgN x ↔ t.1 = byteC x)) ∧ (tok = 2 ∧ ¬ 0 ≤ lg_cmp val 100000 ↔ t.1 = 26) ∧ (t.1 = 26 → val = lgN t.2.2 ∧ t.2.2 < 10000) ∧ (tok = 0 ↔ t.1 = 27)
theorem byteC_x : ∀ x, (x = 40 ∨ x = 41 ∨ x = 59 ∨ x = 60 ∨ x = 61 ∨ x = 62) → 20 ≤ byteC x ∧ byteC x ≤ 25 := by
  rintro x (rfl | rfl | rfl | rfl | rfl | rfl) <;> decide
theorem MT.end_ {p v : Nat} : MT 0 0 (27, p, v) := by
  refine ⟨by decide, (show 27 < 29 by decide), fun w hw => ?_, fun x hx => ?_, ?_, fun e => ?_, ?_⟩
  · constructor
    · rintro ⟨a, -⟩; omega
    · intro e; have e : 27 = w := e; omega
  · have := byteC_x x hx
    constructor
    · rintro ⟨a, -⟩; omega
    · intro e; have e : 27 = byteC x := e; omega
  · constructor
    · rintro ⟨a, -⟩; omega
    · intro e; have e : 27 = 26 := e; omega
  · have e : 27 = 26 := e
    omega
  · exact ⟨fun _ => rfl, fun _ => rfl⟩
theorem MT.let_ {T : Nat → Nat} {b k v : Nat} (hl : ∀ j, j < k → isLet (T (b + j))) : MT 1 (valL T b k) (wcF T b k, b, v) := by
  have hc := wcF_or (T := T) (b := b) (k := k)
  refine ⟨by decide, by show wcF T b k < 29; omega, fun w hw => ?_, fun x hx => ?_, ?_, fun e => ?_, ?_⟩
  · show (1 = 1 ∧ _) ↔ wcF T b k = w
    rw [← valL_w hl hw]
    exact ⟨fun q => q.2, fun q => ⟨rfl, q⟩⟩
  · have := byteC_x x hx
    constructor
    · rintro ⟨a, -⟩; omega
    · intro e; have e : wcF T b k = byteC x := e; omega
  · constructor
    · rintro ⟨a, -⟩; omega
    · intro e; have e : wcF T b k = 26 := e; omega
  · have e : wcF T b k = 26 := e
    omega
  · constructor
    · intro e; omega
    · intro e; have e : wcF T b k = 27 := e; omega
theorem cmp5 {v : Int64} : (0 ≤ lg_cmp v 100000) ↔ 100000 ≤ v.toInt := by
  rw [lg_cmp_ge, Int64.le_iff_toInt_le]
  rfl
theorem MT.dig {T : Nat → Nat} {b k v : Nat} (hd : ∀ j, j < k → isDig (T (b + j))) (hv : k ≤ 4 → v = numF T b k) : MT 2 (valD T b k) (if k ≤ 4 then 26 else 28, b, v) := by
  unfold valD
  by_cases c : k ≤ 4
  · rw [if_pos c, if_pos c]
    have h1 := numF_lt k hd
    have h2 : 10 ^ k ≤ 10 ^ 4 := Nat.pow_le_pow_right (by decide) c
    have h3 : (10 : Nat) ^ 4 = 10000 := by decide
    refine ⟨by decide, (show 26 < 29 by decide), fun w hw => ?_, fun x hx => ?_, ?_, fun _ => ⟨by show _ = lgN v; rw [hv c], by show v < 10000; rw [hv c]; omega⟩, ?_⟩
    · constructor
      · rintro ⟨a, -⟩; omega
      · intro e; have e : 26 = w := e; omega
    · have := byteC_x x hx
      constructor
      · rintro ⟨a, -⟩; omega
      · intro e; have e : 26 = byteC x := e; omega
    · refine ⟨fun _ => rfl, fun _ => ⟨rfl, ?_⟩⟩
      rw [cmp5, lgN_toInt (by omega)]
      omega
    · constructor
      · intro e; omega
      · intro e; have e : 26 = 27 := e; omega
  · rw [if_neg c, if_neg c]
    refine ⟨by decide, (show 28 < 29 by decide), fun w hw => ?_, fun x hx => ?_, ?_, fun e => ?_, ?_⟩
    · constructor
      · rintro ⟨a, -⟩; omega
      · intro e; have e : 28 = w := e; omega
    · have := byteC_x x hx
      constructor
      · rintro ⟨a, -⟩; omega
      · intro e; have e : 28 = byteC x := e; omega
    · constructor
      · rintro ⟨-, a⟩; exact absurd (cmp5.mpr (by decide)) a
      · intro e; have e : 28 = 26 := e; omega
    · have e : 28 = 26 := e
      omega
    · constructor
      · intro e; omega
      · intro e; have e : 28 = 27 := e; omega
theorem MT.oth {y b v : Nat} (hy : y ≤ 255) : MT 3 (lgN y) (byteC y, b, v) := by
  have hc : ∀ z, byteC z = 28 ∨ (20 ≤ byteC z ∧ byteC z ≤ 25) := fun z => by
    unfold byteC
    repeat' split
    all_goals decide
  refine ⟨by decide, byteC_lt y, fun w hw => ?_, fun x hx => ?_, ?_, fun e => ?_, ?_⟩
  · have := hc y
    constructor
    · rintro ⟨a, -⟩; omega
    · intro e; have e : byteC y = w := e; omega
  · rw [lgN_inj (by omega) (by omega)]
    show (3 = 3 ∧ y = x) ↔ byteC y = byteC x
    constructor
    · rintro ⟨-, rfl⟩; rfl
    · intro e
      refine ⟨rfl, ?_⟩
      rcases hx with rfl | rfl | rfl | rfl | rfl | rfl
      all_goals
        unfold byteC at e
        repeat' split at e
        all_goals first | omega | (simp at e)
  · have := hc y
    constructor
    · rintro ⟨a, -⟩; omega
    · intro e; have e : byteC y = 26 := e; omega
  · have := hc y
    have e : byteC y = 26 := e
    omega
  · have := hc y
    constructor
    · intro e; omega
    · intro e; have e : byteC y = 27 := e; omega
