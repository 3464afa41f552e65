/-! part 30: the state in mathematical words, first contracts -/
/-- rules: kind, what it tells, its condition over the five facts -/
abbrev Rl : Type := List (Nat × Nat × ((Nat → Nat) → Bool))
/-- the stage: how many scenes; kind, place of each; house of each night; light, noise of each place; end; rules -/
abbrev Sg : Type := Nat × (Nat → Nat) × (Nat → Nat) × (Nat → Nat) × (Nat → Nat) × (Nat → Nat) × Nat × Rl
/-- the moment: truth, pretty; the settled ones as a set; night; score; z -/
abbrev Mo : Type := (Nat → Nat) × (Nat → Nat) × Nat × Nat × Int32 × Int32
abbrev sN (s : Sg) : Nat := s.1
abbrev sKind (s : Sg) : Nat → Nat := s.2.1
abbrev sPlace (s : Sg) : Nat → Nat := s.2.2.1
abbrev sHouse (s : Sg) : Nat → Nat := s.2.2.2.1
abbrev sLight (s : Sg) : Nat → Nat := s.2.2.2.2.1
abbrev sNoise (s : Sg) : Nat → Nat := s.2.2.2.2.2.1
abbrev sEnd (s : Sg) : Nat := s.2.2.2.2.2.2.1
abbrev sRules (s : Sg) : Rl := s.2.2.2.2.2.2.2
abbrev mTruth (m : Mo) : Nat → Nat := m.1
abbrev mPretty (m : Mo) : Nat → Nat := m.2.1
abbrev mSet (m : Mo) : Nat := m.2.2.1
abbrev mNight (m : Mo) : Nat := m.2.2.2.1
abbrev mScore (m : Mo) : Int32 := m.2.2.2.2.1
abbrev mSeed (m : Mo) : Int32 := m.2.2.2.2.2
def SgOk (s : Sg) : Prop := sN s ≤ 6 ∧ (∀ k, k < sN s → 1 ≤ sKind s k ∧ sKind s k ≤ 5 ∧ sPlace s k ≤ 5) ∧ (∀ t, t < 16 → sHouse s t ≤ 15) ∧ (∀ f, f < 6 → sLight s f ≤ 9 ∧ sNoise s f ≤ 9) ∧ 1 ≤ sEnd s ∧ sEnd s ≤ 16
def MoOk (s : Sg) (m : Mo) : Prop := (∀ k, k < sN s → mTruth m k ≤ 99 ∧ mPretty m k ≤ 9) ∧ mSet m < 2 ^ sN s ∧ mNight m ≤ 16
/-- the class's cells of the stage (rules apart) -/
def SgAt (h : Hp) (s : Sg) : Prop := h 1 7 = nI (sN s) ∧ (∀ k, k < sN s → h 2 k = nI (sKind s k) ∧ h 3 k = nI (sPlace s k)) ∧ (∀ t, t < 16 → h 4 t = nI (sHouse s t)) ∧ (∀ f, f < 6 → h 5 f = nI (sLight s f) ∧ h 6 f = nI (sNoise s f)) ∧ h 1 8 = nI (sEnd s)
/-- a moment's ids -/
def MoId (m : Nat) : Prop := sh m = (1, 3) ∧ sh (m + 1) = (0, 6) ∧ sh (m + 2) = (0, 6)
def MoAt (h : Hp) (a : Nat) (s : Sg) (m : Mo) : Prop := (∀ k, k < sN s → h (a + 1) k = nI (mTruth m k) ∧ h (a + 2) k = nI (mPretty m k)) ∧ h a 2 = nI (mSet m) ∧ h a 3 = nI (mNight m) ∧ h a 4 = mScore m ∧ h a 5 = mSeed m
/-- a boolean answer: 1 where p, else 0 -/
def bI (p : Bool) : Int32 := if p then 1 else 0
def houseS (s : Sg) (t : Nat) : Nat := if t < 16 then sHouse s t else 0
def railS (s : Sg) (t : Nat) : Nat := houseS s t / 4
def learnsK (kind rail truth night : Nat) : Nat :=
  let du := if truth ≤ 40 then 8 * rail else 4 * rail
  if kind = 1 then 8 * rail + truth / 10 else if kind = 2 then du else if kind = 3 then du - 3 else if kind = 4 then 5 * rail + 4 else if night % 2 = 1 then 0 else 5 * rail + 4
def drawsK (kind pretty truth num : Nat) : Nat :=
  let sc := 10 + pretty - truth / 9
  if kind = 1 then 9 else if kind = 2 then sc + pretty else if kind = 3 then 2 * (sc + pretty) else if kind = 4 then sc / 2 else sc / 2 + num
def leansS (s : Sg) (m : Mo) (k : Nat) : Nat → Nat
  | 0 => 0
  | i + 1 => leansS s m k i + (if (mSet m).testBit i ∧ sPlace s i + 1 = sPlace s k then 1 else 0)
def learnsS (s : Sg) (m : Mo) (k : Nat) : Nat := learnsK (sKind s k) (railS s (mNight m)) (mTruth m k) (mNight m) + 5 * leansS s m k (sN s) - sNoise s (sPlace s k)
def drawsS (s : Sg) (m : Mo) (k : Nat) : Nat := drawsK (sKind s k) (mPretty m k) (mTruth m k) k + sLight s (sPlace s k)
theorem nc {k : Nat} (h : k < 2147483648) : (nI k).toNatClampNeg = k := nI_clamp h
set_option maxRecDepth 100000 in
/-- isIn -/
theorem c_11 {h : Hp} {v a b : Int32} : CI 0 11 [.int v, .int a, .int b] h (fun x h' => h' = h ∧ ((x = 1 ∧ (¬ v < a ∧ ¬ b < v)) ∨ (x = 0 ∧ (v < a ∨ b < v)))) := by
  refine C.of mo_11 (Nat.le_of_ble_eq_true rfl) (fun X hq => ?_)
  refine k_11_0 (fun c1 => ?_) (fun c1 => ?_)
  · exact k_11_14 (hq _ _ ⟨0, rfl, rfl, Or.inr ⟨rfl, Or.inl c1⟩⟩)
  · refine k_11_5 (fun c2 => ?_) (fun c2 => ?_)
    · exact k_11_14 (hq _ _ ⟨0, rfl, rfl, Or.inr ⟨rfl, Or.inr c2⟩⟩)
    · exact k_11_10 (hq _ _ ⟨1, rfl, rfl, Or.inl ⟨rfl, c1, c2⟩⟩)
theorem set_bit : ∀ s, s < 64 → ∀ k, k < 6 → (((nI s) >>> ((nI k) &&& 31)) &&& 1 = 1 ↔ s.testBit k = true) := by decide +kernel
set_option maxRecDepth 100000 in
/-- isSettled -/
theorem c_15 {h : Hp} {a s k : Nat} (ha : sh a = (1, 3)) (hs : h a 2 = nI s) (h1 : s < 64) (h2 : k < 6) : CI 0 15 [.ref a, .int (nI k)] h (fun x h' => h' = h ∧ ((x = 1 ∧ s.testBit k = true) ∨ (x = 0 ∧ s.testBit k = false))) := by
  refine C.of mo_15 (Nat.le_of_ble_eq_true rfl) (fun X hq => ?_)
  refine k_15_0 ha (fun c1 => ?_) (fun c1 => ?_)
  · rw [hs, set_bit s h1 k h2] at c1
    exact k_15_16 (hq _ _ ⟨0, rfl, rfl, Or.inr ⟨rfl, by simpa using c1⟩⟩)
  · rw [hs, set_bit s h1 k h2] at c1
    exact k_15_12 (hq _ _ ⟨1, rfl, rfl, Or.inl ⟨rfl, c1⟩⟩)
set_option maxRecDepth 100000 in
/-- leans -/
theorem c_20 {h : Hp} {a k : Nat} {s : Sg} {m : Mo} (hid : MoId a) (so : SgOk s) (mo : MoOk s m) (hs : SgAt h s) (hm : MoAt h a s m) (hk : k < sN s) : CI 1 20 [.ref 1, .ref a, .int (nI k)] h (fun x h' => h' = h ∧ x = nI (leansS s m k (sN s))) := by
  refine C.of mo_20 (Nat.le_of_ble_eq_true rfl) (fun X hq => ?_)
  have hn := so.1
  have hset : mSet m < 64 := Nat.lt_of_lt_of_le mo.2.1 (Nat.pow_le_pow_right (by decide) hn)
  refine k_20_0 ?_
  have loop : ∀ j i : Nat, i + j = sN s → G X 1 20 5 [some (.ref 1), some (.ref a), some (.int (nI k)), some (.int (nI (leansS s m k i))), some (.int (nI i))] [] h := by
    intro j
    induction j with
    | zero =>
      intro i e
      refine k_20_5 (fun c => ?_) (fun c => ?_)
      · refine k_20_50 (hq _ _ ⟨_, rfl, rfl, ?_⟩)
        rw [show i = sN s by omega]
      · exact absurd (by rw [hs.1]; exact nI_le (by omega) (by omega)) c
    | succ j ih =>
      intro i e
      have hi : i < sN s := by omega
      refine k_20_5 (fun c => ?_) (fun c => ?_)
      · rw [hs.1] at c
        exact absurd c (nI_ge hi (by omega))
      · refine k_20_14 hid.1 (Nat.lt_of_lt_of_le Nat.zero_lt_one (Nat.le_refl 1)) (c_15 hid.1 hm.2.1 hset (by omega)) ?_
        rintro x h' ⟨rfl, ⟨rfl, p1⟩ | ⟨rfl, p1⟩⟩
        · refine k_20_20 (fun q => absurd q (by decide)) (fun _ => ?_)
          refine k_20_23 (IA.of rfl (by omega) (by decide)) (IA.of rfl (by omega) (by decide)) ?_ ?_
          · intro c2
            rw [nc (by omega), nc (by omega), (hs.2.1 i hi).2, (hs.2.1 k hk).2] at c2
            refine k_20_44 ?_
            have := ih (i + 1) (by omega)
            rw [← nI_1] at this
            unfold leansS at this
            rw [if_neg (fun q => c2 (by rw [← q.2, ← nI_1]; exact (Int32.add_sub_cancel _ _).symm))] at this
            exact this
          · intro c2
            rw [nc (by omega), nc (by omega), (hs.2.1 i hi).2, (hs.2.1 k hk).2] at c2
            refine k_20_41 ?_
            have := ih (i + 1) (by omega)
            rw [← nI_1] at this
            unfold leansS at this
            have hp := (so.2.1 i hi).2.2
            have hpk := (so.2.1 k hk).2.2
            rw [if_pos ⟨p1, (nI_eq (by omega) (by omega)).mp (by rw [← nI_1, c2]; exact Int32.sub_add_cancel _ _)⟩, ← nI_1] at this
            exact this
        · refine k_20_20 (fun _ => ?_) (fun q => absurd rfl q)
          refine k_20_44 ?_
          have := ih (i + 1) (by omega)
          rw [← nI_1] at this
          unfold leansS at this
          rw [if_neg (fun q => by rw [p1] at q; exact absurd q.1 (by decide))] at this
          exact this
  exact loop (sN s) 0 (by omega)
