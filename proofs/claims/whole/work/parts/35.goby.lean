/-! part 35: how a night goes by, in the class -/
def upN (f : Nat → Nat) (k v : Nat) : Nat → Nat := fun j => if j = k then v else f j
theorem upN_s {f : Nat → Nat} {k v : Nat} : upN f k v k = v := if_pos rfl
theorem upN_n {f : Nat → Nat} {k v j : Nat} (h : j ≠ k) : upN f k v j = f j := if_neg h
def mendT (s : Sg) (m : Mo) (k : Nat) : Nat := min 99 (mTruth m k + learnsS s m k)
def mendS (s : Sg) (m : Mo) (k : Nat) : Mo := (upN (mTruth m) k (mendT s m k), mPretty m, (if 60 ≤ mendT s m k then mSet m ||| 2 ^ k else mSet m), mNight m, mScore m, mSeed m)
def trimS (_ : Sg) (m : Mo) (k : Nat) : Mo := (upN (mTruth m) k (mTruth m k - 10), upN (mPretty m) k (min 9 (mPretty m k + 1)), mSet m, mNight m, mScore m, mSeed m)
def doM (s : Sg) (m : Mo) (act : Nat) : Nat × Mo :=
  if act = 0 then (0, m) else if sN s < act then (0, m) else if (mSet m).testBit (act - 1) then (0, m)
  else if willS s m (act - 1) = 0 then (learnsS s m (act - 1), mendS s m (act - 1)) else if willS s m (act - 1) = 2 then (2 * (houseS s (mNight m) % 4), trimS s m (act - 1)) else (0, m)
def drawnS (s : Sg) (m : Mo) : Nat → Nat
  | 0 => 0
  | i + 1 => drawnS s m i + drawsS s m i
def fadeT (m : Mo) : Nat → Nat := fun i => if (mSet m).testBit i then mTruth m i else mTruth m i - 1
def goW (s : Sg) (m : Mo) (act : Nat) : Nat := (doM s m act).1 + drawnS s (doM s m act).2 (sN s)
def goM (s : Sg) (m : Mo) (act : Nat) : Mo := (fadeT (doM s m act).2, mPretty (doM s m act).2, mSet (doM s m act).2, mNight (doM s m act).2 + 1, mScore (doM s m act).2 + nI (goW s m act), mSeed (doM s m act).2)
theorem MoAt.ext {h : Hp} {a : Nat} {s : Sg} {m m' : Mo} (q : MoAt h a s m) (ht : ∀ k, k < sN s → mTruth m' k = mTruth m k ∧ mPretty m' k = mPretty m k) (h2 : mSet m' = mSet m) (h3 : mNight m' = mNight m) (h4 : mScore m' = mScore m) (h5 : mSeed m' = mSeed m) : MoAt h a s m' := by
  unfold MoAt at q ⊢
  rw [h2, h3, h4, h5]
  exact ⟨fun k hk => by rw [(ht k hk).1, (ht k hk).2]; exact q.1 k hk, q.2⟩
theorem set_or : ∀ s, s < 64 → ∀ k, k < 6 → nI s ||| ((1 : Int32) <<< (nI k &&& 31)) = nI (s ||| 2 ^ k) := by decide +kernel
theorem minc {a c : Nat} (ha : a < 2 ^ 31) (hc : c < 2 ^ 31) : (if nI a < nI c then nI a else nI c) = nI (min c a) := by
  by_cases h : a < c
  · rw [if_pos ((nI_ltI ha hc).mpr h), Nat.min_eq_right (Nat.le_of_lt h)]
  · rw [if_neg (fun q => h ((nI_ltI ha hc).mp q)), Nat.min_eq_left (Nat.not_lt.mp h)]
theorem MoOk.set {s : Sg} {m : Mo} (so : SgOk s) (mo : MoOk s m) : mSet m < 64 := Nat.lt_of_lt_of_le mo.2.1 (Nat.pow_le_pow_right (by decide) so.1)
theorem mendOk {s : Sg} {m : Mo} {k : Nat} (mo : MoOk s m) (hk : k < sN s) : MoOk s (mendS s m k) := by
  refine ⟨fun j hj => ⟨?_, (mo.1 j hj).2⟩, ?_, mo.2.2⟩
  · show upN (mTruth m) k (mendT s m k) j ≤ 99
    by_cases e : j = k
    · rw [e, upN_s]
      exact Nat.min_le_left _ _
    · rw [upN_n e]
      exact (mo.1 j hj).1
  · show (if 60 ≤ mendT s m k then mSet m ||| 2 ^ k else mSet m) < 2 ^ sN s
    split
    · exact Nat.or_lt_two_pow mo.2.1 (Nat.pow_lt_pow_right (by decide) hk)
    · exact mo.2.1
theorem trimOk {s : Sg} {m : Mo} {k : Nat} (mo : MoOk s m) : MoOk s (trimS s m k) := by
  refine ⟨fun j hj => ⟨?_, ?_⟩, mo.2.1, mo.2.2⟩
  · show upN (mTruth m) k (mTruth m k - 10) j ≤ 99
    by_cases e : j = k
    · rw [e, upN_s]
      have := (mo.1 j hj).1
      rw [e] at this
      omega
    · rw [upN_n e]
      exact (mo.1 j hj).1
  · show upN (mPretty m) k (min 9 (mPretty m k + 1)) j ≤ 9
    by_cases e : j = k
    · rw [e, upN_s]
      exact Nat.min_le_left _ _
    · rw [upN_n e]
      exact (mo.1 j hj).2
theorem doOk {s : Sg} {m : Mo} {act : Nat} (mo : MoOk s m) : MoOk s (doM s m act).2 ∧ mNight (doM s m act).2 = mNight m ∧ mScore (doM s m act).2 = mScore m ∧ mSeed (doM s m act).2 = mSeed m := by
  unfold doM
  split
  · exact ⟨mo, rfl, rfl, rfl⟩
  split
  · exact ⟨mo, rfl, rfl, rfl⟩
  split
  · exact ⟨mo, rfl, rfl, rfl⟩
  split
  · exact ⟨mendOk mo (by omega), rfl, rfl, rfl⟩
  split
  · exact ⟨trimOk mo, rfl, rfl, rfl⟩
  · exact ⟨mo, rfl, rfl, rfl⟩
theorem goOk {s : Sg} {m : Mo} {act : Nat} (mo : MoOk s m) (hn : mNight m < 16) : MoOk s (goM s m act) := by
  obtain ⟨h1, h2, -⟩ := doOk (act := act) mo
  refine ⟨fun j hj => ⟨?_, (h1.1 j hj).2⟩, h1.2.1, ?_⟩
  · show fadeT (doM s m act).2 j ≤ 99
    unfold fadeT
    have := (h1.1 j hj).1
    split <;> omega
  · show mNight (doM s m act).2 + 1 ≤ 16
    omega
theorem learnsS_le {s : Sg} {m : Mo} {k : Nat} (so : SgOk s) (mo : MoOk s m) (hk : k < sN s) : learnsS s m k ≤ 63 := by
  have hr : railS s (mNight m) ≤ 3 := by
    have := houseS_le so (mNight m)
    unfold railS
    omega
  have l1 := learnsK_le (k := sKind s k) (n := mNight m) hr (mo.1 k hk).1
  have l2 := leansS_le s m k (sN s)
  have := so.1
  unfold learnsS
  omega
theorem drawsS_le {s : Sg} {m : Mo} {k : Nat} (so : SgOk s) (mo : MoOk s m) (hk : k < sN s) : drawsS s m k ≤ 65 := by
  have := so.1
  have l1 := drawsK_le (k := sKind s k) (t := mTruth m k) (n := k) (mo.1 k hk).2 (by omega)
  have l2 := (so.2.2.2.1 (sPlace s k) (by have := (so.2.1 k hk).2.2; omega)).1
  unfold drawsS
  omega
