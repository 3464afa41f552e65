/-! part 35: how a night goes by, in the class -/
def upN (f : Nat → Nat) (k v : Nat) : Nat → Nat := fun j => if j = k then v else f j
theorem upN_s {f : Nat → Nat} {k v : Nat} : upN f k v k = v := if_pos rfl
theorem upN_n {f : Nat → Nat} {k v j : Nat} (h : j ≠ k) : upN f k v j = f j := if_neg h
def mendT (s : Sg) (m : Mo) (k : Nat) : Nat := min 99 (mTruth m k + learnsS s m k)
def mendS (s : Sg) (m : Mo) (k : Nat) : Mo := (upN (mTruth m) k (mendT s m k), mPretty m, (if 60 ≤ mendT s m k then mSet m ||| 2 ^ k else mSet m), mNight m, mScore m, mSeed m)
def trimS (_ : Sg) (m : Mo) (k : Nat) : Mo := (upN (mTruth m) k (mTruth m k - 10), upN (mPretty m) k (min 9 (mPretty m k + 1)), mSet m, mNight m, mScore m, mSeed m)
def doM (s : Sg) (m : Mo) (act : Nat) : Nat × Mo :=
  if act = 0 then (0, m) else if sN s < act then (0, m) else if (mSet m).testBit (act - 1) then (0, m)
  else if willS s m (act - 1) = 0 then (learnsS s m (act - 1), mendS s m (act - 1)) else if willS s m (act - 1) = 2 then (2 * (houseS s (mNight m) % 4), trimS s m (act - 1)) else (0, m)
def drawnS (s : Sg) (m : Mo) : Nat → Nat
  | 0 => 0
  | i + 1 => drawnS s m i + drawsS s m i
def fadeT (m : Mo) : Nat → Nat := fun i => if (mSet m).testBit i then mTruth m i else mTruth m i - 1
def goW (s : Sg) (m : Mo) (act : Nat) : Nat := (doM s m act).1 + drawnS s (doM s m act).2 (sN s)
def goM (s : Sg) (m : Mo) (act : Nat) : Mo := (fadeT (doM s m act).2, mPretty (doM s m act).2, mSet (doM s m act).2, mNight (doM s m act).2 + 1, mScore (doM s m act).2 + nI (goW s m act), mSeed (doM s m act).2)
theorem MoAt.ext {h : Hp} {a : Nat} {s : Sg} {m m' : Mo} (q : MoAt h a s m) (ht : ∀ k, k < sN s → mTruth m' k = mTruth m k ∧ mPretty m' k = mPretty m k) (h2 : mSet m' = mSet m) (h3 : mNight m' = mNight m) (h4 : mScore m' = mScore m) (h5 : mSeed m' = mSeed m) : MoAt h a s m' := by
  unfold MoAt at q ⊢
  rw [h2, h3, h4, h5]
  exact ⟨fun k hk => by rw [(ht k hk).1, (ht k hk).2]; exact q.1 k hk, q.2⟩
theorem set_or : ∀ s, s < 64 → ∀ k, k < 6 → nI s ||| ((1 : Int32) <<< (nI k &&& 31)) = nI (s ||| 2 ^ k) := by decide +kernel
theorem minc {a c : Nat} (ha : a < 2 ^ 31) (hc : c < 2 ^ 31) : (if nI a < nI c then nI a else nI c) = nI (min c a) := by
  by_cases h : a < c
  · rw [if_pos ((nI_ltI ha hc).mpr h), Nat.min_eq_right (Nat.le_of_lt h)]
  · rw [if_neg (fun q => h ((nI_ltI ha hc).mp q)), Nat.min_eq_left (Nat.not_lt.mp h)]
theorem MoOk.set {s : Sg} {m : Mo} (so : SgOk s) (mo : MoOk s m) : mSet m < 64 := Nat.lt_of_lt_of_le mo.2.1 (Nat.pow_le_pow_right (by decide) so.1)
theorem mendOk {s : Sg} {m : Mo} {k : Nat} (mo : MoOk s m) (hk : k < sN s) : MoOk s (mendS s m k) := by
  refine ⟨fun j hj => ⟨?_, (mo.1 j hj).2⟩, ?_, mo.2.2⟩
  · show upN (mTruth m) k (mendT s m k) j ≤ 99
    by_cases e : j = k
    · rw [e, upN_s]
      exact Nat.min_le_left _ _
    · rw [upN_n e]
      exact (mo.1 j hj).1
  · show (if 60 ≤ mendT s m k then mSet m ||| 2 ^ k else mSet m) < 2 ^ sN s
    split
    · exact Nat.or_lt_two_pow mo.2.1 (Nat.pow_lt_pow_right (by decide) hk)
    · exact mo.2.1
theorem trimOk {s : Sg} {m : Mo} {k : Nat} (mo : MoOk s m) : MoOk s (trimS s m k) := by
  refine ⟨fun j hj => ⟨?_, ?_⟩, mo.2.1, mo.2.2⟩
  · show upN (mTruth m) k (mTruth m k - 10) j ≤ 99
    by_cases e : j = k
    · rw [e, upN_s]
      have := (mo.1 j hj).1
      rw [e] at this
      omega
    · rw [upN_n e]
      exact (mo.1 j hj).1
  · show upN (mPretty m) k (min 9 (mPretty m k + 1)) j ≤ 9
    by_cases e : j = k
    · rw [e, upN_s]
      exact Nat.min_le_left _ _
    · rw [upN_n e]
      exact (mo.1 j hj).2
theorem doOk {s : Sg} {m : Mo} {act : Nat} (mo : MoOk s m) : MoOk s (doM s m act).2 ∧ mNight (doM s m act).2 = mNight m ∧ mScore (doM s m act).2 = mScore m ∧ mSeed (doM s m act).2 = mSeed m := by
  unfold doM
  split
  · exact ⟨mo, rfl, rfl, rfl⟩
  split
  · exact ⟨mo, rfl, rfl, rfl⟩
  split
  · exact ⟨mo, rfl, rfl, rfl⟩
  split
  · exact ⟨mendOk mo (by omega), rfl, rfl, rfl⟩
  split
  · exact ⟨trimOk mo, rfl, rfl, rfl⟩
  · exact ⟨mo, rfl, rfl, rfl⟩
theorem goOk {s : Sg} {m : Mo} {act : Nat} (mo : MoOk s m) (hn : mNight m < 16) : MoOk s (goM s m act) := by
  obtain ⟨h1, h2, -⟩ := doOk (act := act) mo
  refine ⟨fun j hj => ⟨?_, (h1.1 j hj).2⟩, h1.2.1, ?_⟩
  · show fadeT (doM s m act).2 j ≤ 99
    unfold fadeT
    have := (h1.1 j hj).1
    split <;> omega
  · show mNight (doM s m act).2 + 1 ≤ 16
    omega
theorem learnsS_le {s : Sg} {m : Mo} {k : Nat} (so : SgOk s) (mo : MoOk s m) (hk : k < sN s) : learnsS s m k ≤ 63 := by
  have hr : railS s (mNight m) ≤ 3 := by
    have := houseS_le so (mNight m)
    unfold railS
    omega
  have l1 := learnsK_le (k := sKind s k) (n := mNight m) hr (mo.1 k hk).1
  have l2 := leansS_le s m k (sN s)
  have := so.1
  unfold learnsS
  omega
theorem drawsS_le {s : Sg} {m : Mo} {k : Nat} (so : SgOk s) (mo : MoOk s m) (hk : k < sN s) : drawsS s m k ≤ 65 := by
  have := so.1
  have l1 := drawsK_le (k := sKind s k) (t := mTruth m k) (n := k) (mo.1 k hk).2 (by omega)
  have l2 := (so.2.2.2.1 (sPlace s k) (by have := (so.2.1 k hk).2.2; omega)).1
  unfold drawsS
  omega
set_option maxRecDepth 100000 in
/-- mayBeMended -/
theorem c_23 {h : Hp} {a k : Nat} {s : Sg} {m : Mo} (hid : MoId a) (so : SgOk s) (mo : MoOk s m) (hs : SF h s) (hm : MoAt h a s m) (hk : k < sN s) : CI 4 23 [.ref 1, .ref a, .int (nI k)] h (fun x h' => Same [12] h h' ∧ x = bI (mayS s m k)) := by
  refine C.of mo_23 (Nat.le_of_ble_eq_true rfl) (fun X hq => ?_)
  have hn := so.1
  have ll := learnsS_le so mo hk
  refine k_23_0 hid.1 (by decide) (c_15 hid.1 hm.2.1 (mo.set so) (by omega)) ?_
  rintro x h' ⟨rfl, ⟨rfl, p1⟩ | ⟨rfl, p1⟩⟩
  · refine k_23_5 (fun _ => k_23_30 (hq _ _ ⟨_, rfl, Same.rf, ?_⟩)) (fun q => absurd q (by decide))
    unfold mayS
    rw [p1]
    rfl
  · refine k_23_5 (fun q => absurd rfl q) (fun _ => ?_)
    refine k_23_8 (by decide) (c_16 hid so mo hs.1 hm hk) ?_
    rintro x h' ⟨rfl, rfl⟩
    refine k_23_14 (fun c => ?_) (fun c => ?_)
    · have c0 : learnsS s m k ≤ 0 := (nI_leI (b := 0) (by omega) (by decide)).mp c
      refine k_23_30 (hq _ _ ⟨_, rfl, Same.rf, ?_⟩)
      unfold mayS
      rw [p1, show decide (0 < learnsS s m k) = false by simp; omega]
      rfl
    · have c0 : 0 < learnsS s m k := Nat.not_le.mp (fun q => c (nI_le (b := 0) q (by decide)))
      refine k_23_17 (by decide) (c_24 hid so mo hs hm hk) ?_
      rintro x h2 ⟨s2, rfl⟩
      have hw2 : willS s m k ≤ 2 := willR_le (fun i q hq => by
        obtain ⟨-, -, b, Ls, -, hrow⟩ := hs.2
        exact (hrow i q hq).2.2.2.1)
      refine k_23_23 (fun c => ?_) (fun c => ?_)
      · refine k_23_30 (hq _ _ ⟨_, rfl, s2, ?_⟩)
        unfold mayS
        rw [p1, show decide (0 < learnsS s m k) = true by simp; omega, show decide (willS s m k = 0) = false by simp; exact fun q => c (by rw [q]; rfl)]
        rfl
      · have cw : willS s m k = 0 := (nI_eq (b := 0) (by omega) (by decide)).mp c
        refine k_23_26 (hq _ _ ⟨_, rfl, s2, ?_⟩)
        unfold mayS
        rw [p1, show decide (0 < learnsS s m k) = true by simp; omega, cw]
        rfl
set_option maxRecDepth 100000 in
/-- actOfRest -/
theorem c_80 {h : Hp} {a : Nat} {s : Sg} {m : Mo} (hid : MoId a) (so : SgOk s) (mo : MoOk s m) (hs : SF h s) (hm : MoAt h a s m) : CI 5 80 [.ref 1, .ref a] h (fun x h' => Same [12] h h' ∧ x = nI (actS s m)) := by
  refine C.of mo_80 (Nat.le_of_ble_eq_true rfl) (fun X hq => ?_)
  have hn := so.1
  have h7 := hid.m7
  refine k_80_0 ?_
  have loop : ∀ j i : Nat, i + j = sN s → actS s m = actF s m j i → ∀ H, Same [12] h H → G X 5 80 2 [some (.ref 1), some (.ref a), some (.int (nI i))] [] H := by
    intro j
    induction j with
    | zero =>
      intro i e ea H sH
      have hs2 := hs.same sH (by simp)
      refine k_80_2 (fun c => k_80_29 (hq _ _ ⟨_, rfl, sH, ?_⟩)) (fun c => absurd (by rw [hs2.1.1]; exact nI_le (by omega) (by omega)) c)
      rw [ea]
      rfl
    | succ j ih =>
      intro i e ea H sH
      have hs2 := hs.same sH (by simp)
      have hm2 : MoAt H a s m := hm.congr (sH _ (by simp; omega)) (sH _ (by simp; omega)) (sH _ (by simp; omega))
      refine k_80_2 (fun c => absurd c (by rw [hs2.1.1]; exact nI_ge (by omega) (by omega))) (fun _ => ?_)
      refine k_80_10 (by decide) (c_23 hid so mo hs2 hm2 (by omega)) ?_
      rintro x h2 ⟨s2, rfl⟩
      cases hy : mayS s m i with
      | false =>
        refine k_80_16 (fun _ => k_80_23 ?_) (fun q => absurd rfl q)
        rw [nI_1]
        refine ih (i + 1) (by omega) ?_ h2 (sH.tr s2)
        rw [ea, show actF s m (j + 1) i = if mayS s m i then i + 1 else actF s m j (i + 1) from rfl, hy]
        rfl
      | true =>
        refine k_80_16 (fun q => absurd q (by decide)) (fun _ => k_80_19 (hq _ _ ⟨_, rfl, sH.tr s2, ?_⟩))
        rw [ea, show actF s m (j + 1) i = if mayS s m i then i + 1 else actF s m j (i + 1) from rfl, hy, nI_1]
        rfl
  exact loop (sN s) 0 (by omega) rfl h Same.rf
set_option maxRecDepth 100000 in
/-- mend -/
theorem c_82 {h : Hp} {a k : Nat} {s : Sg} {m : Mo} (hid : MoId a) (so : SgOk s) (mo : MoOk s m) (hs : SF h s) (hm : MoAt h a s m) (hk : k < sN s) : CI 3 82 [.ref 1, .ref a, .int (nI k)] h (fun x h' => Same [a, a + 1] h h' ∧ MoAt h' a s (mendS s m k) ∧ x = nI (learnsS s m k)) := by
  refine C.of mo_82 (Nat.le_of_ble_eq_true rfl) (fun X hq => ?_)
  have hn := so.1
  have ll := learnsS_le so mo hk
  have htr := (mo.1 k hk).1
  refine k_82_0 (by decide) (c_16 hid so mo hs.1 hm hk) ?_
  rintro x h' ⟨rfl, rfl⟩
  obtain ⟨H, hH⟩ : ∃ H, H = wr h' (a + 1) k (nI (mendT s m k)) := ⟨_, rfl⟩
  have eH : wr h' (a + 1) (Int32.toNatClampNeg (nI k)) (if h' (a + 1) (Int32.toNatClampNeg (nI k)) + nI (learnsS s m k) < 99 then h' (a + 1) (Int32.toNatClampNeg (nI k)) + nI (learnsS s m k) else 99) = H := by
    rw [hH, nc (by omega), (hm.1 k hk).1, nI_add]
    exact congrArg _ (minc (c := 99) (by omega) (by decide))
  have sH : Same [a, a + 1] h' H := by rw [hH]; exact Same.rf.wr (by simp)
  have hmt : mendT s m k ≤ 99 := Nat.min_le_left _ _
  have hT : ∀ j, j < sN s → H (a + 1) j = nI (upN (mTruth m) k (mendT s m k) j) := by
    intro j hj
    rw [hH]
    by_cases e : j = k
    · rw [e, wr_self, upN_s]
    · rw [wr_k e, upN_n e, (hm.1 j hj).1]
  have e0 : H a = h' a := by rw [hH]; exact wr_c (by omega)
  have e2 : H (a + 2) = h' (a + 2) := by rw [hH]; exact wr_c (by omega)
  have ek : H (a + 1) (Int32.toNatClampNeg (nI k)) = nI (mendT s m k) := by rw [nc (by omega), hH, wr_self]
  refine k_82_6 hid.1 (IA.of hid.2.1 (by omega) (by decide)) (by decide) ?_ ?_
  · rw [eH, ek]
    intro c
    have c0 : ¬ 60 ≤ mendT s m k := Nat.not_le.mpr ((nI_ltI (b := 60) (by omega) (by decide)).mp c)
    refine k_82_49 (hq _ _ ⟨_, rfl, sH, ?_, rfl⟩)
    refine ⟨fun j hj => ⟨hT j hj, by rw [e2]; exact (hm.1 j hj).2⟩, ?_, by rw [e0]; exact hm.2.2.1, by rw [e0]; exact hm.2.2.2.1, by rw [e0]; exact hm.2.2.2.2⟩
    rw [e0, hm.2.1]
    show nI (mSet m) = nI (if 60 ≤ mendT s m k then mSet m ||| 2 ^ k else mSet m)
    rw [if_neg c0]
  · rw [eH, ek]
    intro c
    have c0 : 60 ≤ mendT s m k := Nat.not_lt.mp (fun q => c ((nI_ltI (b := 60) (by omega) (by decide)).mpr q))
    refine k_82_37 hid.1 (hq _ _ ⟨_, rfl, sH.wr (by simp), ?_, rfl⟩)
    have r1 : wr H a 2 (H a 2 ||| ((1 : Int32) <<< (nI k &&& 31))) (a + 1) = H (a + 1) := wr_c (by omega)
    have r2 : wr H a 2 (H a 2 ||| ((1 : Int32) <<< (nI k &&& 31))) (a + 2) = H (a + 2) := wr_c (by omega)
    refine ⟨fun j hj => ⟨by rw [r1]; exact hT j hj, by rw [r2, e2]; exact (hm.1 j hj).2⟩, ?_, by rw [wr_k (by decide), e0]; exact hm.2.2.1, by rw [wr_k (by decide), e0]; exact hm.2.2.2.1, by rw [wr_k (by decide), e0]; exact hm.2.2.2.2⟩
    rw [wr_self, e0, hm.2.1, set_or _ (mo.set so) k (by omega)]
    show nI (mSet m ||| 2 ^ k) = nI (if 60 ≤ mendT s m k then mSet m ||| 2 ^ k else mSet m)
    rw [if_pos c0]
set_option maxRecDepth 100000 in
/-- trim -/
theorem c_84 {h : Hp} {a k : Nat} {s : Sg} {m : Mo} (hid : MoId a) (so : SgOk s) (mo : MoOk s m) (hs : SF h s) (hm : MoAt h a s m) (hk : k < sN s) : CI 1 84 [.ref 1, .ref a, .int (nI k)] h (fun x h' => Same [a + 1, a + 2] h h' ∧ MoAt h' a s (trimS s m k) ∧ x = nI (2 * (houseS s (mNight m) % 4))) := by
  refine C.of mo_84 (Nat.le_of_ble_eq_true rfl) (fun X hq => ?_)
  have hn := so.1
  have h7 := hid.m7
  have htr := mo.1 k hk
  obtain ⟨H, hH⟩ : ∃ H, H = wr (wr h (a + 2) k (nI (min 9 (mPretty m k + 1)))) (a + 1) k (nI (mTruth m k - 10)) := ⟨_, rfl⟩
  have p1 : wr h (a + 2) (Int32.toNatClampNeg (nI k)) (if h (a + 2) (Int32.toNatClampNeg (nI k)) + 1 < 9 then h (a + 2) (Int32.toNatClampNeg (nI k)) + 1 else 9) = wr h (a + 2) k (nI (min 9 (mPretty m k + 1))) := by
    rw [nc (by omega), (hm.1 k hk).2, nI_1]
    exact congrArg _ (minc (c := 9) (by omega) (by decide))
  have p2 : wr h (a + 2) k (nI (min 9 (mPretty m k + 1))) (a + 1) (Int32.toNatClampNeg (nI k)) = nI (mTruth m k) := by rw [nc (by omega), wr_c (by omega), (hm.1 k hk).1]
  have p3 : (if (0 : Int32) < nI (mTruth m k) - 10 then nI (mTruth m k) - 10 else 0) = nI (mTruth m k - 10) := maxsub (b := 10) (by omega) (by decide)
  have sH : Same [a + 1, a + 2] h H := by rw [hH]; exact (Same.rf.wr (by simp)).wr (by simp)
  have hs2 : SF H s := hs.same sH (by simp; omega)
  have hC := c_39 so hs2.1 mo.2.2
  have e3 : H a 3 = nI (mNight m) := by rw [sH a (by simp), hm.2.2.1]
  rw [← e3] at hC
  have eH : wr (wr h (a + 2) (Int32.toNatClampNeg (nI k)) (if h (a + 2) (Int32.toNatClampNeg (nI k)) + 1 < 9 then h (a + 2) (Int32.toNatClampNeg (nI k)) + 1 else 9)) (a + 1) (Int32.toNatClampNeg (nI k)) (if 0 < wr h (a + 2) (Int32.toNatClampNeg (nI k)) (if h (a + 2) (Int32.toNatClampNeg (nI k)) + 1 < 9 then h (a + 2) (Int32.toNatClampNeg (nI k)) + 1 else 9) (a + 1) (Int32.toNatClampNeg (nI k)) - 10 then wr h (a + 2) (Int32.toNatClampNeg (nI k)) (if h (a + 2) (Int32.toNatClampNeg (nI k)) + 1 < 9 then h (a + 2) (Int32.toNatClampNeg (nI k)) + 1 else 9) (a + 1) (Int32.toNatClampNeg (nI k)) - 10 else 0) = H := by
    rw [p1, p2, p3, nc (by omega), hH]
  refine k_84_0 hid.1 (IA.of hid.2.2 (by omega) (by decide)) (by decide) (IA.of hid.2.1 (by omega) (by decide)) (d' := 0) (by decide) (by rw [eH]; exact hC) ?_
  rintro x h' ⟨rfl, rfl⟩
  have hh := houseS_le so (mNight m)
  refine k_84_47 (hq _ _ ⟨_, rfl, sH, ?_, ?_⟩)
  · have e0 : h' a = h a := sH a (by simp)
    refine ⟨fun j hj => ⟨?_, ?_⟩, by rw [e0]; exact hm.2.1, by rw [e0]; exact hm.2.2.1, by rw [e0]; exact hm.2.2.2.1, by rw [e0]; exact hm.2.2.2.2⟩
    · show h' (a + 1) j = nI (upN (mTruth m) k (mTruth m k - 10) j)
      rw [hH]
      by_cases e : j = k
      · rw [e, wr_self, upN_s]
      · rw [wr_k e, wr_k e, upN_n e, (hm.1 j hj).1]
    · show h' (a + 2) j = nI (upN (mPretty m) k (min 9 (mPretty m k + 1)) j)
      rw [hH, wr_c (by omega)]
      by_cases e : j = k
      · rw [e, wr_self, upN_s]
      · rw [wr_k e, upN_n e, (hm.1 j hj).2]
  · rw [show nI (houseS s (mNight m)) - nI (houseS s (mNight m)) / 4 * 4 = nI (houseS s (mNight m) % 4) from pk_rem (d := 4) (by omega) (by decide) (by decide)]
    exact pk_mul 2 _
