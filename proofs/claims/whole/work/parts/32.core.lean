/-! part 32: numbers; learns, draws of the class -/
theorem sub_le0 {a b : Nat} (ha : a < 2 ^ 30) (hb : b < 2 ^ 30) (h : a ≤ b) : ¬ (0 : Int32) < nI a - nI b := by
  rw [Int32.lt_iff_toInt_lt, pk_sub_toInt ha hb]
  show ¬ (0 : Int) < _
  omega
theorem sub_gt0 {a b : Nat} (ha : a < 2 ^ 30) (h : b < a) : (0 : Int32) < nI a - nI b := by
  rw [pk_sub (Nat.le_of_lt h)]
  exact nI_lt (a := 0) (by omega) (by omega)
theorem maxsub {a b : Nat} (ha : a < 2 ^ 30) (hb : b < 2 ^ 30) : (if (0 : Int32) < nI a - nI b then nI a - nI b else 0) = nI (a - b) := by
  rcases Nat.lt_or_ge b a with h | h
  · rw [if_pos (sub_gt0 ha h), pk_sub (Nat.le_of_lt h)]
  · rw [if_neg (sub_le0 ha hb h), show a - b = 0 by omega]
    rfl
theorem F18 {k r t n : Nat} (hk : 1 ≤ k) (hk5 : k ≤ 5) (hr : r ≤ 3) (ht : t ≤ 99) (hn : n ≤ 16) : F_18 (nI k) (nI r) (nI t) (nI n) = nI (learnsK k r t n) := by
  have a1 : (8 : Int32) * nI r = nI (8 * r) := pk_mul 8 r
  have a2 : (5 : Int32) * nI r + 4 = nI (5 * r + 4) := by
    rw [show (5 : Int32) * nI r = nI (5 * r) from pk_mul 5 r]
    exact nI_add (5 * r) 4
  have a3 : nI t / 10 = nI (t / 10) := pk_div (d := 10) (by omega) (by decide) (by decide)
  have a4 : nI (8 * r) / 2 = nI (4 * r) := by
    rw [show nI (8 * r) / 2 = nI (8 * r / 2) from pk_div (d := 2) (by omega) (by decide) (by decide), show 8 * r / 2 = 4 * r by omega]
  have a5 : ∀ x, x < 2 ^ 30 → (if (0 : Int32) < nI x - 3 then nI x - 3 else 0) = nI (x - 3) := fun x hx => maxsub (b := 3) hx (by decide)
  have a6 : nI n - nI n / 2 * 2 = nI (n % 2) := pk_rem (d := 2) (by omega) (by decide) (by decide)
  have ec : (nI t ≤ 40) ↔ t ≤ 40 := nI_leI (b := 40) (by omega) (by decide)
  have e6 : (nI (n % 2) = 1) ↔ n % 2 = 1 := nI_eq (b := 1) (by omega) (by decide)
  have k1 : (nI k = 1) ↔ k = 1 := nI_eq (b := 1) (by omega) (by decide)
  have k2 : (nI k = 2) ↔ k = 2 := nI_eq (b := 2) (by omega) (by decide)
  have k3 : (nI k = 3) ↔ k = 3 := nI_eq (b := 3) (by omega) (by decide)
  have k4 : (nI k = 4) ↔ k = 4 := nI_eq (b := 4) (by omega) (by decide)
  have k5 : (nI k = 5) ↔ k = 5 := nI_eq (b := 5) (by omega) (by decide)
  unfold F_18 learnsK
  simp only [a1, a2, a3, a4, a6, ec, e6, k1, k2, k3, k4, k5, a5 (8 * r) (by omega), a5 (4 * r) (by omega), nI_add]
  rcases (show k = 1 ∨ k = 2 ∨ k = 3 ∨ k = 4 ∨ k = 5 by omega) with rfl | rfl | rfl | rfl | rfl <;> by_cases h4 : t ≤ 40 <;> by_cases h5 : n % 2 = 1 <;> simp [h4, h5] <;> rfl
theorem F22 {k p t n : Nat} (hk : 1 ≤ k) (hk5 : k ≤ 5) (hp : p ≤ 9) (ht : t ≤ 99) (hn : n ≤ 6) : F_22 (nI k) (nI p) (nI t) (nI n) = nI (drawsK k p t n) := by
  have a1 : (10 : Int32) + nI p = nI (10 + p) := nI_add 10 p
  have a3 : nI t / 9 = nI (t / 9) := pk_div (d := 9) (by omega) (by decide) (by decide)
  have a5 : (if (0 : Int32) < nI (10 + p) - nI (t / 9) then nI (10 + p) - nI (t / 9) else 0) = nI (10 + p - t / 9) := maxsub (by omega) (by omega)
  have a6 : ∀ x, (2 : Int32) * nI x = nI (2 * x) := fun x => pk_mul 2 x
  have a7 : nI (10 + p - t / 9) / 2 = nI ((10 + p - t / 9) / 2) := pk_div (d := 2) (by omega) (by decide) (by decide)
  have k1 : (nI k = 1) ↔ k = 1 := nI_eq (b := 1) (by omega) (by decide)
  have k2 : (nI k = 2) ↔ k = 2 := nI_eq (b := 2) (by omega) (by decide)
  have k3 : (nI k = 3) ↔ k = 3 := nI_eq (b := 3) (by omega) (by decide)
  have k4 : (nI k = 4) ↔ k = 4 := nI_eq (b := 4) (by omega) (by decide)
  have k5 : (nI k = 5) ↔ k = 5 := nI_eq (b := 5) (by omega) (by decide)
  unfold F_22 drawsK
  simp only [a1, a3, a5, k1, k2, k3, k4, k5, nI_add, a6, a7]
  rcases (show k = 1 ∨ k = 2 ∨ k = 3 ∨ k = 4 ∨ k = 5 by omega) with rfl | rfl | rfl | rfl | rfl <;> simp <;> rfl
theorem houseS_le {s : Sg} (so : SgOk s) (t : Nat) : houseS s t ≤ 15 := by
  unfold houseS
  by_cases h : t < 16
  · rw [if_pos h]; exact so.2.2.1 t h
  · rw [if_neg h]; omega
theorem leansS_le (s : Sg) (m : Mo) (k : Nat) : ∀ n, leansS s m k n ≤ n
  | 0 => Nat.le_refl 0
  | n + 1 => by
    have := leansS_le s m k n
    unfold leansS
    split <;> omega
theorem learnsK_le {k r t n : Nat} (hr : r ≤ 3) (ht : t ≤ 99) : learnsK k r t n ≤ 33 := by
  unfold learnsK
  dsimp only
  repeat' split
  all_goals omega
theorem drawsK_le {k p t n : Nat} (hp : p ≤ 9) (hn : n ≤ 6) : drawsK k p t n ≤ 56 := by
  unfold drawsK
  dsimp only
  repeat' split
  all_goals omega
set_option maxRecDepth 100000 in
/-- railOf -/
theorem c_17 {h : Hp} {t : Nat} {s : Sg} (so : SgOk s) (hs : SgAt h s) (ht : t ≤ 16) : CI 0 17 [.ref 1, .int (nI t)] h (fun x h' => h' = h ∧ x = nI (railS s t)) := by
  refine C.of mo_17 (Nat.le_of_ble_eq_true rfl) (fun X hq => ?_)
  refine k_17_0 (fun c => absurd c (nI_pos (by omega))) (fun _ => ?_)
  refine k_17_4 (fun c => ?_) (fun c => ?_)
  · have : 16 ≤ t := (nI_leI (a := 16) (by decide) (by omega)).mp c
    refine k_17_21 (hq _ _ ⟨_, rfl, rfl, ?_⟩)
    unfold railS houseS
    rw [if_neg (by omega)]
    rfl
  · have h1 : t < 16 := Nat.not_le.mp (fun q => c ((nI_leI (a := 16) (by decide) (by omega)).mpr q))
    refine k_17_10 (IA.of rfl h1 (by decide)) (hq _ _ ⟨_, rfl, rfl, ?_⟩)
    have := so.2.2.1 t h1
    rw [nc (by omega), hs.2.2.1 t h1]
    unfold railS houseS
    rw [if_pos h1]
    exact pk_div (d := 4) (by omega) (by decide) (by decide)
set_option maxRecDepth 100000 in
/-- houseOf -/
theorem c_39 {h : Hp} {t : Nat} {s : Sg} (so : SgOk s) (hs : SgAt h s) (ht : t ≤ 16) : CI 0 39 [.ref 1, .int (nI t)] h (fun x h' => h' = h ∧ x = nI (houseS s t)) := by
  refine C.of mo_39 (Nat.le_of_ble_eq_true rfl) (fun X hq => ?_)
  refine k_39_0 (fun c => absurd c (nI_pos (by omega))) (fun _ => ?_)
  refine k_39_4 (fun c => ?_) (fun c => ?_)
  · have : 16 ≤ t := (nI_leI (a := 16) (by decide) (by omega)).mp c
    refine k_39_19 (hq _ _ ⟨_, rfl, rfl, ?_⟩)
    unfold houseS
    rw [if_neg (by omega)]
    rfl
  · have h1 : t < 16 := Nat.not_le.mp (fun q => c ((nI_leI (a := 16) (by decide) (by omega)).mpr q))
    refine k_39_10 (IA.of rfl h1 (by decide)) (hq _ _ ⟨_, rfl, rfl, ?_⟩)
    rw [nc (by omega), hs.2.2.1 t h1]
    unfold houseS
    rw [if_pos h1]
set_option maxRecDepth 100000 in
/-- learns -/
theorem c_16 {h : Hp} {a k : Nat} {s : Sg} {m : Mo} (hid : MoId a) (so : SgOk s) (mo : MoOk s m) (hs : SgAt h s) (hm : MoAt h a s m) (hk : k < sN s) : CI 2 16 [.ref 1, .ref a, .int (nI k)] h (fun x h' => h' = h ∧ x = nI (learnsS s m k)) := by
  refine C.of mo_16 (Nat.le_of_ble_eq_true rfl) (fun X hq => ?_)
  have hn := so.1
  have hkd := so.2.1 k hk
  have hpl := so.2.2.2.1 (sPlace s k) (by omega)
  have htr := mo.1 k hk
  have hr : railS s (mNight m) ≤ 3 := by
    have := houseS_le so (mNight m)
    unfold railS
    omega
  have hC := c_17 so hs mo.2.2
  rw [← hm.2.2.1] at hC
  refine k_16_0 (IA.of rfl (by omega) (by decide)) hid.1 (by decide) hC ?_
  rintro x h' ⟨rfl, rfl⟩
  refine k_16_14 hid.1 (IA.of hid.2.1 (by omega) (by decide)) (by decide) c_18 ?_
  rintro x h' ⟨rfl, rfl⟩
  rw [nc (by omega), (hs.2.1 k hk).1, (hm.1 k hk).1, hm.2.2.1, F18 hkd.1 hkd.2.1 hr htr.1 mo.2.2]
  refine k_16_27 (by decide) (c_20 hid so mo hs hm hk) ?_
  rintro x h' ⟨rfl, rfl⟩
  have e1 := (hs.2.1 k hk).2
  have e2 := (hs.2.2.2.1 (sPlace s k) (by omega)).2
  refine k_16_37 (IA.of rfl (by omega) (by decide)) ?_ (by decide) (hq _ _ ⟨_, rfl, rfl, ?_⟩)
  · rw [nc (by omega), e1]
    exact IA.of rfl (by omega) (by decide)
  · rw [nc (by omega), e1, nc (by omega), e2]
    have l1 := learnsK_le (k := sKind s k) (n := mNight m) hr htr.1
    have l2 := leansS_le s m k (sN s)
    rw [show (5 : Int32) * nI (leansS s m k (sN s)) = nI (5 * leansS s m k (sN s)) from pk_mul 5 _, nI_add]
    exact maxsub (by omega) (by omega)
set_option maxRecDepth 100000 in
/-- draws -/
theorem c_21 {h : Hp} {a k : Nat} {s : Sg} {m : Mo} (hid : MoId a) (so : SgOk s) (mo : MoOk s m) (hs : SgAt h s) (hm : MoAt h a s m) (hk : k < sN s) : CI 2 21 [.ref 1, .ref a, .int (nI k)] h (fun x h' => h' = h ∧ x = nI (drawsS s m k)) := by
  refine C.of mo_21 (Nat.le_of_ble_eq_true rfl) (fun X hq => ?_)
  have hn := so.1
  have hkd := so.2.1 k hk
  have htr := mo.1 k hk
  refine k_21_0 (IA.of rfl (by omega) (by decide)) hid.1 (IA.of hid.2.2 (by omega) (by decide)) (IA.of hid.2.1 (by omega) (by decide)) (by decide) c_22 ?_
  rintro x h' ⟨rfl, rfl⟩
  rw [nc (by omega), (hs.2.1 k hk).1, (hm.1 k hk).1, (hm.1 k hk).2, F22 hkd.1 hkd.2.1 htr.2 htr.1 (by omega)]
  have e1 := (hs.2.1 k hk).2
  have e2 := (hs.2.2.2.1 (sPlace s k) (by omega)).1
  refine k_21_22 (IA.of rfl (by omega) (by decide)) ?_ (hq _ _ ⟨_, rfl, rfl, ?_⟩)
  · rw [nc (by omega), e1]
    exact IA.of rfl (by omega) (by decide)
  · rw [nc (by omega), e1, nc (by omega), e2]
    exact nI_add _ _
