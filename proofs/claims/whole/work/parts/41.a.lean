/-! part 41.a: by program (wip/whole/sem.py) -/
/-! 11 PlayedTruth.isIn(III)Z -/
noncomputable def R_11_14 (h : Hp) : Option (Int32 × Hp) := some (0, h)
theorem r_11_14 {X : GX} {d : Nat} {r : Int32 × Hp} (hd : 1 ≤ d) (hq : RtX X (some (.int r.1)) r.2) {h : Hp} (e : R_11_14 h = some r) : G X d 11 14 [none, none, none] [] h := by
  unfold R_11_14 at e
  rw [← Option.some.inj e] at hq
  exact k_11_14 hq
noncomputable def R_11_10 (h : Hp) : Option (Int32 × Hp) := some (1, h)
theorem r_11_10 {X : GX} {d : Nat} {r : Int32 × Hp} (hd : 1 ≤ d) (hq : RtX X (some (.int r.1)) r.2) {h : Hp} (e : R_11_10 h = some r) : G X d 11 10 [none, none, none] [] h := by
  unfold R_11_10 at e
  rw [← Option.some.inj e] at hq
  exact k_11_10 hq
noncomputable def R_11_5 (v0 : Int32) (v2 : Int32) (h : Hp) : Option (Int32 × Hp) := if v2 < v0 then R_11_14 h else R_11_10 h
theorem r_11_5 {X : GX} {d : Nat} {r : Int32 × Hp} (hd : 1 ≤ d) (hq : RtX X (some (.int r.1)) r.2) {h : Hp} {v0 : Int32} {v2 : Int32} (e : R_11_5 v0 v2 h = some r) : G X d 11 5 [some (.int v0), none, some (.int v2)] [] h := by
  unfold R_11_5 at e
  refine k_11_5 (fun c => ?_) (fun c => ?_)
  · rw [if_pos c] at e; exact r_11_14 hd hq e
  · rw [if_neg c] at e; exact r_11_10 hd hq e
noncomputable def R_11_0 (v0 : Int32) (v1 : Int32) (v2 : Int32) (h : Hp) : Option (Int32 × Hp) := if v0 < v1 then R_11_14 h else R_11_5 v0 v2 h
theorem r_11_0 {X : GX} {d : Nat} {r : Int32 × Hp} (hd : 1 ≤ d) (hq : RtX X (some (.int r.1)) r.2) {h : Hp} {v0 : Int32} {v1 : Int32} {v2 : Int32} (e : R_11_0 v0 v1 v2 h = some r) : G X d 11 0 [some (.int v0), some (.int v1), some (.int v2)] [] h := by
  unfold R_11_0 at e
  refine k_11_0 (fun c => ?_) (fun c => ?_)
  · rw [if_pos c] at e; exact r_11_14 hd hq e
  · rw [if_neg c] at e; exact r_11_5 hd hq e
noncomputable def S_11 (v0 : Int32) (v1 : Int32) (v2 : Int32) (h : Hp) : Option (Int32 × Hp) := R_11_0 v0 v1 v2 h
set_option maxRecDepth 100000 in
theorem t_11 {v0 : Int32} {v1 : Int32} {v2 : Int32} {h : Hp} {r : Int32 × Hp} (e : S_11 v0 v1 v2 h = some r) : CI 1 11 [.int v0, .int v1, .int v2] h (fun x g => x = r.1 ∧ g = r.2) := by
  refine C.of mo_11 (Nat.le_of_ble_eq_true rfl) (fun X hq => ?_)
  exact r_11_0 (Nat.le_refl _) (hq _ _ ⟨_, rfl, rfl, rfl⟩) e
/-! 12 PlayedTruth.isPlace(I)Z -/
noncomputable def R_12_6 (s0 : Int32) (h : Hp) : Option (Int32 × Hp) := gd (s0 = 0 ∨ s0 = 1) (some (s0, h))
theorem r_12_6 {X : GX} {d : Nat} {r : Int32 × Hp} (hd : 2 ≤ d) (hq : RtX X (some (.int r.1)) r.2) {h : Hp} {s0 : Int32} (e : R_12_6 s0 h = some r) : G X d 12 6 [none] [.int s0] h := by
  unfold R_12_6 at e
  have g := gd_s e; clear e; obtain ⟨z0, e⟩ := g
  rw [← Option.some.inj e] at hq
  exact k_12_6 z0 hq
noncomputable def R_12_0 (v0 : Int32) (h : Hp) : Option (Int32 × Hp) := bndI (S_11 v0 0 5 h) (R_12_6)
theorem r_12_0 {X : GX} {d : Nat} {r : Int32 × Hp} (hd : 2 ≤ d) (hq : RtX X (some (.int r.1)) r.2) {h : Hp} {v0 : Int32} (e : R_12_0 v0 h = some r) : G X d 12 0 [some (.int v0)] [] h := by
  unfold R_12_0 at e
  obtain ⟨x, h2, e1, e2⟩ := bndI_s e
  refine k_12_0 (by omega) (t_11 e1) ?_
  rintro _ _ ⟨rfl, rfl⟩
  exact r_12_6 hd hq e2
noncomputable def S_12 (v0 : Int32) (h : Hp) : Option (Int32 × Hp) := R_12_0 v0 h
set_option maxRecDepth 100000 in
theorem t_12 {v0 : Int32} {h : Hp} {r : Int32 × Hp} (e : S_12 v0 h = some r) : CI 2 12 [.int v0] h (fun x g => x = r.1 ∧ g = r.2) := by
  refine C.of mo_12 (Nat.le_of_ble_eq_true rfl) (fun X hq => ?_)
  exact r_12_0 (Nat.le_refl _) (hq _ _ ⟨_, rfl, rfl, rfl⟩) e
/-! 10 PlayedTruth.scene(IIII)I -/
noncomputable def R_10_19 (h : Hp) : Option (Int32 × Hp) := some (((-1)), h)
theorem r_10_19 {X : GX} {d : Nat} {r : Int32 × Hp} (hd : 3 ≤ d) (hq : RtX X (some (.int r.1)) r.2) {h : Hp} (e : R_10_19 h = some r) : G X d 10 19 [none, none, none, none, none, none] [] h := by
  unfold R_10_19 at e
  rw [← Option.some.inj e] at hq
  exact k_10_19 hq
noncomputable def R_10_39 (h : Hp) : Option (Int32 × Hp) := some (((-1)), h)
theorem r_10_39 {X : GX} {d : Nat} {r : Int32 × Hp} (hd : 3 ≤ d) (hq : RtX X (some (.int r.1)) r.2) {h : Hp} (e : R_10_39 h = some r) : G X d 10 39 [none, none, none, none, none, none] [] h := by
  unfold R_10_39 at e
  rw [← Option.some.inj e] at hq
  exact k_10_39 hq
noncomputable def R_10_56 (v1 : Int32) (v2 : Int32) (v3 : Int32) (v4 : Int32) (h : Hp) : Option (Int32 × Hp) := gd (IA 2 (h 1 7) ∧ IA 3 (h 1 7) ∧ IA 14 (h 1 7) ∧ IA 15 (h 1 7)) (some ((h 1 7), (wr (wr (wr (wr (wr h 1 7 ((h 1 7) + 1)) 2 (Int32.toNatClampNeg (h 1 7)) v1) 3 (Int32.toNatClampNeg (h 1 7)) v4) 14 (Int32.toNatClampNeg (h 1 7)) v2) 15 (Int32.toNatClampNeg (h 1 7)) v3)))
theorem r_10_56 {X : GX} {d : Nat} {r : Int32 × Hp} (hd : 3 ≤ d) (hq : RtX X (some (.int r.1)) r.2) {h : Hp} {v1 : Int32} {v2 : Int32} {v3 : Int32} {v4 : Int32} (e : R_10_56 v1 v2 v3 v4 h = some r) : G X d 10 56 [some (.ref 0), some (.int v1), some (.int v2), some (.int v3), some (.int v4), none] [] h := by
  unfold R_10_56 at e
  have g := gd_s e; clear e; obtain ⟨⟨b0, b1, b2, b3⟩, e⟩ := g
  rw [← Option.some.inj e] at hq
  exact k_10_56 b0 b1 b2 b3 hq
noncomputable def R_10_53 (h : Hp) : Option (Int32 × Hp) := some (((-2)), h)
theorem r_10_53 {X : GX} {d : Nat} {r : Int32 × Hp} (hd : 3 ≤ d) (hq : RtX X (some (.int r.1)) r.2) {h : Hp} (e : R_10_53 h = some r) : G X d 10 53 [none, none, none, none, none, none] [] h := by
  unfold R_10_53 at e
  rw [← Option.some.inj e] at hq
  exact k_10_53 hq
noncomputable def R_10_41 (v1 : Int32) (v2 : Int32) (v3 : Int32) (v4 : Int32) (h : Hp) : Option (Int32 × Hp) := if (h 1 7) < 6 then R_10_56 v1 v2 v3 v4 h else R_10_53 h
theorem r_10_41 {X : GX} {d : Nat} {r : Int32 × Hp} (hd : 3 ≤ d) (hq : RtX X (some (.int r.1)) r.2) {h : Hp} {v1 : Int32} {v2 : Int32} {v3 : Int32} {v4 : Int32} (e : R_10_41 v1 v2 v3 v4 h = some r) : G X d 10 41 [some (.ref 0), some (.int v1), some (.int v2), some (.int v3), some (.int v4), none] [] h := by
  unfold R_10_41 at e
  refine k_10_41 (fun c => ?_) (fun c => ?_)
  · rw [if_pos c] at e; exact r_10_56 hd hq e
  · rw [if_neg c] at e; exact r_10_53 hd hq e
noncomputable def R_10_36 (v1 : Int32) (v2 : Int32) (v3 : Int32) (v4 : Int32) (s0 : Int32) (h : Hp) : Option (Int32 × Hp) := if s0 = 0 then R_10_39 h else R_10_41 v1 v2 v3 v4 h
theorem r_10_36 {X : GX} {d : Nat} {r : Int32 × Hp} (hd : 3 ≤ d) (hq : RtX X (some (.int r.1)) r.2) {h : Hp} {v1 : Int32} {v2 : Int32} {v3 : Int32} {v4 : Int32} {s0 : Int32} (e : R_10_36 v1 v2 v3 v4 s0 h = some r) : G X d 10 36 [some (.ref 0), some (.int v1), some (.int v2), some (.int v3), some (.int v4), none] [.int s0] h := by
  unfold R_10_36 at e
  refine k_10_36 (fun c => ?_) (fun c => ?_)
  · rw [if_neg c] at e; exact r_10_41 hd hq e
  · rw [if_pos c] at e; exact r_10_39 hd hq e
noncomputable def R_10_31 (v1 : Int32) (v2 : Int32) (v3 : Int32) (v4 : Int32) (h : Hp) : Option (Int32 × Hp) := bndI (S_12 v4 h) (R_10_36 v1 v2 v3 v4)
theorem r_10_31 {X : GX} {d : Nat} {r : Int32 × Hp} (hd : 3 ≤ d) (hq : RtX X (some (.int r.1)) r.2) {h : Hp} {v1 : Int32} {v2 : Int32} {v3 : Int32} {v4 : Int32} (e : R_10_31 v1 v2 v3 v4 h = some r) : G X d 10 31 [some (.ref 0), some (.int v1), some (.int v2), some (.int v3), some (.int v4), none] [] h := by
  unfold R_10_31 at e
  obtain ⟨x, h2, e1, e2⟩ := bndI_s e
  refine k_10_31 (by omega) (t_12 e1) ?_
  rintro _ _ ⟨rfl, rfl⟩
  exact r_10_36 hd hq e2
noncomputable def R_10_28 (v1 : Int32) (v2 : Int32) (v3 : Int32) (v4 : Int32) (s0 : Int32) (h : Hp) : Option (Int32 × Hp) := if s0 = 0 then R_10_39 h else R_10_31 v1 v2 v3 v4 h
theorem r_10_28 {X : GX} {d : Nat} {r : Int32 × Hp} (hd : 3 ≤ d) (hq : RtX X (some (.int r.1)) r.2) {h : Hp} {v1 : Int32} {v2 : Int32} {v3 : Int32} {v4 : Int32} {s0 : Int32} (e : R_10_28 v1 v2 v3 v4 s0 h = some r) : G X d 10 28 [some (.ref 0), some (.int v1), some (.int v2), some (.int v3), some (.int v4), none] [.int s0] h := by
  unfold R_10_28 at e
  refine k_10_28 (fun c => ?_) (fun c => ?_)
  · rw [if_pos c] at e; exact r_10_39 hd hq e
  · rw [if_neg c] at e; exact r_10_31 hd hq e
noncomputable def R_10_21 (v1 : Int32) (v2 : Int32) (v3 : Int32) (v4 : Int32) (h : Hp) : Option (Int32 × Hp) := bndI (S_11 v3 0 9 h) (R_10_28 v1 v2 v3 v4)
theorem r_10_21 {X : GX} {d : Nat} {r : Int32 × Hp} (hd : 3 ≤ d) (hq : RtX X (some (.int r.1)) r.2) {h : Hp} {v1 : Int32} {v2 : Int32} {v3 : Int32} {v4 : Int32} (e : R_10_21 v1 v2 v3 v4 h = some r) : G X d 10 21 [some (.ref 0), some (.int v1), some (.int v2), some (.int v3), some (.int v4), none] [] h := by
  unfold R_10_21 at e
  obtain ⟨x, h2, e1, e2⟩ := bndI_s e
  refine k_10_21 (by omega) (t_11 e1) ?_
  rintro _ _ ⟨rfl, rfl⟩
  exact r_10_28 hd hq e2
noncomputable def R_10_16 (v1 : Int32) (v2 : Int32) (v3 : Int32) (v4 : Int32) (s0 : Int32) (h : Hp) : Option (Int32 × Hp) := if s0 = 0 then R_10_19 h else R_10_21 v1 v2 v3 v4 h
theorem r_10_16 {X : GX} {d : Nat} {r : Int32 × Hp} (hd : 3 ≤ d) (hq : RtX X (some (.int r.1)) r.2) {h : Hp} {v1 : Int32} {v2 : Int32} {v3 : Int32} {v4 : Int32} {s0 : Int32} (e : R_10_16 v1 v2 v3 v4 s0 h = some r) : G X d 10 16 [some (.ref 0), some (.int v1), some (.int v2), some (.int v3), some (.int v4), none] [.int s0] h := by
  unfold R_10_16 at e
  refine k_10_16 (fun c => ?_) (fun c => ?_)
  · rw [if_neg c] at e; exact r_10_21 hd hq e
  · rw [if_pos c] at e; exact r_10_19 hd hq e
noncomputable def R_10_9 (v1 : Int32) (v2 : Int32) (v3 : Int32) (v4 : Int32) (h : Hp) : Option (Int32 × Hp) := bndI (S_11 v2 0 99 h) (R_10_16 v1 v2 v3 v4)
theorem r_10_9 {X : GX} {d : Nat} {r : Int32 × Hp} (hd : 3 ≤ d) (hq : RtX X (some (.int r.1)) r.2) {h : Hp} {v1 : Int32} {v2 : Int32} {v3 : Int32} {v4 : Int32} (e : R_10_9 v1 v2 v3 v4 h = some r) : G X d 10 9 [some (.ref 0), some (.int v1), some (.int v2), some (.int v3), some (.int v4), none] [] h := by
  unfold R_10_9 at e
  obtain ⟨x, h2, e1, e2⟩ := bndI_s e
  refine k_10_9 (by omega) (t_11 e1) ?_
  rintro _ _ ⟨rfl, rfl⟩
  exact r_10_16 hd hq e2
noncomputable def R_10_6 (v1 : Int32) (v2 : Int32) (v3 : Int32) (v4 : Int32) (s0 : Int32) (h : Hp) : Option (Int32 × Hp) := if s0 = 0 then R_10_19 h else R_10_9 v1 v2 v3 v4 h
theorem r_10_6 {X : GX} {d : Nat} {r : Int32 × Hp} (hd : 3 ≤ d) (hq : RtX X (some (.int r.1)) r.2) {h : Hp} {v1 : Int32} {v2 : Int32} {v3 : Int32} {v4 : Int32} {s0 : Int32} (e : R_10_6 v1 v2 v3 v4 s0 h = some r) : G X d 10 6 [some (.ref 0), some (.int v1), some (.int v2), some (.int v3), some (.int v4), none] [.int s0] h := by
  unfold R_10_6 at e
  refine k_10_6 (fun c => ?_) (fun c => ?_)
  · rw [if_pos c] at e; exact r_10_19 hd hq e
  · rw [if_neg c] at e; exact r_10_9 hd hq e
noncomputable def R_10_0 (v1 : Int32) (v2 : Int32) (v3 : Int32) (v4 : Int32) (h : Hp) : Option (Int32 × Hp) := bndI (S_11 v1 1 5 h) (R_10_6 v1 v2 v3 v4)
theorem r_10_0 {X : GX} {d : Nat} {r : Int32 × Hp} (hd : 3 ≤ d) (hq : RtX X (some (.int r.1)) r.2) {h : Hp} {v1 : Int32} {v2 : Int32} {v3 : Int32} {v4 : Int32} (e : R_10_0 v1 v2 v3 v4 h = some r) : G X d 10 0 [some (.ref 0), some (.int v1), some (.int v2), some (.int v3), some (.int v4), none] [] h := by
  unfold R_10_0 at e
  obtain ⟨x, h2, e1, e2⟩ := bndI_s e
  refine k_10_0 (by omega) (t_11 e1) ?_
  rintro _ _ ⟨rfl, rfl⟩
  exact r_10_6 hd hq e2
noncomputable def S_10 (v1 : Int32) (v2 : Int32) (v3 : Int32) (v4 : Int32) (h : Hp) : Option (Int32 × Hp) := R_10_0 v1 v2 v3 v4 h
set_option maxRecDepth 100000 in
theorem t_10 {v1 : Int32} {v2 : Int32} {v3 : Int32} {v4 : Int32} {h : Hp} {r : Int32 × Hp} (e : S_10 v1 v2 v3 v4 h = some r) : CI 3 10 [.ref 0, .int v1, .int v2, .int v3, .int v4] h (fun x g => x = r.1 ∧ g = r.2) := by
  refine C.of mo_10 (Nat.le_of_ble_eq_true rfl) (fun X hq => ?_)
  exact r_10_0 (Nat.le_refl _) (hq _ _ ⟨_, rfl, rfl, rfl⟩) e
/-! 14 PlayedTruth.isScene(I)Z -/
noncomputable def R_14_14 (s0 : Int32) (h : Hp) : Option (Int32 × Hp) := gd (s0 = 0 ∨ s0 = 1) (some (s0, h))
theorem r_14_14 {X : GX} {d : Nat} {r : Int32 × Hp} (hd : 2 ≤ d) (hq : RtX X (some (.int r.1)) r.2) {h : Hp} {s0 : Int32} (e : R_14_14 s0 h = some r) : G X d 14 14 [none, none] [.int s0] h := by
  unfold R_14_14 at e
  have g := gd_s e; clear e; obtain ⟨z0, e⟩ := g
  rw [← Option.some.inj e] at hq
  exact k_14_14 z0 hq
noncomputable def R_14_0 (v1 : Int32) (h : Hp) : Option (Int32 × Hp) := bndI (S_11 v1 0 ((h 1 7) - 1) h) (R_14_14)
theorem r_14_0 {X : GX} {d : Nat} {r : Int32 × Hp} (hd : 2 ≤ d) (hq : RtX X (some (.int r.1)) r.2) {h : Hp} {v1 : Int32} (e : R_14_0 v1 h = some r) : G X d 14 0 [some (.ref 0), some (.int v1)] [] h := by
  unfold R_14_0 at e
  obtain ⟨x, h2, e1, e2⟩ := bndI_s e
  refine k_14_0 (by omega) (t_11 e1) ?_
  rintro _ _ ⟨rfl, rfl⟩
  exact r_14_14 hd hq e2
noncomputable def S_14 (v1 : Int32) (h : Hp) : Option (Int32 × Hp) := R_14_0 v1 h
set_option maxRecDepth 100000 in
theorem t_14 {v1 : Int32} {h : Hp} {r : Int32 × Hp} (e : S_14 v1 h = some r) : CI 2 14 [.ref 0, .int v1] h (fun x g => x = r.1 ∧ g = r.2) := by
  refine C.of mo_14 (Nat.le_of_ble_eq_true rfl) (fun X hq => ?_)
  exact r_14_0 (Nat.le_refl _) (hq _ _ ⟨_, rfl, rfl, rfl⟩) e
/-! 15 PlayedTruth$Moment.isSettled(I)Z -/
noncomputable def R_15_16 (h : Hp) : Option (Int32 × Hp) := some (0, h)
theorem r_15_16 {X : GX} {d : Nat} {r : Int32 × Hp} (hd : 1 ≤ d) (hq : RtX X (some (.int r.1)) r.2) {h : Hp} (e : R_15_16 h = some r) : G X d 15 16 [none, none] [] h := by
  unfold R_15_16 at e
  rw [← Option.some.inj e] at hq
  exact k_15_16 hq
noncomputable def R_15_12 (h : Hp) : Option (Int32 × Hp) := some (1, h)
theorem r_15_12 {X : GX} {d : Nat} {r : Int32 × Hp} (hd : 1 ≤ d) (hq : RtX X (some (.int r.1)) r.2) {h : Hp} (e : R_15_12 h = some r) : G X d 15 12 [none, none] [] h := by
  unfold R_15_12 at e
  rw [← Option.some.inj e] at hq
  exact k_15_12 hq
noncomputable def R_15_0 (v0 : Nat) (v1 : Int32) (h : Hp) : Option (Int32 × Hp) := gd (sh v0 = (1, 3)) (if (((h v0 2) >>> (v1 &&& 31)) &&& 1) = 1 then R_15_12 h else R_15_16 h)
theorem r_15_0 {X : GX} {d : Nat} {r : Int32 × Hp} (hd : 1 ≤ d) (hq : RtX X (some (.int r.1)) r.2) {h : Hp} {v0 : Nat} {v1 : Int32} (e : R_15_0 v0 v1 h = some r) : G X d 15 0 [some (.ref v0), some (.int v1)] [] h := by
  unfold R_15_0 at e
  have g := gd_s e; clear e; obtain ⟨o0, e⟩ := g
  refine k_15_0 o0 (fun c => ?_) (fun c => ?_)
  · rw [if_neg c] at e; exact r_15_16 hd hq e
  · rw [if_pos c] at e; exact r_15_12 hd hq e
noncomputable def S_15 (v0 : Nat) (v1 : Int32) (h : Hp) : Option (Int32 × Hp) := R_15_0 v0 v1 h
set_option maxRecDepth 100000 in
theorem t_15 {v0 : Nat} {v1 : Int32} {h : Hp} {r : Int32 × Hp} (e : S_15 v0 v1 h = some r) : CI 1 15 [.ref v0, .int v1] h (fun x g => x = r.1 ∧ g = r.2) := by
  refine C.of mo_15 (Nat.le_of_ble_eq_true rfl) (fun X hq => ?_)
  exact r_15_0 (Nat.le_refl _) (hq _ _ ⟨_, rfl, rfl, rfl⟩) e
/-! 17 PlayedTruth$Stage.railOf(I)I -/
noncomputable def R_17_21 (h : Hp) : Option (Int32 × Hp) := some (0, h)
theorem r_17_21 {X : GX} {d : Nat} {r : Int32 × Hp} (hd : 1 ≤ d) (hq : RtX X (some (.int r.1)) r.2) {h : Hp} (e : R_17_21 h = some r) : G X d 17 21 [none, none] [] h := by
  unfold R_17_21 at e
  rw [← Option.some.inj e] at hq
  exact k_17_21 hq
noncomputable def R_17_10 (v1 : Int32) (h : Hp) : Option (Int32 × Hp) := gd (IA 4 v1) (some (((h 4 (Int32.toNatClampNeg v1)) / 4), h))
theorem r_17_10 {X : GX} {d : Nat} {r : Int32 × Hp} (hd : 1 ≤ d) (hq : RtX X (some (.int r.1)) r.2) {h : Hp} {v1 : Int32} (e : R_17_10 v1 h = some r) : G X d 17 10 [some (.ref 1), some (.int v1)] [] h := by
  unfold R_17_10 at e
  have g := gd_s e; clear e; obtain ⟨b0, e⟩ := g
  rw [← Option.some.inj e] at hq
  exact k_17_10 b0 hq
noncomputable def R_17_4 (v1 : Int32) (h : Hp) : Option (Int32 × Hp) := if 16 ≤ v1 then R_17_21 h else R_17_10 v1 h
theorem r_17_4 {X : GX} {d : Nat} {r : Int32 × Hp} (hd : 1 ≤ d) (hq : RtX X (some (.int r.1)) r.2) {h : Hp} {v1 : Int32} (e : R_17_4 v1 h = some r) : G X d 17 4 [some (.ref 1), some (.int v1)] [] h := by
  unfold R_17_4 at e
  refine k_17_4 (fun c => ?_) (fun c => ?_)
  · rw [if_pos c] at e; exact r_17_21 hd hq e
  · rw [if_neg c] at e; exact r_17_10 hd hq e
noncomputable def R_17_0 (v1 : Int32) (h : Hp) : Option (Int32 × Hp) := if v1 < 0 then R_17_21 h else R_17_4 v1 h
theorem r_17_0 {X : GX} {d : Nat} {r : Int32 × Hp} (hd : 1 ≤ d) (hq : RtX X (some (.int r.1)) r.2) {h : Hp} {v1 : Int32} (e : R_17_0 v1 h = some r) : G X d 17 0 [some (.ref 1), some (.int v1)] [] h := by
  unfold R_17_0 at e
  refine k_17_0 (fun c => ?_) (fun c => ?_)
  · rw [if_pos c] at e; exact r_17_21 hd hq e
  · rw [if_neg c] at e; exact r_17_4 hd hq e
noncomputable def S_17 (v1 : Int32) (h : Hp) : Option (Int32 × Hp) := R_17_0 v1 h
set_option maxRecDepth 100000 in
theorem t_17 {v1 : Int32} {h : Hp} {r : Int32 × Hp} (e : S_17 v1 h = some r) : CI 1 17 [.ref 1, .int v1] h (fun x g => x = r.1 ∧ g = r.2) := by
  refine C.of mo_17 (Nat.le_of_ble_eq_true rfl) (fun X hq => ?_)
  exact r_17_0 (Nat.le_refl _) (hq _ _ ⟨_, rfl, rfl, rfl⟩) e
/-! 18 PlayedTruth$Kind.learns(IIII)I -/
noncomputable def R_18_64 (v2 : Int32) (v4 : Int32) (h : Hp) : Option (Int32 × Hp) := some ((v4 + (v2 / 10)), h)
theorem r_18_64 {X : GX} {d : Nat} {r : Int32 × Hp} (hd : 1 ≤ d) (hq : RtX X (some (.int r.1)) r.2) {h : Hp} {v2 : Int32} {v4 : Int32} (e : R_18_64 v2 v4 h = some r) : G X d 18 64 [none, none, some (.int v2), none, some (.int v4), none, none] [] h := by
  unfold R_18_64 at e
  rw [← Option.some.inj e] at hq
  exact k_18_64 hq
noncomputable def R_18_72 (v5 : Int32) (h : Hp) : Option (Int32 × Hp) := some (v5, h)
theorem r_18_72 {X : GX} {d : Nat} {r : Int32 × Hp} (hd : 1 ≤ d) (hq : RtX X (some (.int r.1)) r.2) {h : Hp} {v5 : Int32} (e : R_18_72 v5 h = some r) : G X d 18 72 [none, none, none, none, none, some (.int v5), none] [] h := by
  unfold R_18_72 at e
  rw [← Option.some.inj e] at hq
  exact k_18_72 hq
noncomputable def R_18_75 (v5 : Int32) (h : Hp) : Option (Int32 × Hp) := some ((if 0 < (v5 - 3) then (v5 - 3) else 0), h)
theorem r_18_75 {X : GX} {d : Nat} {r : Int32 × Hp} (hd : 1 ≤ d) (hq : RtX X (some (.int r.1)) r.2) {h : Hp} {v5 : Int32} (e : R_18_75 v5 h = some r) : G X d 18 75 [none, none, none, none, none, some (.int v5), none] [] h := by
  unfold R_18_75 at e
  rw [← Option.some.inj e] at hq
  exact k_18_75 (by omega) hq
noncomputable def R_18_84 (v6 : Int32) (h : Hp) : Option (Int32 × Hp) := some (v6, h)
theorem r_18_84 {X : GX} {d : Nat} {r : Int32 × Hp} (hd : 1 ≤ d) (hq : RtX X (some (.int r.1)) r.2) {h : Hp} {v6 : Int32} (e : R_18_84 v6 h = some r) : G X d 18 84 [none, none, none, none, none, none, some (.int v6)] [] h := by
  unfold R_18_84 at e
  rw [← Option.some.inj e] at hq
  exact k_18_84 hq
noncomputable def R_18_98 (v6 : Int32) (h : Hp) : Option (Int32 × Hp) := some (v6, h)
theorem r_18_98 {X : GX} {d : Nat} {r : Int32 × Hp} (hd : 1 ≤ d) (hq : RtX X (some (.int r.1)) r.2) {h : Hp} {v6 : Int32} (e : R_18_98 v6 h = some r) : G X d 18 98 [none, none, none, none, none, none, some (.int v6)] [] h := by
  unfold R_18_98 at e
  rw [← Option.some.inj e] at hq
  exact k_18_98 hq
noncomputable def R_18_94 (h : Hp) : Option (Int32 × Hp) := some (0, h)
theorem r_18_94 {X : GX} {d : Nat} {r : Int32 × Hp} (hd : 1 ≤ d) (hq : RtX X (some (.int r.1)) r.2) {h : Hp} (e : R_18_94 h = some r) : G X d 18 94 [none, none, none, none, none, none, none] [] h := by
  unfold R_18_94 at e
  rw [← Option.some.inj e] at hq
  exact k_18_94 hq
noncomputable def R_18_87 (v3 : Int32) (v6 : Int32) (h : Hp) : Option (Int32 × Hp) := if (v3 - v3 / 2 * 2) = 1 then R_18_94 h else R_18_98 v6 h
theorem r_18_87 {X : GX} {d : Nat} {r : Int32 × Hp} (hd : 1 ≤ d) (hq : RtX X (some (.int r.1)) r.2) {h : Hp} {v3 : Int32} {v6 : Int32} (e : R_18_87 v3 v6 h = some r) : G X d 18 87 [none, none, none, some (.int v3), none, none, some (.int v6)] [] h := by
  unfold R_18_87 at e
  refine k_18_87 (fun c => ?_) (fun c => ?_)
  · rw [if_neg c] at e; exact r_18_98 hd hq e
  · rw [if_pos c] at e; exact r_18_94 hd hq e
noncomputable def R_18_101 (v4 : Int32) (h : Hp) : Option (Int32 × Hp) := some (v4, h)
theorem r_18_101 {X : GX} {d : Nat} {r : Int32 × Hp} (hd : 1 ≤ d) (hq : RtX X (some (.int r.1)) r.2) {h : Hp} {v4 : Int32} (e : R_18_101 v4 h = some r) : G X d 18 101 [none, none, none, none, some (.int v4), none, none] [] h := by
  unfold R_18_101 at e
  rw [← Option.some.inj e] at hq
  exact k_18_101 hq
noncomputable def R_18_19 (v0 : Int32) (v1 : Int32) (v2 : Int32) (v3 : Int32) (v4 : Int32) (h : Hp) : Option (Int32 × Hp) := if v0 = 1 then R_18_64 v2 v4 h else (if v0 = 2 then R_18_72 v4 h else (if v0 = 3 then R_18_75 v4 h else (if v0 = 4 then R_18_84 ((5 * v1) + 4) h else (if v0 = 5 then R_18_87 v3 ((5 * v1) + 4) h else (R_18_101 v4 h)))))
theorem r_18_19 {X : GX} {d : Nat} {r : Int32 × Hp} (hd : 1 ≤ d) (hq : RtX X (some (.int r.1)) r.2) {h : Hp} {v0 : Int32} {v1 : Int32} {v2 : Int32} {v3 : Int32} {v4 : Int32} (e : R_18_19 v0 v1 v2 v3 v4 h = some r) : G X d 18 19 [some (.int v0), some (.int v1), some (.int v2), some (.int v3), some (.int v4), none, none] [] h := by
  unfold R_18_19 at e
  refine k_18_19 (fun c => ?_) (fun c => ?_) (fun c => ?_) (fun c => ?_) (fun c => ?_) (fun c0 c1 c2 c3 c4 => ?_)
  · rw [if_pos c] at e; exact r_18_64 hd hq e
  · rw [if_neg (show ¬ v0 = 1 by rw [c]; decide), if_pos c] at e; exact r_18_72 hd hq e
  · rw [if_neg (show ¬ v0 = 1 by rw [c]; decide), if_neg (show ¬ v0 = 2 by rw [c]; decide), if_pos c] at e; exact r_18_75 hd hq e
  · rw [if_neg (show ¬ v0 = 1 by rw [c]; decide), if_neg (show ¬ v0 = 2 by rw [c]; decide), if_neg (show ¬ v0 = 3 by rw [c]; decide), if_pos c] at e; exact r_18_84 hd hq e
  · rw [if_neg (show ¬ v0 = 1 by rw [c]; decide), if_neg (show ¬ v0 = 2 by rw [c]; decide), if_neg (show ¬ v0 = 3 by rw [c]; decide), if_neg (show ¬ v0 = 4 by rw [c]; decide), if_pos c] at e; exact r_18_87 hd hq e
  · rw [if_neg c0, if_neg c1, if_neg c2, if_neg c3, if_neg c4] at e; exact r_18_101 hd hq e
noncomputable def R_18_12 (v0 : Int32) (v1 : Int32) (v2 : Int32) (v3 : Int32) (v4 : Int32) (h : Hp) : Option (Int32 × Hp) := if v0 = 1 then R_18_64 v2 v4 h else (if v0 = 2 then R_18_72 (v4 / 2) h else (if v0 = 3 then R_18_75 (v4 / 2) h else (if v0 = 4 then R_18_84 ((5 * v1) + 4) h else (if v0 = 5 then R_18_87 v3 ((5 * v1) + 4) h else (R_18_101 v4 h)))))
theorem r_18_12 {X : GX} {d : Nat} {r : Int32 × Hp} (hd : 1 ≤ d) (hq : RtX X (some (.int r.1)) r.2) {h : Hp} {v0 : Int32} {v1 : Int32} {v2 : Int32} {v3 : Int32} {v4 : Int32} (e : R_18_12 v0 v1 v2 v3 v4 h = some r) : G X d 18 12 [some (.int v0), some (.int v1), some (.int v2), some (.int v3), some (.int v4), none, none] [] h := by
  unfold R_18_12 at e
  refine k_18_12 (fun c => ?_) (fun c => ?_) (fun c => ?_) (fun c => ?_) (fun c => ?_) (fun c0 c1 c2 c3 c4 => ?_)
  · rw [if_pos c] at e; exact r_18_64 hd hq e
  · rw [if_neg (show ¬ v0 = 1 by rw [c]; decide), if_pos c] at e; exact r_18_72 hd hq e
  · rw [if_neg (show ¬ v0 = 1 by rw [c]; decide), if_neg (show ¬ v0 = 2 by rw [c]; decide), if_pos c] at e; exact r_18_75 hd hq e
  · rw [if_neg (show ¬ v0 = 1 by rw [c]; decide), if_neg (show ¬ v0 = 2 by rw [c]; decide), if_neg (show ¬ v0 = 3 by rw [c]; decide), if_pos c] at e; exact r_18_84 hd hq e
  · rw [if_neg (show ¬ v0 = 1 by rw [c]; decide), if_neg (show ¬ v0 = 2 by rw [c]; decide), if_neg (show ¬ v0 = 3 by rw [c]; decide), if_neg (show ¬ v0 = 4 by rw [c]; decide), if_pos c] at e; exact r_18_87 hd hq e
  · rw [if_neg c0, if_neg c1, if_neg c2, if_neg c3, if_neg c4] at e; exact r_18_101 hd hq e
noncomputable def R_18_0 (v0 : Int32) (v1 : Int32) (v2 : Int32) (v3 : Int32) (h : Hp) : Option (Int32 × Hp) := if v2 ≤ 40 then R_18_19 v0 v1 v2 v3 (8 * v1) h else R_18_12 v0 v1 v2 v3 (8 * v1) h
theorem r_18_0 {X : GX} {d : Nat} {r : Int32 × Hp} (hd : 1 ≤ d) (hq : RtX X (some (.int r.1)) r.2) {h : Hp} {v0 : Int32} {v1 : Int32} {v2 : Int32} {v3 : Int32} (e : R_18_0 v0 v1 v2 v3 h = some r) : G X d 18 0 [some (.int v0), some (.int v1), some (.int v2), some (.int v3), none, none, none] [] h := by
  unfold R_18_0 at e
  refine k_18_0 (fun c => ?_) (fun c => ?_)
  · rw [if_pos c] at e; exact r_18_19 hd hq e
  · rw [if_neg c] at e; exact r_18_12 hd hq e
noncomputable def S_18 (v0 : Int32) (v1 : Int32) (v2 : Int32) (v3 : Int32) (h : Hp) : Option (Int32 × Hp) := R_18_0 v0 v1 v2 v3 h
set_option maxRecDepth 100000 in
theorem t_18 {v0 : Int32} {v1 : Int32} {v2 : Int32} {v3 : Int32} {h : Hp} {r : Int32 × Hp} (e : S_18 v0 v1 v2 v3 h = some r) : CI 1 18 [.int v0, .int v1, .int v2, .int v3] h (fun x g => x = r.1 ∧ g = r.2) := by
  refine C.of mo_18 (Nat.le_of_ble_eq_true rfl) (fun X hq => ?_)
  exact r_18_0 (Nat.le_refl _) (hq _ _ ⟨_, rfl, rfl, rfl⟩) e
/-! 20 PlayedTruth$Stage.leans(LPlayedTruth$Moment;I)I -/
noncomputable def R_20_50 (v3 : Int32) (h : Hp) : Option (Int32 × Hp) := some (v3, h)
theorem r_20_50 {X : GX} {d : Nat} {r : Int32 × Hp} (hd : 2 ≤ d) (hq : RtX X (some (.int r.1)) r.2) {h : Hp} {v3 : Int32} (e : R_20_50 v3 h = some r) : G X d 20 50 [none, none, none, some (.int v3), none] [] h := by
  unfold R_20_50 at e
  rw [← Option.some.inj e] at hq
  exact k_20_50 hq
noncomputable def R_20_44 (rec_5 : Nat → Int32 → Int32 → Int32 → Hp → Option (Int32 × Hp)) (v1 : Nat) (v2 : Int32) (v3 : Int32) (v4 : Int32) (h : Hp) : Option (Int32 × Hp) := rec_5 v1 v2 v3 (v4 + 1) h
theorem r_20_44 {X : GX} {d : Nat} {r : Int32 × Hp} (hd : 2 ≤ d) (hq : RtX X (some (.int r.1)) r.2) {rec_5 : Nat → Int32 → Int32 → Int32 → Hp → Option (Int32 × Hp)} (hr_5 : ∀ {v1 : Nat} {v2 : Int32} {v3 : Int32} {v4 : Int32} {h : Hp}, rec_5 v1 v2 v3 v4 h = some r → G X d 20 5 [some (.ref 1), some (.ref v1), some (.int v2), some (.int v3), some (.int v4)] [] h) {h : Hp} {v1 : Nat} {v2 : Int32} {v3 : Int32} {v4 : Int32} (e : R_20_44 rec_5 v1 v2 v3 v4 h = some r) : G X d 20 44 [some (.ref 1), some (.ref v1), some (.int v2), some (.int v3), some (.int v4)] [] h := by
  unfold R_20_44 at e
  exact k_20_44 (hr_5 e)
noncomputable def R_20_41 (rec_5 : Nat → Int32 → Int32 → Int32 → Hp → Option (Int32 × Hp)) (v1 : Nat) (v2 : Int32) (v3 : Int32) (v4 : Int32) (h : Hp) : Option (Int32 × Hp) := rec_5 v1 v2 (v3 + 1) (v4 + 1) h
theorem r_20_41 {X : GX} {d : Nat} {r : Int32 × Hp} (hd : 2 ≤ d) (hq : RtX X (some (.int r.1)) r.2) {rec_5 : Nat → Int32 → Int32 → Int32 → Hp → Option (Int32 × Hp)} (hr_5 : ∀ {v1 : Nat} {v2 : Int32} {v3 : Int32} {v4 : Int32} {h : Hp}, rec_5 v1 v2 v3 v4 h = some r → G X d 20 5 [some (.ref 1), some (.ref v1), some (.int v2), some (.int v3), some (.int v4)] [] h) {h : Hp} {v1 : Nat} {v2 : Int32} {v3 : Int32} {v4 : Int32} (e : R_20_41 rec_5 v1 v2 v3 v4 h = some r) : G X d 20 41 [some (.ref 1), some (.ref v1), some (.int v2), some (.int v3), some (.int v4)] [] h := by
  unfold R_20_41 at e
  exact k_20_41 (hr_5 e)
noncomputable def R_20_23 (rec_5 : Nat → Int32 → Int32 → Int32 → Hp → Option (Int32 × Hp)) (v1 : Nat) (v2 : Int32) (v3 : Int32) (v4 : Int32) (h : Hp) : Option (Int32 × Hp) := gd (IA 3 v4 ∧ IA 3 v2) (if (h 3 (Int32.toNatClampNeg v4)) = ((h 3 (Int32.toNatClampNeg v2)) - 1) then R_20_41 rec_5 v1 v2 v3 v4 h else R_20_44 rec_5 v1 v2 v3 v4 h)
theorem r_20_23 {X : GX} {d : Nat} {r : Int32 × Hp} (hd : 2 ≤ d) (hq : RtX X (some (.int r.1)) r.2) {rec_5 : Nat → Int32 → Int32 → Int32 → Hp → Option (Int32 × Hp)} (hr_5 : ∀ {v1 : Nat} {v2 : Int32} {v3 : Int32} {v4 : Int32} {h : Hp}, rec_5 v1 v2 v3 v4 h = some r → G X d 20 5 [some (.ref 1), some (.ref v1), some (.int v2), some (.int v3), some (.int v4)] [] h) {h : Hp} {v1 : Nat} {v2 : Int32} {v3 : Int32} {v4 : Int32} (e : R_20_23 rec_5 v1 v2 v3 v4 h = some r) : G X d 20 23 [some (.ref 1), some (.ref v1), some (.int v2), some (.int v3), some (.int v4)] [] h := by
  unfold R_20_23 at e
  have g := gd_s e; clear e; obtain ⟨⟨b0, b1⟩, e⟩ := g
  refine k_20_23 b0 b1 (fun c => ?_) (fun c => ?_)
  · rw [if_neg c] at e; exact r_20_44 hd hq hr_5 e
  · rw [if_pos c] at e; exact r_20_41 hd hq hr_5 e
noncomputable def R_20_20 (rec_5 : Nat → Int32 → Int32 → Int32 → Hp → Option (Int32 × Hp)) (v1 : Nat) (v2 : Int32) (v3 : Int32) (v4 : Int32) (s0 : Int32) (h : Hp) : Option (Int32 × Hp) := if s0 = 0 then R_20_44 rec_5 v1 v2 v3 v4 h else R_20_23 rec_5 v1 v2 v3 v4 h
theorem r_20_20 {X : GX} {d : Nat} {r : Int32 × Hp} (hd : 2 ≤ d) (hq : RtX X (some (.int r.1)) r.2) {rec_5 : Nat → Int32 → Int32 → Int32 → Hp → Option (Int32 × Hp)} (hr_5 : ∀ {v1 : Nat} {v2 : Int32} {v3 : Int32} {v4 : Int32} {h : Hp}, rec_5 v1 v2 v3 v4 h = some r → G X d 20 5 [some (.ref 1), some (.ref v1), some (.int v2), some (.int v3), some (.int v4)] [] h) {h : Hp} {v1 : Nat} {v2 : Int32} {v3 : Int32} {v4 : Int32} {s0 : Int32} (e : R_20_20 rec_5 v1 v2 v3 v4 s0 h = some r) : G X d 20 20 [some (.ref 1), some (.ref v1), some (.int v2), some (.int v3), some (.int v4)] [.int s0] h := by
  unfold R_20_20 at e
  refine k_20_20 (fun c => ?_) (fun c => ?_)
  · rw [if_pos c] at e; exact r_20_44 hd hq hr_5 e
  · rw [if_neg c] at e; exact r_20_23 hd hq hr_5 e
noncomputable def R_20_14 (rec_5 : Nat → Int32 → Int32 → Int32 → Hp → Option (Int32 × Hp)) (v1 : Nat) (v2 : Int32) (v3 : Int32) (v4 : Int32) (h : Hp) : Option (Int32 × Hp) := gd (sh v1 = (1, 3)) (bndI (S_15 v1 v4 h) (R_20_20 rec_5 v1 v2 v3 v4))
theorem r_20_14 {X : GX} {d : Nat} {r : Int32 × Hp} (hd : 2 ≤ d) (hq : RtX X (some (.int r.1)) r.2) {rec_5 : Nat → Int32 → Int32 → Int32 → Hp → Option (Int32 × Hp)} (hr_5 : ∀ {v1 : Nat} {v2 : Int32} {v3 : Int32} {v4 : Int32} {h : Hp}, rec_5 v1 v2 v3 v4 h = some r → G X d 20 5 [some (.ref 1), some (.ref v1), some (.int v2), some (.int v3), some (.int v4)] [] h) {h : Hp} {v1 : Nat} {v2 : Int32} {v3 : Int32} {v4 : Int32} (e : R_20_14 rec_5 v1 v2 v3 v4 h = some r) : G X d 20 14 [some (.ref 1), some (.ref v1), some (.int v2), some (.int v3), some (.int v4)] [] h := by
  unfold R_20_14 at e
  have g := gd_s e; clear e; obtain ⟨o0, e⟩ := g
  obtain ⟨x, h2, e1, e2⟩ := bndI_s e
  refine k_20_14 o0 (by omega) (t_15 e1) ?_
  rintro _ _ ⟨rfl, rfl⟩
  exact r_20_20 hd hq hr_5 e2
noncomputable def R_20_5 (rec_5 : Nat → Int32 → Int32 → Int32 → Hp → Option (Int32 × Hp)) (v1 : Nat) (v2 : Int32) (v3 : Int32) (v4 : Int32) (h : Hp) : Option (Int32 × Hp) := if (h 1 7) ≤ v4 then R_20_50 v3 h else R_20_14 rec_5 v1 v2 v3 v4 h
theorem r_20_5 {X : GX} {d : Nat} {r : Int32 × Hp} (hd : 2 ≤ d) (hq : RtX X (some (.int r.1)) r.2) {rec_5 : Nat → Int32 → Int32 → Int32 → Hp → Option (Int32 × Hp)} (hr_5 : ∀ {v1 : Nat} {v2 : Int32} {v3 : Int32} {v4 : Int32} {h : Hp}, rec_5 v1 v2 v3 v4 h = some r → G X d 20 5 [some (.ref 1), some (.ref v1), some (.int v2), some (.int v3), some (.int v4)] [] h) {h : Hp} {v1 : Nat} {v2 : Int32} {v3 : Int32} {v4 : Int32} (e : R_20_5 rec_5 v1 v2 v3 v4 h = some r) : G X d 20 5 [some (.ref 1), some (.ref v1), some (.int v2), some (.int v3), some (.int v4)] [] h := by
  unfold R_20_5 at e
  refine k_20_5 (fun c => ?_) (fun c => ?_)
  · rw [if_pos c] at e; exact r_20_50 hd hq e
  · rw [if_neg c] at e; exact r_20_14 hd hq hr_5 e
noncomputable def H_20_5 : Nat → Nat → Int32 → Int32 → Int32 → Hp → Option (Int32 × Hp)
  | 0, _, _, _, _, _ => none
  | n + 1, v1, v2, v3, v4, h => R_20_5 (H_20_5 n) v1 v2 v3 v4 h
theorem h_20_5 {X : GX} {d : Nat} {r : Int32 × Hp} (hd : 2 ≤ d) (hq : RtX X (some (.int r.1)) r.2) {n : Nat} {h : Hp} {v1 : Nat} {v2 : Int32} {v3 : Int32} {v4 : Int32} (e : H_20_5 n v1 v2 v3 v4 h = some r) : G X d 20 5 [some (.ref 1), some (.ref v1), some (.int v2), some (.int v3), some (.int v4)] [] h := by
  induction n generalizing v1 v2 v3 v4 h with
  | zero => cases e
  | succ n ih => exact r_20_5 hd hq (fun e => ih e) e
noncomputable def R_20_0 (v1 : Nat) (v2 : Int32) (h : Hp) : Option (Int32 × Hp) := H_20_5 fuL v1 v2 0 0 h
theorem r_20_0 {X : GX} {d : Nat} {r : Int32 × Hp} (hd : 2 ≤ d) (hq : RtX X (some (.int r.1)) r.2) {h : Hp} {v1 : Nat} {v2 : Int32} (e : R_20_0 v1 v2 h = some r) : G X d 20 0 [some (.ref 1), some (.ref v1), some (.int v2), none, none] [] h := by
  unfold R_20_0 at e
  exact k_20_0 (h_20_5 hd hq e)
noncomputable def S_20 (v1 : Nat) (v2 : Int32) (h : Hp) : Option (Int32 × Hp) := R_20_0 v1 v2 h
set_option maxRecDepth 100000 in
theorem t_20 {v1 : Nat} {v2 : Int32} {h : Hp} {r : Int32 × Hp} (e : S_20 v1 v2 h = some r) : CI 2 20 [.ref 1, .ref v1, .int v2] h (fun x g => x = r.1 ∧ g = r.2) := by
  refine C.of mo_20 (Nat.le_of_ble_eq_true rfl) (fun X hq => ?_)
  exact r_20_0 (Nat.le_refl _) (hq _ _ ⟨_, rfl, rfl, rfl⟩) e
/-! 16 PlayedTruth$Stage.learns(LPlayedTruth$Moment;I)I -/
noncomputable def R_16_37 (v2 : Int32) (s1 : Int32) (s2 : Int32) (s3 : Int32) (s0 : Int32) (h : Hp) : Option (Int32 × Hp) := gd (IA 3 v2 ∧ IA 6 (h 3 (Int32.toNatClampNeg v2))) (some ((if s3 < ((s2 + (s1 * s0)) - (h 6 (Int32.toNatClampNeg (h 3 (Int32.toNatClampNeg v2))))) then ((s2 + (s1 * s0)) - (h 6 (Int32.toNatClampNeg (h 3 (Int32.toNatClampNeg v2))))) else s3), h))
theorem r_16_37 {X : GX} {d : Nat} {r : Int32 × Hp} (hd : 3 ≤ d) (hq : RtX X (some (.int r.1)) r.2) {h : Hp} {v2 : Int32} {s1 : Int32} {s2 : Int32} {s3 : Int32} {s0 : Int32} (e : R_16_37 v2 s1 s2 s3 s0 h = some r) : G X d 16 37 [some (.ref 1), none, some (.int v2), none] [.int s0, .int s1, .int s2, .int s3] h := by
  unfold R_16_37 at e
  have g := gd_s e; clear e; obtain ⟨⟨b0, b1⟩, e⟩ := g
  rw [← Option.some.inj e] at hq
  exact k_16_37 b0 b1 (by omega) hq
noncomputable def R_16_27 (v1 : Nat) (v2 : Int32) (s0 : Int32) (h : Hp) : Option (Int32 × Hp) := bndI (S_20 v1 v2 h) (R_16_37 v2 5 s0 0)
theorem r_16_27 {X : GX} {d : Nat} {r : Int32 × Hp} (hd : 3 ≤ d) (hq : RtX X (some (.int r.1)) r.2) {h : Hp} {v1 : Nat} {v2 : Int32} {s0 : Int32} (e : R_16_27 v1 v2 s0 h = some r) : G X d 16 27 [some (.ref 1), some (.ref v1), some (.int v2), none] [.int s0] h := by
  unfold R_16_27 at e
  obtain ⟨x, h2, e1, e2⟩ := bndI_s e
  refine k_16_27 (by omega) (t_20 e1) ?_
  rintro _ _ ⟨rfl, rfl⟩
  exact r_16_37 hd hq e2
noncomputable def R_16_14 (v1 : Nat) (v2 : Int32) (s1 : Int32) (s0 : Int32) (h : Hp) : Option (Int32 × Hp) := gd (sh v1 = (1, 3) ∧ IA (v1 + 1) v2) (bndI (S_18 s1 s0 (h (v1 + 1) (Int32.toNatClampNeg v2)) (h v1 3) h) (R_16_27 v1 v2))
theorem r_16_14 {X : GX} {d : Nat} {r : Int32 × Hp} (hd : 3 ≤ d) (hq : RtX X (some (.int r.1)) r.2) {h : Hp} {v1 : Nat} {v2 : Int32} {s1 : Int32} {s0 : Int32} (e : R_16_14 v1 v2 s1 s0 h = some r) : G X d 16 14 [some (.ref 1), some (.ref v1), some (.int v2), none] [.int s0, .int s1] h := by
  unfold R_16_14 at e
  have g := gd_s e; clear e; obtain ⟨⟨o0, b1⟩, e⟩ := g
  obtain ⟨x, h2, e1, e2⟩ := bndI_s e
  refine k_16_14 o0 b1 (by omega) (t_18 e1) ?_
  rintro _ _ ⟨rfl, rfl⟩
  exact r_16_27 hd hq e2
noncomputable def R_16_0 (v1 : Nat) (v2 : Int32) (h : Hp) : Option (Int32 × Hp) := gd (IA 2 v2 ∧ sh v1 = (1, 3)) (bndI (S_17 (h v1 3) h) (R_16_14 v1 v2 (h 2 (Int32.toNatClampNeg v2))))
theorem r_16_0 {X : GX} {d : Nat} {r : Int32 × Hp} (hd : 3 ≤ d) (hq : RtX X (some (.int r.1)) r.2) {h : Hp} {v1 : Nat} {v2 : Int32} (e : R_16_0 v1 v2 h = some r) : G X d 16 0 [some (.ref 1), some (.ref v1), some (.int v2), none] [] h := by
  unfold R_16_0 at e
  have g := gd_s e; clear e; obtain ⟨⟨b0, o1⟩, e⟩ := g
  obtain ⟨x, h2, e1, e2⟩ := bndI_s e
  refine k_16_0 b0 o1 (by omega) (t_17 e1) ?_
  rintro _ _ ⟨rfl, rfl⟩
  exact r_16_14 hd hq e2
noncomputable def S_16 (v1 : Nat) (v2 : Int32) (h : Hp) : Option (Int32 × Hp) := R_16_0 v1 v2 h
set_option maxRecDepth 100000 in
theorem t_16 {v1 : Nat} {v2 : Int32} {h : Hp} {r : Int32 × Hp} (e : S_16 v1 v2 h = some r) : CI 3 16 [.ref 1, .ref v1, .int v2] h (fun x g => x = r.1 ∧ g = r.2) := by
  refine C.of mo_16 (Nat.le_of_ble_eq_true rfl) (fun X hq => ?_)
  exact r_16_0 (Nat.le_refl _) (hq _ _ ⟨_, rfl, rfl, rfl⟩) e
/-! 22 PlayedTruth$Kind.draws(IIII)I -/
noncomputable def R_22_52 (h : Hp) : Option (Int32 × Hp) := some (9, h)
theorem r_22_52 {X : GX} {d : Nat} {r : Int32 × Hp} (hd : 1 ≤ d) (hq : RtX X (some (.int r.1)) r.2) {h : Hp} (e : R_22_52 h = some r) : G X d 22 52 [none, none, none, none, none] [] h := by
  unfold R_22_52 at e
  rw [← Option.some.inj e] at hq
  exact k_22_52 hq
noncomputable def R_22_55 (v1 : Int32) (v4 : Int32) (h : Hp) : Option (Int32 × Hp) := some ((v4 + v1), h)
theorem r_22_55 {X : GX} {d : Nat} {r : Int32 × Hp} (hd : 1 ≤ d) (hq : RtX X (some (.int r.1)) r.2) {h : Hp} {v1 : Int32} {v4 : Int32} (e : R_22_55 v1 v4 h = some r) : G X d 22 55 [none, some (.int v1), none, none, some (.int v4)] [] h := by
  unfold R_22_55 at e
  rw [← Option.some.inj e] at hq
  exact k_22_55 hq
noncomputable def R_22_60 (v1 : Int32) (v4 : Int32) (h : Hp) : Option (Int32 × Hp) := some ((2 * (v4 + v1)), h)
theorem r_22_60 {X : GX} {d : Nat} {r : Int32 × Hp} (hd : 1 ≤ d) (hq : RtX X (some (.int r.1)) r.2) {h : Hp} {v1 : Int32} {v4 : Int32} (e : R_22_60 v1 v4 h = some r) : G X d 22 60 [none, some (.int v1), none, none, some (.int v4)] [] h := by
  unfold R_22_60 at e
  rw [← Option.some.inj e] at hq
  exact k_22_60 hq
noncomputable def R_22_67 (v4 : Int32) (h : Hp) : Option (Int32 × Hp) := some ((v4 / 2), h)
theorem r_22_67 {X : GX} {d : Nat} {r : Int32 × Hp} (hd : 1 ≤ d) (hq : RtX X (some (.int r.1)) r.2) {h : Hp} {v4 : Int32} (e : R_22_67 v4 h = some r) : G X d 22 67 [none, none, none, none, some (.int v4)] [] h := by
  unfold R_22_67 at e
  rw [← Option.some.inj e] at hq
  exact k_22_67 hq
noncomputable def R_22_72 (v3 : Int32) (v4 : Int32) (h : Hp) : Option (Int32 × Hp) := some (((v4 / 2) + v3), h)
theorem r_22_72 {X : GX} {d : Nat} {r : Int32 × Hp} (hd : 1 ≤ d) (hq : RtX X (some (.int r.1)) r.2) {h : Hp} {v3 : Int32} {v4 : Int32} (e : R_22_72 v3 v4 h = some r) : G X d 22 72 [none, none, none, some (.int v3), some (.int v4)] [] h := by
  unfold R_22_72 at e
  rw [← Option.some.inj e] at hq
  exact k_22_72 hq
noncomputable def R_22_79 (v4 : Int32) (h : Hp) : Option (Int32 × Hp) := some (v4, h)
theorem r_22_79 {X : GX} {d : Nat} {r : Int32 × Hp} (hd : 1 ≤ d) (hq : RtX X (some (.int r.1)) r.2) {h : Hp} {v4 : Int32} (e : R_22_79 v4 h = some r) : G X d 22 79 [none, none, none, none, some (.int v4)] [] h := by
  unfold R_22_79 at e
  rw [← Option.some.inj e] at hq
  exact k_22_79 hq
noncomputable def R_22_0 (v0 : Int32) (v1 : Int32) (v2 : Int32) (v3 : Int32) (h : Hp) : Option (Int32 × Hp) := if v0 = 1 then R_22_52 h else (if v0 = 2 then R_22_55 v1 (if 0 < ((10 + v1) - (v2 / 9)) then ((10 + v1) - (v2 / 9)) else 0) h else (if v0 = 3 then R_22_60 v1 (if 0 < ((10 + v1) - (v2 / 9)) then ((10 + v1) - (v2 / 9)) else 0) h else (if v0 = 4 then R_22_67 (if 0 < ((10 + v1) - (v2 / 9)) then ((10 + v1) - (v2 / 9)) else 0) h else (if v0 = 5 then R_22_72 v3 (if 0 < ((10 + v1) - (v2 / 9)) then ((10 + v1) - (v2 / 9)) else 0) h else (R_22_79 (if 0 < ((10 + v1) - (v2 / 9)) then ((10 + v1) - (v2 / 9)) else 0) h)))))
set_option maxRecDepth 100000 in
theorem r_22_0 {X : GX} {d : Nat} {r : Int32 × Hp} (hd : 1 ≤ d) (hq : RtX X (some (.int r.1)) r.2) {h : Hp} {v0 : Int32} {v1 : Int32} {v2 : Int32} {v3 : Int32} (e : R_22_0 v0 v1 v2 v3 h = some r) : G X d 22 0 [some (.int v0), some (.int v1), some (.int v2), some (.int v3), none] [] h := by
  unfold R_22_0 at e
  refine k_22_0 (by omega) (fun c => ?_) (fun c => ?_) (fun c => ?_) (fun c => ?_) (fun c => ?_) (fun c0 c1 c2 c3 c4 => ?_)
  · rw [if_pos c] at e; exact r_22_52 hd hq e
  · rw [if_neg (show ¬ v0 = 1 by rw [c]; decide), if_pos c] at e; exact r_22_55 hd hq e
  · rw [if_neg (show ¬ v0 = 1 by rw [c]; decide), if_neg (show ¬ v0 = 2 by rw [c]; decide), if_pos c] at e; exact r_22_60 hd hq e
  · rw [if_neg (show ¬ v0 = 1 by rw [c]; decide), if_neg (show ¬ v0 = 2 by rw [c]; decide), if_neg (show ¬ v0 = 3 by rw [c]; decide), if_pos c] at e; exact r_22_67 hd hq e
  · rw [if_neg (show ¬ v0 = 1 by rw [c]; decide), if_neg (show ¬ v0 = 2 by rw [c]; decide), if_neg (show ¬ v0 = 3 by rw [c]; decide), if_neg (show ¬ v0 = 4 by rw [c]; decide), if_pos c] at e; exact r_22_72 hd hq e
  · rw [if_neg c0, if_neg c1, if_neg c2, if_neg c3, if_neg c4] at e; exact r_22_79 hd hq e
noncomputable def S_22 (v0 : Int32) (v1 : Int32) (v2 : Int32) (v3 : Int32) (h : Hp) : Option (Int32 × Hp) := R_22_0 v0 v1 v2 v3 h
set_option maxRecDepth 100000 in
theorem t_22 {v0 : Int32} {v1 : Int32} {v2 : Int32} {v3 : Int32} {h : Hp} {r : Int32 × Hp} (e : S_22 v0 v1 v2 v3 h = some r) : CI 1 22 [.int v0, .int v1, .int v2, .int v3] h (fun x g => x = r.1 ∧ g = r.2) := by
  refine C.of mo_22 (Nat.le_of_ble_eq_true rfl) (fun X hq => ?_)
  exact r_22_0 (Nat.le_refl _) (hq _ _ ⟨_, rfl, rfl, rfl⟩) e
/-! 21 PlayedTruth$Stage.draws(LPlayedTruth$Moment;I)I -/
noncomputable def R_21_22 (v2 : Int32) (s0 : Int32) (h : Hp) : Option (Int32 × Hp) := gd (IA 3 v2 ∧ IA 5 (h 3 (Int32.toNatClampNeg v2))) (some ((s0 + (h 5 (Int32.toNatClampNeg (h 3 (Int32.toNatClampNeg v2))))), h))
theorem r_21_22 {X : GX} {d : Nat} {r : Int32 × Hp} (hd : 2 ≤ d) (hq : RtX X (some (.int r.1)) r.2) {h : Hp} {v2 : Int32} {s0 : Int32} (e : R_21_22 v2 s0 h = some r) : G X d 21 22 [some (.ref 1), none, some (.int v2)] [.int s0] h := by
  unfold R_21_22 at e
  have g := gd_s e; clear e; obtain ⟨⟨b0, b1⟩, e⟩ := g
  rw [← Option.some.inj e] at hq
  exact k_21_22 b0 b1 hq
noncomputable def R_21_0 (v1 : Nat) (v2 : Int32) (h : Hp) : Option (Int32 × Hp) := gd (IA 2 v2 ∧ sh v1 = (1, 3) ∧ IA (v1 + 2) v2 ∧ IA (v1 + 1) v2) (bndI (S_22 (h 2 (Int32.toNatClampNeg v2)) (h (v1 + 2) (Int32.toNatClampNeg v2)) (h (v1 + 1) (Int32.toNatClampNeg v2)) v2 h) (R_21_22 v2))
theorem r_21_0 {X : GX} {d : Nat} {r : Int32 × Hp} (hd : 2 ≤ d) (hq : RtX X (some (.int r.1)) r.2) {h : Hp} {v1 : Nat} {v2 : Int32} (e : R_21_0 v1 v2 h = some r) : G X d 21 0 [some (.ref 1), some (.ref v1), some (.int v2)] [] h := by
  unfold R_21_0 at e
  have g := gd_s e; clear e; obtain ⟨⟨b0, o1, b2, b3⟩, e⟩ := g
  obtain ⟨x, h2, e1, e2⟩ := bndI_s e
  refine k_21_0 b0 o1 b2 b3 (by omega) (t_22 e1) ?_
  rintro _ _ ⟨rfl, rfl⟩
  exact r_21_22 hd hq e2
noncomputable def S_21 (v1 : Nat) (v2 : Int32) (h : Hp) : Option (Int32 × Hp) := R_21_0 v1 v2 h
set_option maxRecDepth 100000 in
theorem t_21 {v1 : Nat} {v2 : Int32} {h : Hp} {r : Int32 × Hp} (e : S_21 v1 v2 h = some r) : CI 2 21 [.ref 1, .ref v1, .int v2] h (fun x g => x = r.1 ∧ g = r.2) := by
  refine C.of mo_21 (Nat.le_of_ble_eq_true rfl) (fun X hq => ?_)
  exact r_21_0 (Nat.le_refl _) (hq _ _ ⟨_, rfl, rfl, rfl⟩) e
/-! 26 PlayedTruth$Kind.isAs(II)Z -/
noncomputable def R_26_9 (h : Hp) : Option (Int32 × Hp) := some (1, h)
theorem r_26_9 {X : GX} {d : Nat} {r : Int32 × Hp} (hd : 1 ≤ d) (hq : RtX X (some (.int r.1)) r.2) {h : Hp} (e : R_26_9 h = some r) : G X d 26 9 [none, none] [] h := by
  unfold R_26_9 at e
  rw [← Option.some.inj e] at hq
  exact k_26_9 hq
noncomputable def R_26_35 (h : Hp) : Option (Int32 × Hp) := some (0, h)
theorem r_26_35 {X : GX} {d : Nat} {r : Int32 × Hp} (hd : 1 ≤ d) (hq : RtX X (some (.int r.1)) r.2) {h : Hp} (e : R_26_35 h = some r) : G X d 26 35 [none, none] [] h := by
  unfold R_26_35 at e
  rw [← Option.some.inj e] at hq
  exact k_26_35 hq
noncomputable def R_26_31 (h : Hp) : Option (Int32 × Hp) := some (1, h)
theorem r_26_31 {X : GX} {d : Nat} {r : Int32 × Hp} (hd : 1 ≤ d) (hq : RtX X (some (.int r.1)) r.2) {h : Hp} (e : R_26_31 h = some r) : G X d 26 31 [none, none] [] h := by
  unfold R_26_31 at e
  rw [← Option.some.inj e] at hq
  exact k_26_31 hq
noncomputable def R_26_26 (v1 : Int32) (h : Hp) : Option (Int32 × Hp) := if v1 = 4 then R_26_31 h else R_26_35 h
theorem r_26_26 {X : GX} {d : Nat} {r : Int32 × Hp} (hd : 1 ≤ d) (hq : RtX X (some (.int r.1)) r.2) {h : Hp} {v1 : Int32} (e : R_26_26 v1 h = some r) : G X d 26 26 [none, some (.int v1)] [] h := by
  unfold R_26_26 at e
  refine k_26_26 (fun c => ?_) (fun c => ?_)
  · rw [if_neg c] at e; exact r_26_35 hd hq e
  · rw [if_pos c] at e; exact r_26_31 hd hq e
noncomputable def R_26_21 (v0 : Int32) (v1 : Int32) (h : Hp) : Option (Int32 × Hp) := if v0 = 5 then R_26_26 v1 h else R_26_35 h
theorem r_26_21 {X : GX} {d : Nat} {r : Int32 × Hp} (hd : 1 ≤ d) (hq : RtX X (some (.int r.1)) r.2) {h : Hp} {v0 : Int32} {v1 : Int32} (e : R_26_21 v0 v1 h = some r) : G X d 26 21 [some (.int v0), some (.int v1)] [] h := by
  unfold R_26_21 at e
  refine k_26_21 (fun c => ?_) (fun c => ?_)
  · rw [if_neg c] at e; exact r_26_35 hd hq e
  · rw [if_pos c] at e; exact r_26_26 hd hq e
noncomputable def R_26_16 (v0 : Int32) (v1 : Int32) (h : Hp) : Option (Int32 × Hp) := if v1 = 2 then R_26_31 h else R_26_21 v0 v1 h
theorem r_26_16 {X : GX} {d : Nat} {r : Int32 × Hp} (hd : 1 ≤ d) (hq : RtX X (some (.int r.1)) r.2) {h : Hp} {v0 : Int32} {v1 : Int32} (e : R_26_16 v0 v1 h = some r) : G X d 26 16 [some (.int v0), some (.int v1)] [] h := by
  unfold R_26_16 at e
  refine k_26_16 (fun c => ?_) (fun c => ?_)
  · rw [if_pos c] at e; exact r_26_31 hd hq e
  · rw [if_neg c] at e; exact r_26_21 hd hq e
noncomputable def R_26_11 (v0 : Int32) (v1 : Int32) (h : Hp) : Option (Int32 × Hp) := if v0 = 3 then R_26_16 v0 v1 h else R_26_21 v0 v1 h
theorem r_26_11 {X : GX} {d : Nat} {r : Int32 × Hp} (hd : 1 ≤ d) (hq : RtX X (some (.int r.1)) r.2) {h : Hp} {v0 : Int32} {v1 : Int32} (e : R_26_11 v0 v1 h = some r) : G X d 26 11 [some (.int v0), some (.int v1)] [] h := by
  unfold R_26_11 at e
  refine k_26_11 (fun c => ?_) (fun c => ?_)
  · rw [if_neg c] at e; exact r_26_21 hd hq e
  · rw [if_pos c] at e; exact r_26_16 hd hq e
noncomputable def R_26_5 (v0 : Int32) (v1 : Int32) (h : Hp) : Option (Int32 × Hp) := if v1 = 0 then R_26_9 h else R_26_11 v0 v1 h
theorem r_26_5 {X : GX} {d : Nat} {r : Int32 × Hp} (hd : 1 ≤ d) (hq : RtX X (some (.int r.1)) r.2) {h : Hp} {v0 : Int32} {v1 : Int32} (e : R_26_5 v0 v1 h = some r) : G X d 26 5 [some (.int v0), some (.int v1)] [] h := by
  unfold R_26_5 at e
  refine k_26_5 (fun c => ?_) (fun c => ?_)
  · rw [if_neg c] at e; exact r_26_11 hd hq e
  · rw [if_pos c] at e; exact r_26_9 hd hq e
noncomputable def R_26_0 (v0 : Int32) (v1 : Int32) (h : Hp) : Option (Int32 × Hp) := if v0 = v1 then R_26_9 h else R_26_5 v0 v1 h
theorem r_26_0 {X : GX} {d : Nat} {r : Int32 × Hp} (hd : 1 ≤ d) (hq : RtX X (some (.int r.1)) r.2) {h : Hp} {v0 : Int32} {v1 : Int32} (e : R_26_0 v0 v1 h = some r) : G X d 26 0 [some (.int v0), some (.int v1)] [] h := by
  unfold R_26_0 at e
  refine k_26_0 (fun c => ?_) (fun c => ?_)
  · rw [if_pos c] at e; exact r_26_9 hd hq e
  · rw [if_neg c] at e; exact r_26_5 hd hq e
noncomputable def S_26 (v0 : Int32) (v1 : Int32) (h : Hp) : Option (Int32 × Hp) := R_26_0 v0 v1 h
set_option maxRecDepth 100000 in
theorem t_26 {v0 : Int32} {v1 : Int32} {h : Hp} {r : Int32 × Hp} (e : S_26 v0 v1 h = some r) : CI 1 26 [.int v0, .int v1] h (fun x g => x = r.1 ∧ g = r.2) := by
  refine C.of mo_26 (Nat.le_of_ble_eq_true rfl) (fun X hq => ?_)
  exact r_26_0 (Nat.le_refl _) (hq _ _ ⟨_, rfl, rfl, rfl⟩) e
/-! 27 PlayedTruth$Rules.holds(II[I)Z -/
noncomputable def R_27_283 (h : Hp) : Option (Int32 × Hp) := some (0, h)
theorem r_27_283 {X : GX} {d : Nat} {r : Int32 × Hp} (hd : 1 ≤ d) (hq : RtX X (some (.int r.1)) r.2) {h : Hp} (e : R_27_283 h = some r) : G X d 27 283 [none, none, none, none, none, none, none, none, none, none, none, none, none] [] h := by
  unfold R_27_283 at e
  rw [← Option.some.inj e] at hq
  exact k_27_283 hq
noncomputable def R_27_279 (h : Hp) : Option (Int32 × Hp) := some (1, h)
theorem r_27_279 {X : GX} {d : Nat} {r : Int32 × Hp} (hd : 1 ≤ d) (hq : RtX X (some (.int r.1)) r.2) {h : Hp} (e : R_27_279 h = some r) : G X d 27 279 [none, none, none, none, none, none, none, none, none, none, none, none, none] [] h := by
  unfold R_27_279 at e
  rw [← Option.some.inj e] at hq
  exact k_27_279 hq
noncomputable def R_27_271 (v4 : Int32) (h : Hp) : Option (Int32 × Hp) := if (v4 &&& 1) = 1 then R_27_279 h else R_27_283 h
theorem r_27_271 {X : GX} {d : Nat} {r : Int32 × Hp} (hd : 1 ≤ d) (hq : RtX X (some (.int r.1)) r.2) {h : Hp} {v4 : Int32} (e : R_27_271 v4 h = some r) : G X d 27 271 [none, none, none, none, some (.int v4), none, none, none, none, none, none, none, none] [] h := by
  unfold R_27_271 at e
  refine k_27_271 (fun c => ?_) (fun c => ?_)
  · rw [if_neg c] at e; exact r_27_283 hd hq e
  · rw [if_pos c] at e; exact r_27_279 hd hq e
noncomputable def R_27_265 (rec_15 : Int32 → Nat → Int32 → Int32 → Hp → Option (Int32 × Hp)) (v2 : Int32) (v3 : Nat) (v4 : Int32) (v5 : Int32) (h : Hp) : Option (Int32 × Hp) := rec_15 v2 v3 v4 (v5 + 1) h
theorem r_27_265 {X : GX} {d : Nat} {r : Int32 × Hp} (hd : 1 ≤ d) (hq : RtX X (some (.int r.1)) r.2) {rec_15 : Int32 → Nat → Int32 → Int32 → Hp → Option (Int32 × Hp)} (hr_15 : ∀ {v2 : Int32} {v3 : Nat} {v4 : Int32} {v5 : Int32} {h : Hp}, rec_15 v2 v3 v4 v5 h = some r → G X d 27 15 [some (.ref 7), none, some (.int v2), some (.ref v3), some (.int v4), some (.int v5), none, none, none, none, none, none, none] [] h) {h : Hp} {v2 : Int32} {v3 : Nat} {v4 : Int32} {v5 : Int32} (e : R_27_265 rec_15 v2 v3 v4 v5 h = some r) : G X d 27 265 [some (.ref 7), none, some (.int v2), some (.ref v3), some (.int v4), some (.int v5), none, none, none, none, none, none, none] [] h := by
  unfold R_27_265 at e
  exact k_27_265 (hr_15 e)
noncomputable def R_27_258 (rec_15 : Int32 → Nat → Int32 → Int32 → Hp → Option (Int32 × Hp)) (v2 : Int32) (v3 : Nat) (v5 : Int32) (s0 : Int32) (h : Hp) : Option (Int32 × Hp) := rec_15 v2 v3 (s0 ||| 0) ((v5 + 2) + 1) h
theorem r_27_258 {X : GX} {d : Nat} {r : Int32 × Hp} (hd : 1 ≤ d) (hq : RtX X (some (.int r.1)) r.2) {rec_15 : Int32 → Nat → Int32 → Int32 → Hp → Option (Int32 × Hp)} (hr_15 : ∀ {v2 : Int32} {v3 : Nat} {v4 : Int32} {v5 : Int32} {h : Hp}, rec_15 v2 v3 v4 v5 h = some r → G X d 27 15 [some (.ref 7), none, some (.int v2), some (.ref v3), some (.int v4), some (.int v5), none, none, none, none, none, none, none] [] h) {h : Hp} {v2 : Int32} {v3 : Nat} {v5 : Int32} {s0 : Int32} (e : R_27_258 rec_15 v2 v3 v5 s0 h = some r) : G X d 27 258 [some (.ref 7), none, some (.int v2), some (.ref v3), none, some (.int v5), none, none, none, none, none, none, none] [.int s0] h := by
  unfold R_27_258 at e
  exact k_27_258 (hr_15 e)
noncomputable def R_27_254 (rec_15 : Int32 → Nat → Int32 → Int32 → Hp → Option (Int32 × Hp)) (v2 : Int32) (v3 : Nat) (v5 : Int32) (s0 : Int32) (h : Hp) : Option (Int32 × Hp) := rec_15 v2 v3 (s0 ||| 1) ((v5 + 2) + 1) h
theorem r_27_254 {X : GX} {d : Nat} {r : Int32 × Hp} (hd : 1 ≤ d) (hq : RtX X (some (.int r.1)) r.2) {rec_15 : Int32 → Nat → Int32 → Int32 → Hp → Option (Int32 × Hp)} (hr_15 : ∀ {v2 : Int32} {v3 : Nat} {v4 : Int32} {v5 : Int32} {h : Hp}, rec_15 v2 v3 v4 v5 h = some r → G X d 27 15 [some (.ref 7), none, some (.int v2), some (.ref v3), some (.int v4), some (.int v5), none, none, none, none, none, none, none] [] h) {h : Hp} {v2 : Int32} {v3 : Nat} {v5 : Int32} {s0 : Int32} (e : R_27_254 rec_15 v2 v3 v5 s0 h = some r) : G X d 27 254 [some (.ref 7), none, some (.int v2), some (.ref v3), none, some (.int v5), none, none, none, none, none, none, none] [.int s0] h := by
  unfold R_27_254 at e
  exact k_27_254 (hr_15 e)
noncomputable def R_27_245 (rec_15 : Int32 → Nat → Int32 → Int32 → Hp → Option (Int32 × Hp)) (v2 : Int32) (v3 : Nat) (v4 : Int32) (v5 : Int32) (v12 : Int32) (h : Hp) : Option (Int32 × Hp) := if v12 = 0 then R_27_258 rec_15 v2 v3 v5 (v4 <<< (1 &&& 31)) h else R_27_254 rec_15 v2 v3 v5 (v4 <<< (1 &&& 31)) h
theorem r_27_245 {X : GX} {d : Nat} {r : Int32 × Hp} (hd : 1 ≤ d) (hq : RtX X (some (.int r.1)) r.2) {rec_15 : Int32 → Nat → Int32 → Int32 → Hp → Option (Int32 × Hp)} (hr_15 : ∀ {v2 : Int32} {v3 : Nat} {v4 : Int32} {v5 : Int32} {h : Hp}, rec_15 v2 v3 v4 v5 h = some r → G X d 27 15 [some (.ref 7), none, some (.int v2), some (.ref v3), some (.int v4), some (.int v5), none, none, none, none, none, none, none] [] h) {h : Hp} {v2 : Int32} {v3 : Nat} {v4 : Int32} {v5 : Int32} {v12 : Int32} (e : R_27_245 rec_15 v2 v3 v4 v5 v12 h = some r) : G X d 27 245 [some (.ref 7), none, some (.int v2), some (.ref v3), some (.int v4), some (.int v5), none, none, none, none, none, none, some (.int v12)] [] h := by
  unfold R_27_245 at e
  refine k_27_245 (fun c => ?_) (fun c => ?_)
  · rw [if_pos c] at e; exact r_27_258 hd hq hr_15 e
  · rw [if_neg c] at e; exact r_27_254 hd hq hr_15 e
noncomputable def R_27_242 (rec_15 : Int32 → Nat → Int32 → Int32 → Hp → Option (Int32 × Hp)) (v2 : Int32) (v3 : Nat) (v4 : Int32) (v5 : Int32) (h : Hp) : Option (Int32 × Hp) := rec_15 v2 v3 ((v4 <<< (1 &&& 31)) ||| 0) ((v5 + 2) + 1) h
theorem r_27_242 {X : GX} {d : Nat} {r : Int32 × Hp} (hd : 1 ≤ d) (hq : RtX X (some (.int r.1)) r.2) {rec_15 : Int32 → Nat → Int32 → Int32 → Hp → Option (Int32 × Hp)} (hr_15 : ∀ {v2 : Int32} {v3 : Nat} {v4 : Int32} {v5 : Int32} {h : Hp}, rec_15 v2 v3 v4 v5 h = some r → G X d 27 15 [some (.ref 7), none, some (.int v2), some (.ref v3), some (.int v4), some (.int v5), none, none, none, none, none, none, none] [] h) {h : Hp} {v2 : Int32} {v3 : Nat} {v4 : Int32} {v5 : Int32} (e : R_27_242 rec_15 v2 v3 v4 v5 h = some r) : G X d 27 242 [some (.ref 7), none, some (.int v2), some (.ref v3), some (.int v4), some (.int v5), none, none, none, none, none, none, none] [] h := by
  unfold R_27_242 at e
  exact k_27_242 (hr_15 e)
noncomputable def R_27_238 (rec_15 : Int32 → Nat → Int32 → Int32 → Hp → Option (Int32 × Hp)) (v2 : Int32) (v3 : Nat) (v4 : Int32) (v5 : Int32) (h : Hp) : Option (Int32 × Hp) := rec_15 v2 v3 ((v4 <<< (1 &&& 31)) ||| 1) ((v5 + 2) + 1) h
theorem r_27_238 {X : GX} {d : Nat} {r : Int32 × Hp} (hd : 1 ≤ d) (hq : RtX X (some (.int r.1)) r.2) {rec_15 : Int32 → Nat → Int32 → Int32 → Hp → Option (Int32 × Hp)} (hr_15 : ∀ {v2 : Int32} {v3 : Nat} {v4 : Int32} {v5 : Int32} {h : Hp}, rec_15 v2 v3 v4 v5 h = some r → G X d 27 15 [some (.ref 7), none, some (.int v2), some (.ref v3), some (.int v4), some (.int v5), none, none, none, none, none, none, none] [] h) {h : Hp} {v2 : Int32} {v3 : Nat} {v4 : Int32} {v5 : Int32} (e : R_27_238 rec_15 v2 v3 v4 v5 h = some r) : G X d 27 238 [some (.ref 7), none, some (.int v2), some (.ref v3), some (.int v4), some (.int v5), none, none, none, none, none, none, none] [] h := by
  unfold R_27_238 at e
  exact k_27_238 (hr_15 e)
noncomputable def R_27_231 (rec_15 : Int32 → Nat → Int32 → Int32 → Hp → Option (Int32 × Hp)) (v2 : Int32) (v3 : Nat) (v4 : Int32) (v5 : Int32) (v10 : Int32) (v11 : Int32) (h : Hp) : Option (Int32 × Hp) := if v10 ≤ v11 then R_27_242 rec_15 v2 v3 v4 v5 h else R_27_238 rec_15 v2 v3 v4 v5 h
theorem r_27_231 {X : GX} {d : Nat} {r : Int32 × Hp} (hd : 1 ≤ d) (hq : RtX X (some (.int r.1)) r.2) {rec_15 : Int32 → Nat → Int32 → Int32 → Hp → Option (Int32 × Hp)} (hr_15 : ∀ {v2 : Int32} {v3 : Nat} {v4 : Int32} {v5 : Int32} {h : Hp}, rec_15 v2 v3 v4 v5 h = some r → G X d 27 15 [some (.ref 7), none, some (.int v2), some (.ref v3), some (.int v4), some (.int v5), none, none, none, none, none, none, none] [] h) {h : Hp} {v2 : Int32} {v3 : Nat} {v4 : Int32} {v5 : Int32} {v10 : Int32} {v11 : Int32} (e : R_27_231 rec_15 v2 v3 v4 v5 v10 v11 h = some r) : G X d 27 231 [some (.ref 7), none, some (.int v2), some (.ref v3), some (.int v4), some (.int v5), none, none, none, none, some (.int v10), some (.int v11), none] [] h := by
  unfold R_27_231 at e
  refine k_27_231 (fun c => ?_) (fun c => ?_)
  · rw [if_pos c] at e; exact r_27_242 hd hq hr_15 e
  · rw [if_neg c] at e; exact r_27_238 hd hq hr_15 e
noncomputable def R_27_224 (rec_15 : Int32 → Nat → Int32 → Int32 → Hp → Option (Int32 × Hp)) (v2 : Int32) (v3 : Nat) (v4 : Int32) (v5 : Int32) (v6 : Int32) (v10 : Int32) (v11 : Int32) (v12 : Int32) (h : Hp) : Option (Int32 × Hp) := if v6 = 22 then R_27_231 rec_15 v2 v3 v4 v5 v10 v11 h else R_27_245 rec_15 v2 v3 v4 v5 v12 h
theorem r_27_224 {X : GX} {d : Nat} {r : Int32 × Hp} (hd : 1 ≤ d) (hq : RtX X (some (.int r.1)) r.2) {rec_15 : Int32 → Nat → Int32 → Int32 → Hp → Option (Int32 × Hp)} (hr_15 : ∀ {v2 : Int32} {v3 : Nat} {v4 : Int32} {v5 : Int32} {h : Hp}, rec_15 v2 v3 v4 v5 h = some r → G X d 27 15 [some (.ref 7), none, some (.int v2), some (.ref v3), some (.int v4), some (.int v5), none, none, none, none, none, none, none] [] h) {h : Hp} {v2 : Int32} {v3 : Nat} {v4 : Int32} {v5 : Int32} {v6 : Int32} {v10 : Int32} {v11 : Int32} {v12 : Int32} (e : R_27_224 rec_15 v2 v3 v4 v5 v6 v10 v11 v12 h = some r) : G X d 27 224 [some (.ref 7), none, some (.int v2), some (.ref v3), some (.int v4), some (.int v5), some (.int v6), none, none, none, some (.int v10), some (.int v11), some (.int v12)] [] h := by
  unfold R_27_224 at e
  refine k_27_224 (fun c => ?_) (fun c => ?_)
  · rw [if_neg c] at e; exact r_27_245 hd hq hr_15 e
  · rw [if_pos c] at e; exact r_27_231 hd hq hr_15 e
noncomputable def R_27_221 (rec_15 : Int32 → Nat → Int32 → Int32 → Hp → Option (Int32 × Hp)) (v2 : Int32) (v3 : Nat) (v4 : Int32) (v5 : Int32) (v6 : Int32) (v10 : Int32) (v11 : Int32) (h : Hp) : Option (Int32 × Hp) := if v6 = 22 then R_27_231 rec_15 v2 v3 v4 v5 v10 v11 h else R_27_245 rec_15 v2 v3 v4 v5 0 h
theorem r_27_221 {X : GX} {d : Nat} {r : Int32 × Hp} (hd : 1 ≤ d) (hq : RtX X (some (.int r.1)) r.2) {rec_15 : Int32 → Nat → Int32 → Int32 → Hp → Option (Int32 × Hp)} (hr_15 : ∀ {v2 : Int32} {v3 : Nat} {v4 : Int32} {v5 : Int32} {h : Hp}, rec_15 v2 v3 v4 v5 h = some r → G X d 27 15 [some (.ref 7), none, some (.int v2), some (.ref v3), some (.int v4), some (.int v5), none, none, none, none, none, none, none] [] h) {h : Hp} {v2 : Int32} {v3 : Nat} {v4 : Int32} {v5 : Int32} {v6 : Int32} {v10 : Int32} {v11 : Int32} (e : R_27_221 rec_15 v2 v3 v4 v5 v6 v10 v11 h = some r) : G X d 27 221 [some (.ref 7), none, some (.int v2), some (.ref v3), some (.int v4), some (.int v5), some (.int v6), none, none, none, some (.int v10), some (.int v11), none] [] h := by
  unfold R_27_221 at e
  refine k_27_221 (fun c => ?_) (fun c => ?_)
  · rw [if_neg c] at e; exact r_27_245 hd hq hr_15 e
  · rw [if_pos c] at e; exact r_27_231 hd hq hr_15 e
noncomputable def R_27_217 (rec_15 : Int32 → Nat → Int32 → Int32 → Hp → Option (Int32 × Hp)) (v2 : Int32) (v3 : Nat) (v4 : Int32) (v5 : Int32) (v6 : Int32) (v10 : Int32) (v11 : Int32) (h : Hp) : Option (Int32 × Hp) := if v6 = 22 then R_27_231 rec_15 v2 v3 v4 v5 v10 v11 h else R_27_245 rec_15 v2 v3 v4 v5 1 h
theorem r_27_217 {X : GX} {d : Nat} {r : Int32 × Hp} (hd : 1 ≤ d) (hq : RtX X (some (.int r.1)) r.2) {rec_15 : Int32 → Nat → Int32 → Int32 → Hp → Option (Int32 × Hp)} (hr_15 : ∀ {v2 : Int32} {v3 : Nat} {v4 : Int32} {v5 : Int32} {h : Hp}, rec_15 v2 v3 v4 v5 h = some r → G X d 27 15 [some (.ref 7), none, some (.int v2), some (.ref v3), some (.int v4), some (.int v5), none, none, none, none, none, none, none] [] h) {h : Hp} {v2 : Int32} {v3 : Nat} {v4 : Int32} {v5 : Int32} {v6 : Int32} {v10 : Int32} {v11 : Int32} (e : R_27_217 rec_15 v2 v3 v4 v5 v6 v10 v11 h = some r) : G X d 27 217 [some (.ref 7), none, some (.int v2), some (.ref v3), some (.int v4), some (.int v5), some (.int v6), none, none, none, some (.int v10), some (.int v11), none] [] h := by
  unfold R_27_217 at e
  refine k_27_217 (fun c => ?_) (fun c => ?_)
  · rw [if_neg c] at e; exact r_27_245 hd hq hr_15 e
  · rw [if_pos c] at e; exact r_27_231 hd hq hr_15 e
noncomputable def R_27_210 (rec_15 : Int32 → Nat → Int32 → Int32 → Hp → Option (Int32 × Hp)) (v2 : Int32) (v3 : Nat) (v4 : Int32) (v5 : Int32) (v6 : Int32) (v10 : Int32) (v11 : Int32) (h : Hp) : Option (Int32 × Hp) := if v11 ≤ v10 then R_27_221 rec_15 v2 v3 v4 v5 v6 v10 v11 h else R_27_217 rec_15 v2 v3 v4 v5 v6 v10 v11 h
theorem r_27_210 {X : GX} {d : Nat} {r : Int32 × Hp} (hd : 1 ≤ d) (hq : RtX X (some (.int r.1)) r.2) {rec_15 : Int32 → Nat → Int32 → Int32 → Hp → Option (Int32 × Hp)} (hr_15 : ∀ {v2 : Int32} {v3 : Nat} {v4 : Int32} {v5 : Int32} {h : Hp}, rec_15 v2 v3 v4 v5 h = some r → G X d 27 15 [some (.ref 7), none, some (.int v2), some (.ref v3), some (.int v4), some (.int v5), none, none, none, none, none, none, none] [] h) {h : Hp} {v2 : Int32} {v3 : Nat} {v4 : Int32} {v5 : Int32} {v6 : Int32} {v10 : Int32} {v11 : Int32} (e : R_27_210 rec_15 v2 v3 v4 v5 v6 v10 v11 h = some r) : G X d 27 210 [some (.ref 7), none, some (.int v2), some (.ref v3), some (.int v4), some (.int v5), some (.int v6), none, none, none, some (.int v10), some (.int v11), none] [] h := by
  unfold R_27_210 at e
  refine k_27_210 (fun c => ?_) (fun c => ?_)
  · rw [if_pos c] at e; exact r_27_221 hd hq hr_15 e
  · rw [if_neg c] at e; exact r_27_217 hd hq hr_15 e
noncomputable def R_27_200 (rec_15 : Int32 → Nat → Int32 → Int32 → Hp → Option (Int32 × Hp)) (v2 : Int32) (v3 : Nat) (v4 : Int32) (v5 : Int32) (v6 : Int32) (v10 : Int32) (v11 : Int32) (h : Hp) : Option (Int32 × Hp) := if v6 = 20 then R_27_210 rec_15 v2 v3 v4 v5 v6 v10 v11 h else R_27_224 rec_15 v2 v3 v4 v5 v6 v10 v11 0 h
theorem r_27_200 {X : GX} {d : Nat} {r : Int32 × Hp} (hd : 1 ≤ d) (hq : RtX X (some (.int r.1)) r.2) {rec_15 : Int32 → Nat → Int32 → Int32 → Hp → Option (Int32 × Hp)} (hr_15 : ∀ {v2 : Int32} {v3 : Nat} {v4 : Int32} {v5 : Int32} {h : Hp}, rec_15 v2 v3 v4 v5 h = some r → G X d 27 15 [some (.ref 7), none, some (.int v2), some (.ref v3), some (.int v4), some (.int v5), none, none, none, none, none, none, none] [] h) {h : Hp} {v2 : Int32} {v3 : Nat} {v4 : Int32} {v5 : Int32} {v6 : Int32} {v10 : Int32} {v11 : Int32} (e : R_27_200 rec_15 v2 v3 v4 v5 v6 v10 v11 h = some r) : G X d 27 200 [some (.ref 7), none, some (.int v2), some (.ref v3), some (.int v4), some (.int v5), some (.int v6), none, none, none, some (.int v10), some (.int v11), none] [] h := by
  unfold R_27_200 at e
  refine k_27_200 (fun c => ?_) (fun c => ?_)
  · rw [if_neg c] at e; exact r_27_224 hd hq hr_15 e
  · rw [if_pos c] at e; exact r_27_210 hd hq hr_15 e
noncomputable def R_27_196 (rec_15 : Int32 → Nat → Int32 → Int32 → Hp → Option (Int32 × Hp)) (v2 : Int32) (v3 : Nat) (v4 : Int32) (v5 : Int32) (v6 : Int32) (v10 : Int32) (v11 : Int32) (h : Hp) : Option (Int32 × Hp) := if v6 = 20 then R_27_210 rec_15 v2 v3 v4 v5 v6 v10 v11 h else R_27_224 rec_15 v2 v3 v4 v5 v6 v10 v11 1 h
theorem r_27_196 {X : GX} {d : Nat} {r : Int32 × Hp} (hd : 1 ≤ d) (hq : RtX X (some (.int r.1)) r.2) {rec_15 : Int32 → Nat → Int32 → Int32 → Hp → Option (Int32 × Hp)} (hr_15 : ∀ {v2 : Int32} {v3 : Nat} {v4 : Int32} {v5 : Int32} {h : Hp}, rec_15 v2 v3 v4 v5 h = some r → G X d 27 15 [some (.ref 7), none, some (.int v2), some (.ref v3), some (.int v4), some (.int v5), none, none, none, none, none, none, none] [] h) {h : Hp} {v2 : Int32} {v3 : Nat} {v4 : Int32} {v5 : Int32} {v6 : Int32} {v10 : Int32} {v11 : Int32} (e : R_27_196 rec_15 v2 v3 v4 v5 v6 v10 v11 h = some r) : G X d 27 196 [some (.ref 7), none, some (.int v2), some (.ref v3), some (.int v4), some (.int v5), some (.int v6), none, none, none, some (.int v10), some (.int v11), none] [] h := by
  unfold R_27_196 at e
  refine k_27_196 (fun c => ?_) (fun c => ?_)
  · rw [if_neg c] at e; exact r_27_224 hd hq hr_15 e
  · rw [if_pos c] at e; exact r_27_210 hd hq hr_15 e
noncomputable def R_27_178 (rec_15 : Int32 → Nat → Int32 → Int32 → Hp → Option (Int32 × Hp)) (v2 : Int32) (v3 : Nat) (v4 : Int32) (v5 : Int32) (v6 : Int32) (v10 : Int32) (h : Hp) : Option (Int32 × Hp) := gd (IA 11 (v5 + 2)) (if v10 = (h 11 (Int32.toNatClampNeg (v5 + 2))) then R_27_196 rec_15 v2 v3 v4 v5 v6 v10 (h 11 (Int32.toNatClampNeg (v5 + 2))) h else R_27_200 rec_15 v2 v3 v4 v5 v6 v10 (h 11 (Int32.toNatClampNeg (v5 + 2))) h)
theorem r_27_178 {X : GX} {d : Nat} {r : Int32 × Hp} (hd : 1 ≤ d) (hq : RtX X (some (.int r.1)) r.2) {rec_15 : Int32 → Nat → Int32 → Int32 → Hp → Option (Int32 × Hp)} (hr_15 : ∀ {v2 : Int32} {v3 : Nat} {v4 : Int32} {v5 : Int32} {h : Hp}, rec_15 v2 v3 v4 v5 h = some r → G X d 27 15 [some (.ref 7), none, some (.int v2), some (.ref v3), some (.int v4), some (.int v5), none, none, none, none, none, none, none] [] h) {h : Hp} {v2 : Int32} {v3 : Nat} {v4 : Int32} {v5 : Int32} {v6 : Int32} {v10 : Int32} (e : R_27_178 rec_15 v2 v3 v4 v5 v6 v10 h = some r) : G X d 27 178 [some (.ref 7), none, some (.int v2), some (.ref v3), some (.int v4), some (.int v5), some (.int v6), none, none, none, some (.int v10), none, none] [] h := by
  unfold R_27_178 at e
  have g := gd_s e; clear e; obtain ⟨b0, e⟩ := g
  refine k_27_178 b0 (fun c => ?_) (fun c => ?_)
  · rw [if_neg c] at e; exact r_27_200 hd hq hr_15 e
  · rw [if_pos c] at e; exact r_27_196 hd hq hr_15 e
noncomputable def R_27_171 (rec_15 : Int32 → Nat → Int32 → Int32 → Hp → Option (Int32 × Hp)) (v2 : Int32) (v3 : Nat) (v4 : Int32) (v5 : Int32) (v6 : Int32) (v9 : Int32) (v10 : Int32) (h : Hp) : Option (Int32 × Hp) := gd (IA v3 v9) (if v10 = (h v3 (Int32.toNatClampNeg v9)) then R_27_196 rec_15 v2 v3 v4 v5 v6 v10 (h v3 (Int32.toNatClampNeg v9)) h else R_27_200 rec_15 v2 v3 v4 v5 v6 v10 (h v3 (Int32.toNatClampNeg v9)) h)
theorem r_27_171 {X : GX} {d : Nat} {r : Int32 × Hp} (hd : 1 ≤ d) (hq : RtX X (some (.int r.1)) r.2) {rec_15 : Int32 → Nat → Int32 → Int32 → Hp → Option (Int32 × Hp)} (hr_15 : ∀ {v2 : Int32} {v3 : Nat} {v4 : Int32} {v5 : Int32} {h : Hp}, rec_15 v2 v3 v4 v5 h = some r → G X d 27 15 [some (.ref 7), none, some (.int v2), some (.ref v3), some (.int v4), some (.int v5), none, none, none, none, none, none, none] [] h) {h : Hp} {v2 : Int32} {v3 : Nat} {v4 : Int32} {v5 : Int32} {v6 : Int32} {v9 : Int32} {v10 : Int32} (e : R_27_171 rec_15 v2 v3 v4 v5 v6 v9 v10 h = some r) : G X d 27 171 [some (.ref 7), none, some (.int v2), some (.ref v3), some (.int v4), some (.int v5), some (.int v6), none, none, some (.int v9), some (.int v10), none, none] [] h := by
  unfold R_27_171 at e
  have g := gd_s e; clear e; obtain ⟨b0, e⟩ := g
  refine k_27_171 b0 (fun c => ?_) (fun c => ?_)
  · rw [if_neg c] at e; exact r_27_200 hd hq hr_15 e
  · rw [if_pos c] at e; exact r_27_196 hd hq hr_15 e
noncomputable def R_27_165 (rec_15 : Int32 → Nat → Int32 → Int32 → Hp → Option (Int32 × Hp)) (v2 : Int32) (v3 : Nat) (v4 : Int32) (v5 : Int32) (v6 : Int32) (v9 : Int32) (v10 : Int32) (h : Hp) : Option (Int32 × Hp) := if 5 ≤ v9 then R_27_178 rec_15 v2 v3 v4 v5 v6 v10 h else R_27_171 rec_15 v2 v3 v4 v5 v6 v9 v10 h
theorem r_27_165 {X : GX} {d : Nat} {r : Int32 × Hp} (hd : 1 ≤ d) (hq : RtX X (some (.int r.1)) r.2) {rec_15 : Int32 → Nat → Int32 → Int32 → Hp → Option (Int32 × Hp)} (hr_15 : ∀ {v2 : Int32} {v3 : Nat} {v4 : Int32} {v5 : Int32} {h : Hp}, rec_15 v2 v3 v4 v5 h = some r → G X d 27 15 [some (.ref 7), none, some (.int v2), some (.ref v3), some (.int v4), some (.int v5), none, none, none, none, none, none, none] [] h) {h : Hp} {v2 : Int32} {v3 : Nat} {v4 : Int32} {v5 : Int32} {v6 : Int32} {v9 : Int32} {v10 : Int32} (e : R_27_165 rec_15 v2 v3 v4 v5 v6 v9 v10 h = some r) : G X d 27 165 [some (.ref 7), none, some (.int v2), some (.ref v3), some (.int v4), some (.int v5), some (.int v6), none, none, some (.int v9), some (.int v10), none, none] [] h := by
  unfold R_27_165 at e
  refine k_27_165 (fun c => ?_) (fun c => ?_)
  · rw [if_pos c] at e; exact r_27_178 hd hq hr_15 e
  · rw [if_neg c] at e; exact r_27_171 hd hq hr_15 e
noncomputable def R_27_149 (rec_15 : Int32 → Nat → Int32 → Int32 → Hp → Option (Int32 × Hp)) (v2 : Int32) (v3 : Nat) (v4 : Int32) (v5 : Int32) (v6 : Int32) (v9 : Int32) (h : Hp) : Option (Int32 × Hp) := gd (IA 11 (v5 + 1)) (if v9 < 0 then R_27_178 rec_15 v2 v3 v4 v5 v6 (h 11 (Int32.toNatClampNeg (v5 + 1))) h else R_27_165 rec_15 v2 v3 v4 v5 v6 v9 (h 11 (Int32.toNatClampNeg (v5 + 1))) h)
theorem r_27_149 {X : GX} {d : Nat} {r : Int32 × Hp} (hd : 1 ≤ d) (hq : RtX X (some (.int r.1)) r.2) {rec_15 : Int32 → Nat → Int32 → Int32 → Hp → Option (Int32 × Hp)} (hr_15 : ∀ {v2 : Int32} {v3 : Nat} {v4 : Int32} {v5 : Int32} {h : Hp}, rec_15 v2 v3 v4 v5 h = some r → G X d 27 15 [some (.ref 7), none, some (.int v2), some (.ref v3), some (.int v4), some (.int v5), none, none, none, none, none, none, none] [] h) {h : Hp} {v2 : Int32} {v3 : Nat} {v4 : Int32} {v5 : Int32} {v6 : Int32} {v9 : Int32} (e : R_27_149 rec_15 v2 v3 v4 v5 v6 v9 h = some r) : G X d 27 149 [some (.ref 7), none, some (.int v2), some (.ref v3), some (.int v4), some (.int v5), some (.int v6), none, none, some (.int v9), none, none, none] [] h := by
  unfold R_27_149 at e
  have g := gd_s e; clear e; obtain ⟨b0, e⟩ := g
  refine k_27_149 b0 (fun c => ?_) (fun c => ?_)
  · rw [if_pos c] at e; exact r_27_178 hd hq hr_15 e
  · rw [if_neg c] at e; exact r_27_165 hd hq hr_15 e
noncomputable def R_27_142 (rec_15 : Int32 → Nat → Int32 → Int32 → Hp → Option (Int32 × Hp)) (v2 : Int32) (v3 : Nat) (v4 : Int32) (v5 : Int32) (v6 : Int32) (v8 : Int32) (v9 : Int32) (h : Hp) : Option (Int32 × Hp) := gd (IA v3 v8) (if v9 < 0 then R_27_178 rec_15 v2 v3 v4 v5 v6 (h v3 (Int32.toNatClampNeg v8)) h else R_27_165 rec_15 v2 v3 v4 v5 v6 v9 (h v3 (Int32.toNatClampNeg v8)) h)
theorem r_27_142 {X : GX} {d : Nat} {r : Int32 × Hp} (hd : 1 ≤ d) (hq : RtX X (some (.int r.1)) r.2) {rec_15 : Int32 → Nat → Int32 → Int32 → Hp → Option (Int32 × Hp)} (hr_15 : ∀ {v2 : Int32} {v3 : Nat} {v4 : Int32} {v5 : Int32} {h : Hp}, rec_15 v2 v3 v4 v5 h = some r → G X d 27 15 [some (.ref 7), none, some (.int v2), some (.ref v3), some (.int v4), some (.int v5), none, none, none, none, none, none, none] [] h) {h : Hp} {v2 : Int32} {v3 : Nat} {v4 : Int32} {v5 : Int32} {v6 : Int32} {v8 : Int32} {v9 : Int32} (e : R_27_142 rec_15 v2 v3 v4 v5 v6 v8 v9 h = some r) : G X d 27 142 [some (.ref 7), none, some (.int v2), some (.ref v3), some (.int v4), some (.int v5), some (.int v6), none, some (.int v8), some (.int v9), none, none, none] [] h := by
  unfold R_27_142 at e
  have g := gd_s e; clear e; obtain ⟨b0, e⟩ := g
  refine k_27_142 b0 (fun c => ?_) (fun c => ?_)
  · rw [if_pos c] at e; exact r_27_178 hd hq hr_15 e
  · rw [if_neg c] at e; exact r_27_165 hd hq hr_15 e
noncomputable def R_27_136 (rec_15 : Int32 → Nat → Int32 → Int32 → Hp → Option (Int32 × Hp)) (v2 : Int32) (v3 : Nat) (v4 : Int32) (v5 : Int32) (v6 : Int32) (v8 : Int32) (v9 : Int32) (h : Hp) : Option (Int32 × Hp) := if 5 ≤ v8 then R_27_149 rec_15 v2 v3 v4 v5 v6 v9 h else R_27_142 rec_15 v2 v3 v4 v5 v6 v8 v9 h
theorem r_27_136 {X : GX} {d : Nat} {r : Int32 × Hp} (hd : 1 ≤ d) (hq : RtX X (some (.int r.1)) r.2) {rec_15 : Int32 → Nat → Int32 → Int32 → Hp → Option (Int32 × Hp)} (hr_15 : ∀ {v2 : Int32} {v3 : Nat} {v4 : Int32} {v5 : Int32} {h : Hp}, rec_15 v2 v3 v4 v5 h = some r → G X d 27 15 [some (.ref 7), none, some (.int v2), some (.ref v3), some (.int v4), some (.int v5), none, none, none, none, none, none, none] [] h) {h : Hp} {v2 : Int32} {v3 : Nat} {v4 : Int32} {v5 : Int32} {v6 : Int32} {v8 : Int32} {v9 : Int32} (e : R_27_136 rec_15 v2 v3 v4 v5 v6 v8 v9 h = some r) : G X d 27 136 [some (.ref 7), none, some (.int v2), some (.ref v3), some (.int v4), some (.int v5), some (.int v6), none, some (.int v8), some (.int v9), none, none, none] [] h := by
  unfold R_27_136 at e
  refine k_27_136 (fun c => ?_) (fun c => ?_)
  · rw [if_pos c] at e; exact r_27_149 hd hq hr_15 e
  · rw [if_neg c] at e; exact r_27_142 hd hq hr_15 e
noncomputable def R_27_101 (rec_15 : Int32 → Nat → Int32 → Int32 → Hp → Option (Int32 × Hp)) (v2 : Int32) (v3 : Nat) (v4 : Int32) (v5 : Int32) (v6 : Int32) (h : Hp) : Option (Int32 × Hp) := gd (IA 11 (v5 + 1) ∧ IA 11 (v5 + 2)) (if ((h 11 (Int32.toNatClampNeg (v5 + 1))) - 10000) < 0 then R_27_149 rec_15 v2 v3 v4 v5 v6 ((h 11 (Int32.toNatClampNeg (v5 + 2))) - 10000) h else R_27_136 rec_15 v2 v3 v4 v5 v6 ((h 11 (Int32.toNatClampNeg (v5 + 1))) - 10000) ((h 11 (Int32.toNatClampNeg (v5 + 2))) - 10000) h)
theorem r_27_101 {X : GX} {d : Nat} {r : Int32 × Hp} (hd : 1 ≤ d) (hq : RtX X (some (.int r.1)) r.2) {rec_15 : Int32 → Nat → Int32 → Int32 → Hp → Option (Int32 × Hp)} (hr_15 : ∀ {v2 : Int32} {v3 : Nat} {v4 : Int32} {v5 : Int32} {h : Hp}, rec_15 v2 v3 v4 v5 h = some r → G X d 27 15 [some (.ref 7), none, some (.int v2), some (.ref v3), some (.int v4), some (.int v5), none, none, none, none, none, none, none] [] h) {h : Hp} {v2 : Int32} {v3 : Nat} {v4 : Int32} {v5 : Int32} {v6 : Int32} (e : R_27_101 rec_15 v2 v3 v4 v5 v6 h = some r) : G X d 27 101 [some (.ref 7), none, some (.int v2), some (.ref v3), some (.int v4), some (.int v5), some (.int v6), none, none, none, none, none, none] [] h := by
  unfold R_27_101 at e
  have g := gd_s e; clear e; obtain ⟨⟨b0, b1⟩, e⟩ := g
  refine k_27_101 b0 b1 (fun c => ?_) (fun c => ?_)
  · rw [if_pos c] at e; exact r_27_149 hd hq hr_15 e
  · rw [if_neg c] at e; exact r_27_136 hd hq hr_15 e
noncomputable def R_27_93 (rec_15 : Int32 → Nat → Int32 → Int32 → Hp → Option (Int32 × Hp)) (v2 : Int32) (v3 : Nat) (v4 : Int32) (v5 : Int32) (v6 : Int32) (h : Hp) : Option (Int32 × Hp) := if v2 ≤ (v5 + 2) then R_27_265 rec_15 v2 v3 v4 v5 h else R_27_101 rec_15 v2 v3 v4 v5 v6 h
theorem r_27_93 {X : GX} {d : Nat} {r : Int32 × Hp} (hd : 1 ≤ d) (hq : RtX X (some (.int r.1)) r.2) {rec_15 : Int32 → Nat → Int32 → Int32 → Hp → Option (Int32 × Hp)} (hr_15 : ∀ {v2 : Int32} {v3 : Nat} {v4 : Int32} {v5 : Int32} {h : Hp}, rec_15 v2 v3 v4 v5 h = some r → G X d 27 15 [some (.ref 7), none, some (.int v2), some (.ref v3), some (.int v4), some (.int v5), none, none, none, none, none, none, none] [] h) {h : Hp} {v2 : Int32} {v3 : Nat} {v4 : Int32} {v5 : Int32} {v6 : Int32} (e : R_27_93 rec_15 v2 v3 v4 v5 v6 h = some r) : G X d 27 93 [some (.ref 7), none, some (.int v2), some (.ref v3), some (.int v4), some (.int v5), some (.int v6), none, none, none, none, none, none] [] h := by
  unfold R_27_93 at e
  refine k_27_93 (fun c => ?_) (fun c => ?_)
  · rw [if_pos c] at e; exact r_27_265 hd hq hr_15 e
  · rw [if_neg c] at e; exact r_27_101 hd hq hr_15 e
noncomputable def R_27_81 (rec_15 : Int32 → Nat → Int32 → Int32 → Hp → Option (Int32 × Hp)) (v2 : Int32) (v3 : Nat) (v4 : Int32) (v5 : Int32) (v7 : Int32) (h : Hp) : Option (Int32 × Hp) := rec_15 v2 v3 (((v4.toUInt32 >>> ((1 : Int32).toUInt32 &&& Int32.toUInt32 31)).toInt32) ||| v7) (v5 + 1) h
theorem r_27_81 {X : GX} {d : Nat} {r : Int32 × Hp} (hd : 1 ≤ d) (hq : RtX X (some (.int r.1)) r.2) {rec_15 : Int32 → Nat → Int32 → Int32 → Hp → Option (Int32 × Hp)} (hr_15 : ∀ {v2 : Int32} {v3 : Nat} {v4 : Int32} {v5 : Int32} {h : Hp}, rec_15 v2 v3 v4 v5 h = some r → G X d 27 15 [some (.ref 7), none, some (.int v2), some (.ref v3), some (.int v4), some (.int v5), none, none, none, none, none, none, none] [] h) {h : Hp} {v2 : Int32} {v3 : Nat} {v4 : Int32} {v5 : Int32} {v7 : Int32} (e : R_27_81 rec_15 v2 v3 v4 v5 v7 h = some r) : G X d 27 81 [some (.ref 7), none, some (.int v2), some (.ref v3), some (.int v4), some (.int v5), none, some (.int v7), none, none, none, none, none] [] h := by
  unfold R_27_81 at e
  exact k_27_81 (hr_15 e)
noncomputable def R_27_74 (rec_15 : Int32 → Nat → Int32 → Int32 → Hp → Option (Int32 × Hp)) (v2 : Int32) (v3 : Nat) (v4 : Int32) (v5 : Int32) (v6 : Int32) (v7 : Int32) (h : Hp) : Option (Int32 × Hp) := if v6 = 12 then R_27_81 rec_15 v2 v3 v4 v5 v7 h else R_27_93 rec_15 v2 v3 v4 v5 v6 h
theorem r_27_74 {X : GX} {d : Nat} {r : Int32 × Hp} (hd : 1 ≤ d) (hq : RtX X (some (.int r.1)) r.2) {rec_15 : Int32 → Nat → Int32 → Int32 → Hp → Option (Int32 × Hp)} (hr_15 : ∀ {v2 : Int32} {v3 : Nat} {v4 : Int32} {v5 : Int32} {h : Hp}, rec_15 v2 v3 v4 v5 h = some r → G X d 27 15 [some (.ref 7), none, some (.int v2), some (.ref v3), some (.int v4), some (.int v5), none, none, none, none, none, none, none] [] h) {h : Hp} {v2 : Int32} {v3 : Nat} {v4 : Int32} {v5 : Int32} {v6 : Int32} {v7 : Int32} (e : R_27_74 rec_15 v2 v3 v4 v5 v6 v7 h = some r) : G X d 27 74 [some (.ref 7), none, some (.int v2), some (.ref v3), some (.int v4), some (.int v5), some (.int v6), some (.int v7), none, none, none, none, none] [] h := by
  unfold R_27_74 at e
  refine k_27_74 (fun c => ?_) (fun c => ?_)
  · rw [if_neg c] at e; exact r_27_93 hd hq hr_15 e
  · rw [if_pos c] at e; exact r_27_81 hd hq hr_15 e
noncomputable def R_27_59 (rec_15 : Int32 → Nat → Int32 → Int32 → Hp → Option (Int32 × Hp)) (v2 : Int32) (v3 : Nat) (v4 : Int32) (v5 : Int32) (v7 : Int32) (h : Hp) : Option (Int32 × Hp) := rec_15 v2 v3 (((v4.toUInt32 >>> ((1 : Int32).toUInt32 &&& Int32.toUInt32 31)).toInt32) &&& (v7 ||| ((-2)))) (v5 + 1) h
theorem r_27_59 {X : GX} {d : Nat} {r : Int32 × Hp} (hd : 1 ≤ d) (hq : RtX X (some (.int r.1)) r.2) {rec_15 : Int32 → Nat → Int32 → Int32 → Hp → Option (Int32 × Hp)} (hr_15 : ∀ {v2 : Int32} {v3 : Nat} {v4 : Int32} {v5 : Int32} {h : Hp}, rec_15 v2 v3 v4 v5 h = some r → G X d 27 15 [some (.ref 7), none, some (.int v2), some (.ref v3), some (.int v4), some (.int v5), none, none, none, none, none, none, none] [] h) {h : Hp} {v2 : Int32} {v3 : Nat} {v4 : Int32} {v5 : Int32} {v7 : Int32} (e : R_27_59 rec_15 v2 v3 v4 v5 v7 h = some r) : G X d 27 59 [some (.ref 7), none, some (.int v2), some (.ref v3), some (.int v4), some (.int v5), none, some (.int v7), none, none, none, none, none] [] h := by
  unfold R_27_59 at e
  exact k_27_59 (hr_15 e)
noncomputable def R_27_52 (rec_15 : Int32 → Nat → Int32 → Int32 → Hp → Option (Int32 × Hp)) (v2 : Int32) (v3 : Nat) (v4 : Int32) (v5 : Int32) (v6 : Int32) (v7 : Int32) (h : Hp) : Option (Int32 × Hp) := if v6 = 11 then R_27_59 rec_15 v2 v3 v4 v5 v7 h else R_27_74 rec_15 v2 v3 v4 v5 v6 v7 h
theorem r_27_52 {X : GX} {d : Nat} {r : Int32 × Hp} (hd : 1 ≤ d) (hq : RtX X (some (.int r.1)) r.2) {rec_15 : Int32 → Nat → Int32 → Int32 → Hp → Option (Int32 × Hp)} (hr_15 : ∀ {v2 : Int32} {v3 : Nat} {v4 : Int32} {v5 : Int32} {h : Hp}, rec_15 v2 v3 v4 v5 h = some r → G X d 27 15 [some (.ref 7), none, some (.int v2), some (.ref v3), some (.int v4), some (.int v5), none, none, none, none, none, none, none] [] h) {h : Hp} {v2 : Int32} {v3 : Nat} {v4 : Int32} {v5 : Int32} {v6 : Int32} {v7 : Int32} (e : R_27_52 rec_15 v2 v3 v4 v5 v6 v7 h = some r) : G X d 27 52 [some (.ref 7), none, some (.int v2), some (.ref v3), some (.int v4), some (.int v5), some (.int v6), some (.int v7), none, none, none, none, none] [] h := by
  unfold R_27_52 at e
  refine k_27_52 (fun c => ?_) (fun c => ?_)
  · rw [if_neg c] at e; exact r_27_74 hd hq hr_15 e
  · rw [if_pos c] at e; exact r_27_59 hd hq hr_15 e
noncomputable def R_27_43 (rec_15 : Int32 → Nat → Int32 → Int32 → Hp → Option (Int32 × Hp)) (v2 : Int32) (v3 : Nat) (v4 : Int32) (v5 : Int32) (h : Hp) : Option (Int32 × Hp) := rec_15 v2 v3 (v4 ^^^ 1) (v5 + 1) h
theorem r_27_43 {X : GX} {d : Nat} {r : Int32 × Hp} (hd : 1 ≤ d) (hq : RtX X (some (.int r.1)) r.2) {rec_15 : Int32 → Nat → Int32 → Int32 → Hp → Option (Int32 × Hp)} (hr_15 : ∀ {v2 : Int32} {v3 : Nat} {v4 : Int32} {v5 : Int32} {h : Hp}, rec_15 v2 v3 v4 v5 h = some r → G X d 27 15 [some (.ref 7), none, some (.int v2), some (.ref v3), some (.int v4), some (.int v5), none, none, none, none, none, none, none] [] h) {h : Hp} {v2 : Int32} {v3 : Nat} {v4 : Int32} {v5 : Int32} (e : R_27_43 rec_15 v2 v3 v4 v5 h = some r) : G X d 27 43 [some (.ref 7), none, some (.int v2), some (.ref v3), some (.int v4), some (.int v5), none, none, none, none, none, none, none] [] h := by
  unfold R_27_43 at e
  exact k_27_43 (hr_15 e)
noncomputable def R_27_21 (rec_15 : Int32 → Nat → Int32 → Int32 → Hp → Option (Int32 × Hp)) (v2 : Int32) (v3 : Nat) (v4 : Int32) (v5 : Int32) (h : Hp) : Option (Int32 × Hp) := gd (IA 11 v5) (if (h 11 (Int32.toNatClampNeg v5)) = 10 then R_27_43 rec_15 v2 v3 v4 v5 h else R_27_52 rec_15 v2 v3 v4 v5 (h 11 (Int32.toNatClampNeg v5)) (v4 &&& 1) h)
theorem r_27_21 {X : GX} {d : Nat} {r : Int32 × Hp} (hd : 1 ≤ d) (hq : RtX X (some (.int r.1)) r.2) {rec_15 : Int32 → Nat → Int32 → Int32 → Hp → Option (Int32 × Hp)} (hr_15 : ∀ {v2 : Int32} {v3 : Nat} {v4 : Int32} {v5 : Int32} {h : Hp}, rec_15 v2 v3 v4 v5 h = some r → G X d 27 15 [some (.ref 7), none, some (.int v2), some (.ref v3), some (.int v4), some (.int v5), none, none, none, none, none, none, none] [] h) {h : Hp} {v2 : Int32} {v3 : Nat} {v4 : Int32} {v5 : Int32} (e : R_27_21 rec_15 v2 v3 v4 v5 h = some r) : G X d 27 21 [some (.ref 7), none, some (.int v2), some (.ref v3), some (.int v4), some (.int v5), none, none, none, none, none, none, none] [] h := by
  unfold R_27_21 at e
  have g := gd_s e; clear e; obtain ⟨b0, e⟩ := g
  refine k_27_21 b0 (fun c => ?_) (fun c => ?_)
  · rw [if_neg c] at e; exact r_27_52 hd hq hr_15 e
  · rw [if_pos c] at e; exact r_27_43 hd hq hr_15 e
noncomputable def R_27_15 (rec_15 : Int32 → Nat → Int32 → Int32 → Hp → Option (Int32 × Hp)) (v2 : Int32) (v3 : Nat) (v4 : Int32) (v5 : Int32) (h : Hp) : Option (Int32 × Hp) := if v2 ≤ v5 then R_27_271 v4 h else R_27_21 rec_15 v2 v3 v4 v5 h
theorem r_27_15 {X : GX} {d : Nat} {r : Int32 × Hp} (hd : 1 ≤ d) (hq : RtX X (some (.int r.1)) r.2) {rec_15 : Int32 → Nat → Int32 → Int32 → Hp → Option (Int32 × Hp)} (hr_15 : ∀ {v2 : Int32} {v3 : Nat} {v4 : Int32} {v5 : Int32} {h : Hp}, rec_15 v2 v3 v4 v5 h = some r → G X d 27 15 [some (.ref 7), none, some (.int v2), some (.ref v3), some (.int v4), some (.int v5), none, none, none, none, none, none, none] [] h) {h : Hp} {v2 : Int32} {v3 : Nat} {v4 : Int32} {v5 : Int32} (e : R_27_15 rec_15 v2 v3 v4 v5 h = some r) : G X d 27 15 [some (.ref 7), none, some (.int v2), some (.ref v3), some (.int v4), some (.int v5), none, none, none, none, none, none, none] [] h := by
  unfold R_27_15 at e
  refine k_27_15 (fun c => ?_) (fun c => ?_)
  · rw [if_pos c] at e; exact r_27_271 hd hq e
  · rw [if_neg c] at e; exact r_27_21 hd hq hr_15 e
noncomputable def H_27_15 : Nat → Int32 → Nat → Int32 → Int32 → Hp → Option (Int32 × Hp)
  | 0, _, _, _, _, _ => none
  | n + 1, v2, v3, v4, v5, h => R_27_15 (H_27_15 n) v2 v3 v4 v5 h
theorem h_27_15 {X : GX} {d : Nat} {r : Int32 × Hp} (hd : 1 ≤ d) (hq : RtX X (some (.int r.1)) r.2) {n : Nat} {h : Hp} {v2 : Int32} {v3 : Nat} {v4 : Int32} {v5 : Int32} (e : H_27_15 n v2 v3 v4 v5 h = some r) : G X d 27 15 [some (.ref 7), none, some (.int v2), some (.ref v3), some (.int v4), some (.int v5), none, none, none, none, none, none, none] [] h := by
  induction n generalizing v2 v3 v4 v5 h with
  | zero => cases e
  | succ n ih => exact r_27_15 hd hq (fun e => ih e) e
noncomputable def R_27_9 (v1 : Int32) (v2 : Int32) (v3 : Nat) (h : Hp) : Option (Int32 × Hp) := H_27_15 fuL v2 v3 0 v1 h
theorem r_27_9 {X : GX} {d : Nat} {r : Int32 × Hp} (hd : 1 ≤ d) (hq : RtX X (some (.int r.1)) r.2) {h : Hp} {v1 : Int32} {v2 : Int32} {v3 : Nat} (e : R_27_9 v1 v2 v3 h = some r) : G X d 27 9 [some (.ref 7), some (.int v1), some (.int v2), some (.ref v3), none, none, none, none, none, none, none, none, none] [] h := by
  unfold R_27_9 at e
  exact k_27_9 (h_27_15 hd hq e)
noncomputable def R_27_5 (v1 : Int32) (v2 : Int32) (v3 : Nat) (h : Hp) : Option (Int32 × Hp) := H_27_15 fuL v2 v3 1 v1 h
theorem r_27_5 {X : GX} {d : Nat} {r : Int32 × Hp} (hd : 1 ≤ d) (hq : RtX X (some (.int r.1)) r.2) {h : Hp} {v1 : Int32} {v2 : Int32} {v3 : Nat} (e : R_27_5 v1 v2 v3 h = some r) : G X d 27 5 [some (.ref 7), some (.int v1), some (.int v2), some (.ref v3), none, none, none, none, none, none, none, none, none] [] h := by
  unfold R_27_5 at e
  exact k_27_5 (h_27_15 hd hq e)
noncomputable def R_27_0 (v1 : Int32) (v2 : Int32) (v3 : Nat) (h : Hp) : Option (Int32 × Hp) := if v1 = v2 then R_27_5 v1 v2 v3 h else R_27_9 v1 v2 v3 h
theorem r_27_0 {X : GX} {d : Nat} {r : Int32 × Hp} (hd : 1 ≤ d) (hq : RtX X (some (.int r.1)) r.2) {h : Hp} {v1 : Int32} {v2 : Int32} {v3 : Nat} (e : R_27_0 v1 v2 v3 h = some r) : G X d 27 0 [some (.ref 7), some (.int v1), some (.int v2), some (.ref v3), none, none, none, none, none, none, none, none, none] [] h := by
  unfold R_27_0 at e
  refine k_27_0 (fun c => ?_) (fun c => ?_)
  · rw [if_neg c] at e; exact r_27_9 hd hq e
  · rw [if_pos c] at e; exact r_27_5 hd hq e
noncomputable def S_27 (v1 : Int32) (v2 : Int32) (v3 : Nat) (h : Hp) : Option (Int32 × Hp) := R_27_0 v1 v2 v3 h
set_option maxRecDepth 100000 in
theorem t_27 {v1 : Int32} {v2 : Int32} {v3 : Nat} {h : Hp} {r : Int32 × Hp} (e : S_27 v1 v2 v3 h = some r) : CI 1 27 [.ref 7, .int v1, .int v2, .ref v3] h (fun x g => x = r.1 ∧ g = r.2) := by
  refine C.of mo_27 (Nat.le_of_ble_eq_true rfl) (fun X hq => ?_)
  exact r_27_0 (Nat.le_refl _) (hq _ _ ⟨_, rfl, rfl, rfl⟩) e
/-! 25 PlayedTruth$Rules.willOf(I[I)I -/
noncomputable def R_25_66 (h : Hp) : Option (Int32 × Hp) := some (0, h)
theorem r_25_66 {X : GX} {d : Nat} {r : Int32 × Hp} (hd : 2 ≤ d) (hq : RtX X (some (.int r.1)) r.2) {h : Hp} (e : R_25_66 h = some r) : G X d 25 66 [none, none, none, none, none] [] h := by
  unfold R_25_66 at e
  rw [← Option.some.inj e] at hq
  exact k_25_66 hq
noncomputable def R_25_52 (rec_5 : Int32 → Nat → Int32 → Int32 → Hp → Option (Int32 × Hp)) (v1 : Int32) (v2 : Nat) (v4 : Int32) (h : Hp) : Option (Int32 × Hp) := gd (IA 10 v4) (rec_5 v1 v2 (h 10 (Int32.toNatClampNeg v4)) (v4 + 1) h)
theorem r_25_52 {X : GX} {d : Nat} {r : Int32 × Hp} (hd : 2 ≤ d) (hq : RtX X (some (.int r.1)) r.2) {rec_5 : Int32 → Nat → Int32 → Int32 → Hp → Option (Int32 × Hp)} (hr_5 : ∀ {v1 : Int32} {v2 : Nat} {v3 : Int32} {v4 : Int32} {h : Hp}, rec_5 v1 v2 v3 v4 h = some r → G X d 25 5 [some (.ref 7), some (.int v1), some (.ref v2), some (.int v3), some (.int v4)] [] h) {h : Hp} {v1 : Int32} {v2 : Nat} {v4 : Int32} (e : R_25_52 rec_5 v1 v2 v4 h = some r) : G X d 25 52 [some (.ref 7), some (.int v1), some (.ref v2), none, some (.int v4)] [] h := by
  unfold R_25_52 at e
  have g := gd_s e; clear e; obtain ⟨b0, e⟩ := g
  exact k_25_52 b0 (hr_5 e)
noncomputable def R_25_44 (v4 : Int32) (h : Hp) : Option (Int32 × Hp) := gd (IA 9 v4) (some ((h 9 (Int32.toNatClampNeg v4)), h))
theorem r_25_44 {X : GX} {d : Nat} {r : Int32 × Hp} (hd : 2 ≤ d) (hq : RtX X (some (.int r.1)) r.2) {h : Hp} {v4 : Int32} (e : R_25_44 v4 h = some r) : G X d 25 44 [some (.ref 7), none, none, none, some (.int v4)] [] h := by
  unfold R_25_44 at e
  have g := gd_s e; clear e; obtain ⟨b0, e⟩ := g
  rw [← Option.some.inj e] at hq
  exact k_25_44 b0 hq
noncomputable def R_25_41 (rec_5 : Int32 → Nat → Int32 → Int32 → Hp → Option (Int32 × Hp)) (v1 : Int32) (v2 : Nat) (v4 : Int32) (s0 : Int32) (h : Hp) : Option (Int32 × Hp) := if s0 = 0 then R_25_52 rec_5 v1 v2 v4 h else R_25_44 v4 h
theorem r_25_41 {X : GX} {d : Nat} {r : Int32 × Hp} (hd : 2 ≤ d) (hq : RtX X (some (.int r.1)) r.2) {rec_5 : Int32 → Nat → Int32 → Int32 → Hp → Option (Int32 × Hp)} (hr_5 : ∀ {v1 : Int32} {v2 : Nat} {v3 : Int32} {v4 : Int32} {h : Hp}, rec_5 v1 v2 v3 v4 h = some r → G X d 25 5 [some (.ref 7), some (.int v1), some (.ref v2), some (.int v3), some (.int v4)] [] h) {h : Hp} {v1 : Int32} {v2 : Nat} {v4 : Int32} {s0 : Int32} (e : R_25_41 rec_5 v1 v2 v4 s0 h = some r) : G X d 25 41 [some (.ref 7), some (.int v1), some (.ref v2), none, some (.int v4)] [.int s0] h := by
  unfold R_25_41 at e
  refine k_25_41 (fun c => ?_) (fun c => ?_)
  · rw [if_pos c] at e; exact r_25_52 hd hq hr_5 e
  · rw [if_neg c] at e; exact r_25_44 hd hq e
noncomputable def R_25_28 (rec_5 : Int32 → Nat → Int32 → Int32 → Hp → Option (Int32 × Hp)) (v1 : Int32) (v2 : Nat) (v3 : Int32) (v4 : Int32) (h : Hp) : Option (Int32 × Hp) := gd (IA 10 v4) (bndI (S_27 v3 (h 10 (Int32.toNatClampNeg v4)) v2 h) (R_25_41 rec_5 v1 v2 v4))
theorem r_25_28 {X : GX} {d : Nat} {r : Int32 × Hp} (hd : 2 ≤ d) (hq : RtX X (some (.int r.1)) r.2) {rec_5 : Int32 → Nat → Int32 → Int32 → Hp → Option (Int32 × Hp)} (hr_5 : ∀ {v1 : Int32} {v2 : Nat} {v3 : Int32} {v4 : Int32} {h : Hp}, rec_5 v1 v2 v3 v4 h = some r → G X d 25 5 [some (.ref 7), some (.int v1), some (.ref v2), some (.int v3), some (.int v4)] [] h) {h : Hp} {v1 : Int32} {v2 : Nat} {v3 : Int32} {v4 : Int32} (e : R_25_28 rec_5 v1 v2 v3 v4 h = some r) : G X d 25 28 [some (.ref 7), some (.int v1), some (.ref v2), some (.int v3), some (.int v4)] [] h := by
  unfold R_25_28 at e
  have g := gd_s e; clear e; obtain ⟨b0, e⟩ := g
  obtain ⟨x, h2, e1, e2⟩ := bndI_s e
  refine k_25_28 b0 (by omega) (t_27 e1) ?_
  rintro _ _ ⟨rfl, rfl⟩
  exact r_25_41 hd hq hr_5 e2
noncomputable def R_25_25 (rec_5 : Int32 → Nat → Int32 → Int32 → Hp → Option (Int32 × Hp)) (v1 : Int32) (v2 : Nat) (v3 : Int32) (v4 : Int32) (s0 : Int32) (h : Hp) : Option (Int32 × Hp) := if s0 = 0 then R_25_52 rec_5 v1 v2 v4 h else R_25_28 rec_5 v1 v2 v3 v4 h
theorem r_25_25 {X : GX} {d : Nat} {r : Int32 × Hp} (hd : 2 ≤ d) (hq : RtX X (some (.int r.1)) r.2) {rec_5 : Int32 → Nat → Int32 → Int32 → Hp → Option (Int32 × Hp)} (hr_5 : ∀ {v1 : Int32} {v2 : Nat} {v3 : Int32} {v4 : Int32} {h : Hp}, rec_5 v1 v2 v3 v4 h = some r → G X d 25 5 [some (.ref 7), some (.int v1), some (.ref v2), some (.int v3), some (.int v4)] [] h) {h : Hp} {v1 : Int32} {v2 : Nat} {v3 : Int32} {v4 : Int32} {s0 : Int32} (e : R_25_25 rec_5 v1 v2 v3 v4 s0 h = some r) : G X d 25 25 [some (.ref 7), some (.int v1), some (.ref v2), some (.int v3), some (.int v4)] [.int s0] h := by
  unfold R_25_25 at e
  refine k_25_25 (fun c => ?_) (fun c => ?_)
  · rw [if_pos c] at e; exact r_25_52 hd hq hr_5 e
  · rw [if_neg c] at e; exact r_25_28 hd hq hr_5 e
noncomputable def R_25_14 (rec_5 : Int32 → Nat → Int32 → Int32 → Hp → Option (Int32 × Hp)) (v1 : Int32) (v2 : Nat) (v3 : Int32) (v4 : Int32) (h : Hp) : Option (Int32 × Hp) := gd (IA 8 v4) (bndI (S_26 v1 (h 8 (Int32.toNatClampNeg v4)) h) (R_25_25 rec_5 v1 v2 v3 v4))
theorem r_25_14 {X : GX} {d : Nat} {r : Int32 × Hp} (hd : 2 ≤ d) (hq : RtX X (some (.int r.1)) r.2) {rec_5 : Int32 → Nat → Int32 → Int32 → Hp → Option (Int32 × Hp)} (hr_5 : ∀ {v1 : Int32} {v2 : Nat} {v3 : Int32} {v4 : Int32} {h : Hp}, rec_5 v1 v2 v3 v4 h = some r → G X d 25 5 [some (.ref 7), some (.int v1), some (.ref v2), some (.int v3), some (.int v4)] [] h) {h : Hp} {v1 : Int32} {v2 : Nat} {v3 : Int32} {v4 : Int32} (e : R_25_14 rec_5 v1 v2 v3 v4 h = some r) : G X d 25 14 [some (.ref 7), some (.int v1), some (.ref v2), some (.int v3), some (.int v4)] [] h := by
  unfold R_25_14 at e
  have g := gd_s e; clear e; obtain ⟨b0, e⟩ := g
  obtain ⟨x, h2, e1, e2⟩ := bndI_s e
  refine k_25_14 b0 (by omega) (t_26 e1) ?_
  rintro _ _ ⟨rfl, rfl⟩
  exact r_25_25 hd hq hr_5 e2
noncomputable def R_25_5 (rec_5 : Int32 → Nat → Int32 → Int32 → Hp → Option (Int32 × Hp)) (v1 : Int32) (v2 : Nat) (v3 : Int32) (v4 : Int32) (h : Hp) : Option (Int32 × Hp) := if (h 7 5) ≤ v4 then R_25_66 h else R_25_14 rec_5 v1 v2 v3 v4 h
theorem r_25_5 {X : GX} {d : Nat} {r : Int32 × Hp} (hd : 2 ≤ d) (hq : RtX X (some (.int r.1)) r.2) {rec_5 : Int32 → Nat → Int32 → Int32 → Hp → Option (Int32 × Hp)} (hr_5 : ∀ {v1 : Int32} {v2 : Nat} {v3 : Int32} {v4 : Int32} {h : Hp}, rec_5 v1 v2 v3 v4 h = some r → G X d 25 5 [some (.ref 7), some (.int v1), some (.ref v2), some (.int v3), some (.int v4)] [] h) {h : Hp} {v1 : Int32} {v2 : Nat} {v3 : Int32} {v4 : Int32} (e : R_25_5 rec_5 v1 v2 v3 v4 h = some r) : G X d 25 5 [some (.ref 7), some (.int v1), some (.ref v2), some (.int v3), some (.int v4)] [] h := by
  unfold R_25_5 at e
  refine k_25_5 (fun c => ?_) (fun c => ?_)
  · rw [if_pos c] at e; exact r_25_66 hd hq e
  · rw [if_neg c] at e; exact r_25_14 hd hq hr_5 e
noncomputable def H_25_5 : Nat → Int32 → Nat → Int32 → Int32 → Hp → Option (Int32 × Hp)
  | 0, _, _, _, _, _ => none
  | n + 1, v1, v2, v3, v4, h => R_25_5 (H_25_5 n) v1 v2 v3 v4 h
theorem h_25_5 {X : GX} {d : Nat} {r : Int32 × Hp} (hd : 2 ≤ d) (hq : RtX X (some (.int r.1)) r.2) {n : Nat} {h : Hp} {v1 : Int32} {v2 : Nat} {v3 : Int32} {v4 : Int32} (e : H_25_5 n v1 v2 v3 v4 h = some r) : G X d 25 5 [some (.ref 7), some (.int v1), some (.ref v2), some (.int v3), some (.int v4)] [] h := by
  induction n generalizing v1 v2 v3 v4 h with
  | zero => cases e
  | succ n ih => exact r_25_5 hd hq (fun e => ih e) e
noncomputable def R_25_0 (v1 : Int32) (v2 : Nat) (h : Hp) : Option (Int32 × Hp) := H_25_5 fuL v1 v2 0 0 h
theorem r_25_0 {X : GX} {d : Nat} {r : Int32 × Hp} (hd : 2 ≤ d) (hq : RtX X (some (.int r.1)) r.2) {h : Hp} {v1 : Int32} {v2 : Nat} (e : R_25_0 v1 v2 h = some r) : G X d 25 0 [some (.ref 7), some (.int v1), some (.ref v2), none, none] [] h := by
  unfold R_25_0 at e
  exact k_25_0 (h_25_5 hd hq e)
noncomputable def S_25 (v1 : Int32) (v2 : Nat) (h : Hp) : Option (Int32 × Hp) := R_25_0 v1 v2 h
set_option maxRecDepth 100000 in
theorem t_25 {v1 : Int32} {v2 : Nat} {h : Hp} {r : Int32 × Hp} (e : S_25 v1 v2 h = some r) : CI 2 25 [.ref 7, .int v1, .ref v2] h (fun x g => x = r.1 ∧ g = r.2) := by
  refine C.of mo_25 (Nat.le_of_ble_eq_true rfl) (fun X hq => ?_)
  exact r_25_0 (Nat.le_refl _) (hq _ _ ⟨_, rfl, rfl, rfl⟩) e
/-! 24 PlayedTruth$Stage.will(LPlayedTruth$Moment;I)I -/
noncomputable def R_24_84 (s0 : Int32) (h : Hp) : Option (Int32 × Hp) := some (s0, h)
theorem r_24_84 {X : GX} {d : Nat} {r : Int32 × Hp} (hd : 3 ≤ d) (hq : RtX X (some (.int r.1)) r.2) {h : Hp} {s0 : Int32} (e : R_24_84 s0 h = some r) : G X d 24 84 [none, none, none] [.int s0] h := by
  unfold R_24_84 at e
  rw [← Option.some.inj e] at hq
  exact k_24_84 hq
noncomputable def R_24_59 (v2 : Int32) (s1 : Int32) (s2 : Nat) (s0 : Int32) (h : Hp) : Option (Int32 × Hp) := gd (IA s2 s1 ∧ IA 12 4 ∧ IA 2 v2) (bndI (S_25 ((wr (wr h s2 (Int32.toNatClampNeg s1) s0) 12 (Int32.toNatClampNeg 4) v2) 2 (Int32.toNatClampNeg v2)) 12 ((wr (wr h s2 (Int32.toNatClampNeg s1) s0) 12 (Int32.toNatClampNeg 4) v2))) (R_24_84))
theorem r_24_59 {X : GX} {d : Nat} {r : Int32 × Hp} (hd : 3 ≤ d) (hq : RtX X (some (.int r.1)) r.2) {h : Hp} {v2 : Int32} {s1 : Int32} {s2 : Nat} {s0 : Int32} (e : R_24_59 v2 s1 s2 s0 h = some r) : G X d 24 59 [some (.ref 1), none, some (.int v2)] [.int s0, .int s1, .ref s2] h := by
  unfold R_24_59 at e
  have g := gd_s e; clear e; obtain ⟨⟨b0, b1, b2⟩, e⟩ := g
  obtain ⟨x, h2, e1, e2⟩ := bndI_s e
  refine k_24_59 b0 b1 b2 (by omega) (t_25 e1) ?_
  rintro _ _ ⟨rfl, rfl⟩
  exact r_24_84 hd hq e2
noncomputable def R_24_12 (v1 : Nat) (v2 : Int32) (h : Hp) : Option (Int32 × Hp) := gd (sh v1 = (1, 3) ∧ IA 12 0 ∧ IA (v1 + 1) v2 ∧ IA 12 1 ∧ IA (v1 + 2) v2 ∧ IA 12 2) (bndI (S_17 ((wr (wr (wr h 12 (Int32.toNatClampNeg 0) (h v1 3)) 12 (Int32.toNatClampNeg 1) ((wr h 12 (Int32.toNatClampNeg 0) (h v1 3)) (v1 + 1) (Int32.toNatClampNeg v2))) 12 (Int32.toNatClampNeg 2) ((wr (wr h 12 (Int32.toNatClampNeg 0) (h v1 3)) 12 (Int32.toNatClampNeg 1) ((wr h 12 (Int32.toNatClampNeg 0) (h v1 3)) (v1 + 1) (Int32.toNatClampNeg v2))) (v1 + 2) (Int32.toNatClampNeg v2))) v1 3) ((wr (wr (wr h 12 (Int32.toNatClampNeg 0) (h v1 3)) 12 (Int32.toNatClampNeg 1) ((wr h 12 (Int32.toNatClampNeg 0) (h v1 3)) (v1 + 1) (Int32.toNatClampNeg v2))) 12 (Int32.toNatClampNeg 2) ((wr (wr h 12 (Int32.toNatClampNeg 0) (h v1 3)) 12 (Int32.toNatClampNeg 1) ((wr h 12 (Int32.toNatClampNeg 0) (h v1 3)) (v1 + 1) (Int32.toNatClampNeg v2))) (v1 + 2) (Int32.toNatClampNeg v2))))) (R_24_59 v2 3 12))
set_option maxRecDepth 100000 in
theorem r_24_12 {X : GX} {d : Nat} {r : Int32 × Hp} (hd : 3 ≤ d) (hq : RtX X (some (.int r.1)) r.2) {h : Hp} {v1 : Nat} {v2 : Int32} (e : R_24_12 v1 v2 h = some r) : G X d 24 12 [some (.ref 1), some (.ref v1), some (.int v2)] [] h := by
  unfold R_24_12 at e
  have g := gd_s e; clear e; obtain ⟨⟨o0, b1, b2, b3, b4, b5⟩, e⟩ := g
  obtain ⟨x, h2, e1, e2⟩ := bndI_s e
  refine k_24_12 o0 b1 b2 b3 b4 b5 (by omega) (t_17 e1) ?_
  rintro _ _ ⟨rfl, rfl⟩
  exact r_24_59 hd hq e2
noncomputable def R_24_10 (h : Hp) : Option (Int32 × Hp) := some (0, h)
theorem r_24_10 {X : GX} {d : Nat} {r : Int32 × Hp} (hd : 3 ≤ d) (hq : RtX X (some (.int r.1)) r.2) {h : Hp} (e : R_24_10 h = some r) : G X d 24 10 [none, none, none] [] h := by
  unfold R_24_10 at e
  rw [← Option.some.inj e] at hq
  exact k_24_10 hq
noncomputable def R_24_0 (v1 : Nat) (v2 : Int32) (h : Hp) : Option (Int32 × Hp) := if (h 7 5) = 0 then R_24_10 h else R_24_12 v1 v2 h
theorem r_24_0 {X : GX} {d : Nat} {r : Int32 × Hp} (hd : 3 ≤ d) (hq : RtX X (some (.int r.1)) r.2) {h : Hp} {v1 : Nat} {v2 : Int32} (e : R_24_0 v1 v2 h = some r) : G X d 24 0 [some (.ref 1), some (.ref v1), some (.int v2)] [] h := by
  unfold R_24_0 at e
  refine k_24_0 (fun c => ?_) (fun c => ?_)
  · rw [if_neg c] at e; exact r_24_12 hd hq e
  · rw [if_pos c] at e; exact r_24_10 hd hq e
noncomputable def S_24 (v1 : Nat) (v2 : Int32) (h : Hp) : Option (Int32 × Hp) := R_24_0 v1 v2 h
set_option maxRecDepth 100000 in
theorem t_24 {v1 : Nat} {v2 : Int32} {h : Hp} {r : Int32 × Hp} (e : S_24 v1 v2 h = some r) : CI 3 24 [.ref 1, .ref v1, .int v2] h (fun x g => x = r.1 ∧ g = r.2) := by
  refine C.of mo_24 (Nat.le_of_ble_eq_true rfl) (fun X hq => ?_)
  exact r_24_0 (Nat.le_refl _) (hq _ _ ⟨_, rfl, rfl, rfl⟩) e
/-! 23 PlayedTruth$Stage.mayBeMended(LPlayedTruth$Moment;I)Z -/
noncomputable def R_23_30 (h : Hp) : Option (Int32 × Hp) := some (0, h)
theorem r_23_30 {X : GX} {d : Nat} {r : Int32 × Hp} (hd : 4 ≤ d) (hq : RtX X (some (.int r.1)) r.2) {h : Hp} (e : R_23_30 h = some r) : G X d 23 30 [none, none, none] [] h := by
  unfold R_23_30 at e
  rw [← Option.some.inj e] at hq
  exact k_23_30 hq
noncomputable def R_23_26 (h : Hp) : Option (Int32 × Hp) := some (1, h)
theorem r_23_26 {X : GX} {d : Nat} {r : Int32 × Hp} (hd : 4 ≤ d) (hq : RtX X (some (.int r.1)) r.2) {h : Hp} (e : R_23_26 h = some r) : G X d 23 26 [none, none, none] [] h := by
  unfold R_23_26 at e
  rw [← Option.some.inj e] at hq
  exact k_23_26 hq
noncomputable def R_23_23 (s0 : Int32) (h : Hp) : Option (Int32 × Hp) := if s0 = 0 then R_23_26 h else R_23_30 h
theorem r_23_23 {X : GX} {d : Nat} {r : Int32 × Hp} (hd : 4 ≤ d) (hq : RtX X (some (.int r.1)) r.2) {h : Hp} {s0 : Int32} (e : R_23_23 s0 h = some r) : G X d 23 23 [none, none, none] [.int s0] h := by
  unfold R_23_23 at e
  refine k_23_23 (fun c => ?_) (fun c => ?_)
  · rw [if_neg c] at e; exact r_23_30 hd hq e
  · rw [if_pos c] at e; exact r_23_26 hd hq e
noncomputable def R_23_17 (v1 : Nat) (v2 : Int32) (h : Hp) : Option (Int32 × Hp) := bndI (S_24 v1 v2 h) (R_23_23)
theorem r_23_17 {X : GX} {d : Nat} {r : Int32 × Hp} (hd : 4 ≤ d) (hq : RtX X (some (.int r.1)) r.2) {h : Hp} {v1 : Nat} {v2 : Int32} (e : R_23_17 v1 v2 h = some r) : G X d 23 17 [some (.ref 1), some (.ref v1), some (.int v2)] [] h := by
  unfold R_23_17 at e
  obtain ⟨x, h2, e1, e2⟩ := bndI_s e
  refine k_23_17 (by omega) (t_24 e1) ?_
  rintro _ _ ⟨rfl, rfl⟩
  exact r_23_23 hd hq e2
noncomputable def R_23_14 (v1 : Nat) (v2 : Int32) (s0 : Int32) (h : Hp) : Option (Int32 × Hp) := if s0 ≤ 0 then R_23_30 h else R_23_17 v1 v2 h
theorem r_23_14 {X : GX} {d : Nat} {r : Int32 × Hp} (hd : 4 ≤ d) (hq : RtX X (some (.int r.1)) r.2) {h : Hp} {v1 : Nat} {v2 : Int32} {s0 : Int32} (e : R_23_14 v1 v2 s0 h = some r) : G X d 23 14 [some (.ref 1), some (.ref v1), some (.int v2)] [.int s0] h := by
  unfold R_23_14 at e
  refine k_23_14 (fun c => ?_) (fun c => ?_)
  · rw [if_pos c] at e; exact r_23_30 hd hq e
  · rw [if_neg c] at e; exact r_23_17 hd hq e
noncomputable def R_23_8 (v1 : Nat) (v2 : Int32) (h : Hp) : Option (Int32 × Hp) := bndI (S_16 v1 v2 h) (R_23_14 v1 v2)
theorem r_23_8 {X : GX} {d : Nat} {r : Int32 × Hp} (hd : 4 ≤ d) (hq : RtX X (some (.int r.1)) r.2) {h : Hp} {v1 : Nat} {v2 : Int32} (e : R_23_8 v1 v2 h = some r) : G X d 23 8 [some (.ref 1), some (.ref v1), some (.int v2)] [] h := by
  unfold R_23_8 at e
  obtain ⟨x, h2, e1, e2⟩ := bndI_s e
  refine k_23_8 (by omega) (t_16 e1) ?_
  rintro _ _ ⟨rfl, rfl⟩
  exact r_23_14 hd hq e2
noncomputable def R_23_5 (v1 : Nat) (v2 : Int32) (s0 : Int32) (h : Hp) : Option (Int32 × Hp) := if s0 = 0 then R_23_8 v1 v2 h else R_23_30 h
theorem r_23_5 {X : GX} {d : Nat} {r : Int32 × Hp} (hd : 4 ≤ d) (hq : RtX X (some (.int r.1)) r.2) {h : Hp} {v1 : Nat} {v2 : Int32} {s0 : Int32} (e : R_23_5 v1 v2 s0 h = some r) : G X d 23 5 [some (.ref 1), some (.ref v1), some (.int v2)] [.int s0] h := by
  unfold R_23_5 at e
  refine k_23_5 (fun c => ?_) (fun c => ?_)
  · rw [if_neg c] at e; exact r_23_30 hd hq e
  · rw [if_pos c] at e; exact r_23_8 hd hq e
noncomputable def R_23_0 (v1 : Nat) (v2 : Int32) (h : Hp) : Option (Int32 × Hp) := gd (sh v1 = (1, 3)) (bndI (S_15 v1 v2 h) (R_23_5 v1 v2))
theorem r_23_0 {X : GX} {d : Nat} {r : Int32 × Hp} (hd : 4 ≤ d) (hq : RtX X (some (.int r.1)) r.2) {h : Hp} {v1 : Nat} {v2 : Int32} (e : R_23_0 v1 v2 h = some r) : G X d 23 0 [some (.ref 1), some (.ref v1), some (.int v2)] [] h := by
  unfold R_23_0 at e
  have g := gd_s e; clear e; obtain ⟨o0, e⟩ := g
  obtain ⟨x, h2, e1, e2⟩ := bndI_s e
  refine k_23_0 o0 (by omega) (t_15 e1) ?_
  rintro _ _ ⟨rfl, rfl⟩
  exact r_23_5 hd hq e2
noncomputable def S_23 (v1 : Nat) (v2 : Int32) (h : Hp) : Option (Int32 × Hp) := R_23_0 v1 v2 h
set_option maxRecDepth 100000 in
theorem t_23 {v1 : Nat} {v2 : Int32} {h : Hp} {r : Int32 × Hp} (e : S_23 v1 v2 h = some r) : CI 4 23 [.ref 1, .ref v1, .int v2] h (fun x g => x = r.1 ∧ g = r.2) := by
  refine C.of mo_23 (Nat.le_of_ble_eq_true rfl) (fun X hq => ?_)
  exact r_23_0 (Nat.le_refl _) (hq _ _ ⟨_, rfl, rfl, rfl⟩) e
/-! 13 PlayedTruth.sceneOf(II)I -/
noncomputable def R_13_64 (v1 : Int32) (h : Hp) : Option (Int32 × Hp) := gd (IA 2 v1) (some ((h 2 (Int32.toNatClampNeg v1)), h))
theorem r_13_64 {X : GX} {d : Nat} {r : Int32 × Hp} (hd : 5 ≤ d) (hq : RtX X (some (.int r.1)) r.2) {h : Hp} {v1 : Int32} (e : R_13_64 v1 h = some r) : G X d 13 64 [some (.ref 0), some (.int v1), none] [] h := by
  unfold R_13_64 at e
  have g := gd_s e; clear e; obtain ⟨b0, e⟩ := g
  rw [← Option.some.inj e] at hq
  exact k_13_64 b0 hq
noncomputable def R_13_74 (v1 : Int32) (h : Hp) : Option (Int32 × Hp) := gd (IA 14 v1) (some ((h 14 (Int32.toNatClampNeg v1)), h))
theorem r_13_74 {X : GX} {d : Nat} {r : Int32 × Hp} (hd : 5 ≤ d) (hq : RtX X (some (.int r.1)) r.2) {h : Hp} {v1 : Int32} (e : R_13_74 v1 h = some r) : G X d 13 74 [some (.ref 0), some (.int v1), none] [] h := by
  unfold R_13_74 at e
  have g := gd_s e; clear e; obtain ⟨b0, e⟩ := g
  rw [← Option.some.inj e] at hq
  exact k_13_74 b0 hq
noncomputable def R_13_84 (v1 : Int32) (h : Hp) : Option (Int32 × Hp) := gd (IA 15 v1) (some ((h 15 (Int32.toNatClampNeg v1)), h))
theorem r_13_84 {X : GX} {d : Nat} {r : Int32 × Hp} (hd : 5 ≤ d) (hq : RtX X (some (.int r.1)) r.2) {h : Hp} {v1 : Int32} (e : R_13_84 v1 h = some r) : G X d 13 84 [some (.ref 0), some (.int v1), none] [] h := by
  unfold R_13_84 at e
  have g := gd_s e; clear e; obtain ⟨b0, e⟩ := g
  rw [← Option.some.inj e] at hq
  exact k_13_84 b0 hq
noncomputable def R_13_94 (v1 : Int32) (h : Hp) : Option (Int32 × Hp) := gd (IA 3 v1) (some ((h 3 (Int32.toNatClampNeg v1)), h))
theorem r_13_94 {X : GX} {d : Nat} {r : Int32 × Hp} (hd : 5 ≤ d) (hq : RtX X (some (.int r.1)) r.2) {h : Hp} {v1 : Int32} (e : R_13_94 v1 h = some r) : G X d 13 94 [some (.ref 0), some (.int v1), none] [] h := by
  unfold R_13_94 at e
  have g := gd_s e; clear e; obtain ⟨b0, e⟩ := g
  rw [← Option.some.inj e] at hq
  exact k_13_94 b0 hq
noncomputable def R_13_119 (h : Hp) : Option (Int32 × Hp) := some (0, h)
theorem r_13_119 {X : GX} {d : Nat} {r : Int32 × Hp} (hd : 5 ≤ d) (hq : RtX X (some (.int r.1)) r.2) {h : Hp} (e : R_13_119 h = some r) : G X d 13 119 [none, none, none] [] h := by
  unfold R_13_119 at e
  rw [← Option.some.inj e] at hq
  exact k_13_119 hq
noncomputable def R_13_115 (h : Hp) : Option (Int32 × Hp) := some (1, h)
theorem r_13_115 {X : GX} {d : Nat} {r : Int32 × Hp} (hd : 5 ≤ d) (hq : RtX X (some (.int r.1)) r.2) {h : Hp} (e : R_13_115 h = some r) : G X d 13 115 [none, none, none] [] h := by
  unfold R_13_115 at e
  rw [← Option.some.inj e] at hq
  exact k_13_115 hq
noncomputable def R_13_112 (s0 : Int32) (h : Hp) : Option (Int32 × Hp) := if s0 = 0 then R_13_119 h else R_13_115 h
theorem r_13_112 {X : GX} {d : Nat} {r : Int32 × Hp} (hd : 5 ≤ d) (hq : RtX X (some (.int r.1)) r.2) {h : Hp} {s0 : Int32} (e : R_13_112 s0 h = some r) : G X d 13 112 [none, none, none] [.int s0] h := by
  unfold R_13_112 at e
  refine k_13_112 (fun c => ?_) (fun c => ?_)
  · rw [if_pos c] at e; exact r_13_119 hd hq e
  · rw [if_neg c] at e; exact r_13_115 hd hq e
noncomputable def R_13_104 (v1 : Int32) (h : Hp) : Option (Int32 × Hp) := bndI (S_15 13 v1 h) (R_13_112)
theorem r_13_104 {X : GX} {d : Nat} {r : Int32 × Hp} (hd : 5 ≤ d) (hq : RtX X (some (.int r.1)) r.2) {h : Hp} {v1 : Int32} (e : R_13_104 v1 h = some r) : G X d 13 104 [some (.ref 0), some (.int v1), none] [] h := by
  unfold R_13_104 at e
  obtain ⟨x, h2, e1, e2⟩ := bndI_s e
  refine k_13_104 (by omega) (t_15 e1) ?_
  rintro _ _ ⟨rfl, rfl⟩
  exact r_13_112 hd hq e2
noncomputable def R_13_133 (s0 : Int32) (h : Hp) : Option (Int32 × Hp) := some (s0, h)
theorem r_13_133 {X : GX} {d : Nat} {r : Int32 × Hp} (hd : 5 ≤ d) (hq : RtX X (some (.int r.1)) r.2) {h : Hp} {s0 : Int32} (e : R_13_133 s0 h = some r) : G X d 13 133 [none, none, none] [.int s0] h := by
  unfold R_13_133 at e
  rw [← Option.some.inj e] at hq
  exact k_13_133 hq
noncomputable def R_13_121 (v1 : Int32) (h : Hp) : Option (Int32 × Hp) := bndI (S_16 13 v1 h) (R_13_133)
theorem r_13_121 {X : GX} {d : Nat} {r : Int32 × Hp} (hd : 5 ≤ d) (hq : RtX X (some (.int r.1)) r.2) {h : Hp} {v1 : Int32} (e : R_13_121 v1 h = some r) : G X d 13 121 [some (.ref 0), some (.int v1), none] [] h := by
  unfold R_13_121 at e
  obtain ⟨x, h2, e1, e2⟩ := bndI_s e
  refine k_13_121 (by omega) (t_16 e1) ?_
  rintro _ _ ⟨rfl, rfl⟩
  exact r_13_133 hd hq e2
noncomputable def R_13_146 (s0 : Int32) (h : Hp) : Option (Int32 × Hp) := some (s0, h)
theorem r_13_146 {X : GX} {d : Nat} {r : Int32 × Hp} (hd : 5 ≤ d) (hq : RtX X (some (.int r.1)) r.2) {h : Hp} {s0 : Int32} (e : R_13_146 s0 h = some r) : G X d 13 146 [none, none, none] [.int s0] h := by
  unfold R_13_146 at e
  rw [← Option.some.inj e] at hq
  exact k_13_146 hq
noncomputable def R_13_134 (v1 : Int32) (h : Hp) : Option (Int32 × Hp) := bndI (S_21 13 v1 h) (R_13_146)
theorem r_13_134 {X : GX} {d : Nat} {r : Int32 × Hp} (hd : 5 ≤ d) (hq : RtX X (some (.int r.1)) r.2) {h : Hp} {v1 : Int32} (e : R_13_134 v1 h = some r) : G X d 13 134 [some (.ref 0), some (.int v1), none] [] h := by
  unfold R_13_134 at e
  obtain ⟨x, h2, e1, e2⟩ := bndI_s e
  refine k_13_134 (by omega) (t_21 e1) ?_
  rintro _ _ ⟨rfl, rfl⟩
  exact r_13_146 hd hq e2
noncomputable def R_13_159 (s0 : Int32) (h : Hp) : Option (Int32 × Hp) := some (s0, h)
theorem r_13_159 {X : GX} {d : Nat} {r : Int32 × Hp} (hd : 5 ≤ d) (hq : RtX X (some (.int r.1)) r.2) {h : Hp} {s0 : Int32} (e : R_13_159 s0 h = some r) : G X d 13 159 [none, none, none] [.int s0] h := by
  unfold R_13_159 at e
  rw [← Option.some.inj e] at hq
  exact k_13_159 hq
noncomputable def R_13_147 (v1 : Int32) (h : Hp) : Option (Int32 × Hp) := bndI (S_20 13 v1 h) (R_13_159)
theorem r_13_147 {X : GX} {d : Nat} {r : Int32 × Hp} (hd : 5 ≤ d) (hq : RtX X (some (.int r.1)) r.2) {h : Hp} {v1 : Int32} (e : R_13_147 v1 h = some r) : G X d 13 147 [some (.ref 0), some (.int v1), none] [] h := by
  unfold R_13_147 at e
  obtain ⟨x, h2, e1, e2⟩ := bndI_s e
  refine k_13_147 (by omega) (t_20 e1) ?_
  rintro _ _ ⟨rfl, rfl⟩
  exact r_13_159 hd hq e2
noncomputable def R_13_179 (h : Hp) : Option (Int32 × Hp) := some (0, h)
theorem r_13_179 {X : GX} {d : Nat} {r : Int32 × Hp} (hd : 5 ≤ d) (hq : RtX X (some (.int r.1)) r.2) {h : Hp} (e : R_13_179 h = some r) : G X d 13 179 [none, none, none] [] h := by
  unfold R_13_179 at e
  rw [← Option.some.inj e] at hq
  exact k_13_179 hq
noncomputable def R_13_175 (h : Hp) : Option (Int32 × Hp) := some (1, h)
theorem r_13_175 {X : GX} {d : Nat} {r : Int32 × Hp} (hd : 5 ≤ d) (hq : RtX X (some (.int r.1)) r.2) {h : Hp} (e : R_13_175 h = some r) : G X d 13 175 [none, none, none] [] h := by
  unfold R_13_175 at e
  rw [← Option.some.inj e] at hq
  exact k_13_175 hq
noncomputable def R_13_172 (s0 : Int32) (h : Hp) : Option (Int32 × Hp) := if s0 = 0 then R_13_179 h else R_13_175 h
theorem r_13_172 {X : GX} {d : Nat} {r : Int32 × Hp} (hd : 5 ≤ d) (hq : RtX X (some (.int r.1)) r.2) {h : Hp} {s0 : Int32} (e : R_13_172 s0 h = some r) : G X d 13 172 [none, none, none] [.int s0] h := by
  unfold R_13_172 at e
  refine k_13_172 (fun c => ?_) (fun c => ?_)
  · rw [if_pos c] at e; exact r_13_179 hd hq e
  · rw [if_neg c] at e; exact r_13_175 hd hq e
noncomputable def R_13_160 (v1 : Int32) (h : Hp) : Option (Int32 × Hp) := bndI (S_23 13 v1 h) (R_13_172)
theorem r_13_160 {X : GX} {d : Nat} {r : Int32 × Hp} (hd : 5 ≤ d) (hq : RtX X (some (.int r.1)) r.2) {h : Hp} {v1 : Int32} (e : R_13_160 v1 h = some r) : G X d 13 160 [some (.ref 0), some (.int v1), none] [] h := by
  unfold R_13_160 at e
  obtain ⟨x, h2, e1, e2⟩ := bndI_s e
  refine k_13_160 (by omega) (t_23 e1) ?_
  rintro _ _ ⟨rfl, rfl⟩
  exact r_13_172 hd hq e2
noncomputable def R_13_193 (s0 : Int32) (h : Hp) : Option (Int32 × Hp) := some (s0, h)
theorem r_13_193 {X : GX} {d : Nat} {r : Int32 × Hp} (hd : 5 ≤ d) (hq : RtX X (some (.int r.1)) r.2) {h : Hp} {s0 : Int32} (e : R_13_193 s0 h = some r) : G X d 13 193 [none, none, none] [.int s0] h := by
  unfold R_13_193 at e
  rw [← Option.some.inj e] at hq
  exact k_13_193 hq
noncomputable def R_13_181 (v1 : Int32) (h : Hp) : Option (Int32 × Hp) := bndI (S_24 13 v1 h) (R_13_193)
theorem r_13_181 {X : GX} {d : Nat} {r : Int32 × Hp} (hd : 5 ≤ d) (hq : RtX X (some (.int r.1)) r.2) {h : Hp} {v1 : Int32} (e : R_13_181 v1 h = some r) : G X d 13 181 [some (.ref 0), some (.int v1), none] [] h := by
  unfold R_13_181 at e
  obtain ⟨x, h2, e1, e2⟩ := bndI_s e
  refine k_13_181 (by omega) (t_24 e1) ?_
  rintro _ _ ⟨rfl, rfl⟩
  exact r_13_193 hd hq e2
noncomputable def R_13_194 (h : Hp) : Option (Int32 × Hp) := some (((-1)), h)
theorem r_13_194 {X : GX} {d : Nat} {r : Int32 × Hp} (hd : 5 ≤ d) (hq : RtX X (some (.int r.1)) r.2) {h : Hp} (e : R_13_194 h = some r) : G X d 13 194 [none, none, none] [] h := by
  unfold R_13_194 at e
  rw [← Option.some.inj e] at hq
  exact k_13_194 hq
noncomputable def R_13_10 (v1 : Int32) (v2 : Int32) (h : Hp) : Option (Int32 × Hp) := if v2 = 0 then R_13_64 v1 h else (if v2 = 1 then R_13_74 v1 h else (if v2 = 2 then R_13_84 v1 h else (if v2 = 3 then R_13_94 v1 h else (if v2 = 4 then R_13_104 v1 h else (if v2 = 5 then R_13_121 v1 h else (if v2 = 6 then R_13_134 v1 h else (if v2 = 7 then R_13_147 v1 h else (if v2 = 8 then R_13_160 v1 h else (if v2 = 9 then R_13_181 v1 h else (R_13_194 h))))))))))
theorem r_13_10 {X : GX} {d : Nat} {r : Int32 × Hp} (hd : 5 ≤ d) (hq : RtX X (some (.int r.1)) r.2) {h : Hp} {v1 : Int32} {v2 : Int32} (e : R_13_10 v1 v2 h = some r) : G X d 13 10 [some (.ref 0), some (.int v1), some (.int v2)] [] h := by
  unfold R_13_10 at e
  refine k_13_10 (fun c => ?_) (fun c => ?_) (fun c => ?_) (fun c => ?_) (fun c => ?_) (fun c => ?_) (fun c => ?_) (fun c => ?_) (fun c => ?_) (fun c => ?_) (fun c0 c1 c2 c3 c4 c5 c6 c7 c8 c9 => ?_)
  · rw [if_pos c] at e; exact r_13_64 hd hq e
  · rw [if_neg (show ¬ v2 = 0 by rw [c]; decide), if_pos c] at e; exact r_13_74 hd hq e
  · rw [if_neg (show ¬ v2 = 0 by rw [c]; decide), if_neg (show ¬ v2 = 1 by rw [c]; decide), if_pos c] at e; exact r_13_84 hd hq e
  · rw [if_neg (show ¬ v2 = 0 by rw [c]; decide), if_neg (show ¬ v2 = 1 by rw [c]; decide), if_neg (show ¬ v2 = 2 by rw [c]; decide), if_pos c] at e; exact r_13_94 hd hq e
  · rw [if_neg (show ¬ v2 = 0 by rw [c]; decide), if_neg (show ¬ v2 = 1 by rw [c]; decide), if_neg (show ¬ v2 = 2 by rw [c]; decide), if_neg (show ¬ v2 = 3 by rw [c]; decide), if_pos c] at e; exact r_13_104 hd hq e
  · rw [if_neg (show ¬ v2 = 0 by rw [c]; decide), if_neg (show ¬ v2 = 1 by rw [c]; decide), if_neg (show ¬ v2 = 2 by rw [c]; decide), if_neg (show ¬ v2 = 3 by rw [c]; decide), if_neg (show ¬ v2 = 4 by rw [c]; decide), if_pos c] at e; exact r_13_121 hd hq e
  · rw [if_neg (show ¬ v2 = 0 by rw [c]; decide), if_neg (show ¬ v2 = 1 by rw [c]; decide), if_neg (show ¬ v2 = 2 by rw [c]; decide), if_neg (show ¬ v2 = 3 by rw [c]; decide), if_neg (show ¬ v2 = 4 by rw [c]; decide), if_neg (show ¬ v2 = 5 by rw [c]; decide), if_pos c] at e; exact r_13_134 hd hq e
  · rw [if_neg (show ¬ v2 = 0 by rw [c]; decide), if_neg (show ¬ v2 = 1 by rw [c]; decide), if_neg (show ¬ v2 = 2 by rw [c]; decide), if_neg (show ¬ v2 = 3 by rw [c]; decide), if_neg (show ¬ v2 = 4 by rw [c]; decide), if_neg (show ¬ v2 = 5 by rw [c]; decide), if_neg (show ¬ v2 = 6 by rw [c]; decide), if_pos c] at e; exact r_13_147 hd hq e
  · rw [if_neg (show ¬ v2 = 0 by rw [c]; decide), if_neg (show ¬ v2 = 1 by rw [c]; decide), if_neg (show ¬ v2 = 2 by rw [c]; decide), if_neg (show ¬ v2 = 3 by rw [c]; decide), if_neg (show ¬ v2 = 4 by rw [c]; decide), if_neg (show ¬ v2 = 5 by rw [c]; decide), if_neg (show ¬ v2 = 6 by rw [c]; decide), if_neg (show ¬ v2 = 7 by rw [c]; decide), if_pos c] at e; exact r_13_160 hd hq e
  · rw [if_neg (show ¬ v2 = 0 by rw [c]; decide), if_neg (show ¬ v2 = 1 by rw [c]; decide), if_neg (show ¬ v2 = 2 by rw [c]; decide), if_neg (show ¬ v2 = 3 by rw [c]; decide), if_neg (show ¬ v2 = 4 by rw [c]; decide), if_neg (show ¬ v2 = 5 by rw [c]; decide), if_neg (show ¬ v2 = 6 by rw [c]; decide), if_neg (show ¬ v2 = 7 by rw [c]; decide), if_neg (show ¬ v2 = 8 by rw [c]; decide), if_pos c] at e; exact r_13_181 hd hq e
  · rw [if_neg c0, if_neg c1, if_neg c2, if_neg c3, if_neg c4, if_neg c5, if_neg c6, if_neg c7, if_neg c8, if_neg c9] at e; exact r_13_194 hd hq e
noncomputable def R_13_8 (h : Hp) : Option (Int32 × Hp) := some (((-1)), h)
theorem r_13_8 {X : GX} {d : Nat} {r : Int32 × Hp} (hd : 5 ≤ d) (hq : RtX X (some (.int r.1)) r.2) {h : Hp} (e : R_13_8 h = some r) : G X d 13 8 [none, none, none] [] h := by
  unfold R_13_8 at e
  rw [← Option.some.inj e] at hq
  exact k_13_8 hq
noncomputable def R_13_5 (v1 : Int32) (v2 : Int32) (s0 : Int32) (h : Hp) : Option (Int32 × Hp) := if s0 = 0 then R_13_8 h else R_13_10 v1 v2 h
theorem r_13_5 {X : GX} {d : Nat} {r : Int32 × Hp} (hd : 5 ≤ d) (hq : RtX X (some (.int r.1)) r.2) {h : Hp} {v1 : Int32} {v2 : Int32} {s0 : Int32} (e : R_13_5 v1 v2 s0 h = some r) : G X d 13 5 [some (.ref 0), some (.int v1), some (.int v2)] [.int s0] h := by
  unfold R_13_5 at e
  refine k_13_5 (fun c => ?_) (fun c => ?_)
  · rw [if_neg c] at e; exact r_13_10 hd hq e
  · rw [if_pos c] at e; exact r_13_8 hd hq e
noncomputable def R_13_0 (v1 : Int32) (v2 : Int32) (h : Hp) : Option (Int32 × Hp) := bndI (S_14 v1 h) (R_13_5 v1 v2)
theorem r_13_0 {X : GX} {d : Nat} {r : Int32 × Hp} (hd : 5 ≤ d) (hq : RtX X (some (.int r.1)) r.2) {h : Hp} {v1 : Int32} {v2 : Int32} (e : R_13_0 v1 v2 h = some r) : G X d 13 0 [some (.ref 0), some (.int v1), some (.int v2)] [] h := by
  unfold R_13_0 at e
  obtain ⟨x, h2, e1, e2⟩ := bndI_s e
  refine k_13_0 (by omega) (t_14 e1) ?_
  rintro _ _ ⟨rfl, rfl⟩
  exact r_13_5 hd hq e2
noncomputable def S_13 (v1 : Int32) (v2 : Int32) (h : Hp) : Option (Int32 × Hp) := R_13_0 v1 v2 h
set_option maxRecDepth 100000 in
theorem t_13 {v1 : Int32} {v2 : Int32} {h : Hp} {r : Int32 × Hp} (e : S_13 v1 v2 h = some r) : CI 5 13 [.ref 0, .int v1, .int v2] h (fun x g => x = r.1 ∧ g = r.2) := by
  refine C.of mo_13 (Nat.le_of_ble_eq_true rfl) (fun X hq => ?_)
  exact r_13_0 (Nat.le_refl _) (hq _ _ ⟨_, rfl, rfl, rfl⟩) e
/-! 29 PlayedTruth.put([III)I -/
noncomputable def R_29_0 (v0 : Nat) (v1 : Int32) (v2 : Int32) (h : Hp) : Option (Int32 × Hp) := gd (IA v0 v1) (some ((h v0 (Int32.toNatClampNeg v1)), (wr h v0 (Int32.toNatClampNeg v1) v2)))
theorem r_29_0 {X : GX} {d : Nat} {r : Int32 × Hp} (hd : 1 ≤ d) (hq : RtX X (some (.int r.1)) r.2) {h : Hp} {v0 : Nat} {v1 : Int32} {v2 : Int32} (e : R_29_0 v0 v1 v2 h = some r) : G X d 29 0 [some (.ref v0), some (.int v1), some (.int v2), none] [] h := by
  unfold R_29_0 at e
  have g := gd_s e; clear e; obtain ⟨b0, e⟩ := g
  rw [← Option.some.inj e] at hq
  exact k_29_0 b0 hq
noncomputable def S_29 (v0 : Nat) (v1 : Int32) (v2 : Int32) (h : Hp) : Option (Int32 × Hp) := R_29_0 v0 v1 v2 h
set_option maxRecDepth 100000 in
theorem t_29 {v0 : Nat} {v1 : Int32} {v2 : Int32} {h : Hp} {r : Int32 × Hp} (e : S_29 v0 v1 v2 h = some r) : CI 1 29 [.ref v0, .int v1, .int v2] h (fun x g => x = r.1 ∧ g = r.2) := by
  refine C.of mo_29 (Nat.le_of_ble_eq_true rfl) (fun X hq => ?_)
  exact r_29_0 (Nat.le_refl _) (hq _ _ ⟨_, rfl, rfl, rfl⟩) e
/-! 30 PlayedTruth.putSettled(II)I -/
noncomputable def R_30_15 (v1 : Int32) (v2 : Int32) (h : Hp) : Option (Int32 × Hp) := some (0, (wr h 13 2 (((h 13 2) &&& ((1 <<< (v1 &&& 31)) ^^^ ((-1)))) ||| (v2 <<< (v1 &&& 31)))))
theorem r_30_15 {X : GX} {d : Nat} {r : Int32 × Hp} (hd : 2 ≤ d) (hq : RtX X (some (.int r.1)) r.2) {h : Hp} {v1 : Int32} {v2 : Int32} (e : R_30_15 v1 v2 h = some r) : G X d 30 15 [some (.ref 0), some (.int v1), some (.int v2), none] [] h := by
  unfold R_30_15 at e
  rw [← Option.some.inj e] at hq
  exact k_30_15 hq
noncomputable def R_30_11 (v1 : Int32) (v2 : Int32) (h : Hp) : Option (Int32 × Hp) := some (1, (wr h 13 2 (((h 13 2) &&& ((1 <<< (v1 &&& 31)) ^^^ ((-1)))) ||| (v2 <<< (v1 &&& 31)))))
theorem r_30_11 {X : GX} {d : Nat} {r : Int32 × Hp} (hd : 2 ≤ d) (hq : RtX X (some (.int r.1)) r.2) {h : Hp} {v1 : Int32} {v2 : Int32} (e : R_30_11 v1 v2 h = some r) : G X d 30 11 [some (.ref 0), some (.int v1), some (.int v2), none] [] h := by
  unfold R_30_11 at e
  rw [← Option.some.inj e] at hq
  exact k_30_11 hq
noncomputable def R_30_8 (v1 : Int32) (v2 : Int32) (s0 : Int32) (h : Hp) : Option (Int32 × Hp) := if s0 = 0 then R_30_15 v1 v2 h else R_30_11 v1 v2 h
theorem r_30_8 {X : GX} {d : Nat} {r : Int32 × Hp} (hd : 2 ≤ d) (hq : RtX X (some (.int r.1)) r.2) {h : Hp} {v1 : Int32} {v2 : Int32} {s0 : Int32} (e : R_30_8 v1 v2 s0 h = some r) : G X d 30 8 [some (.ref 0), some (.int v1), some (.int v2), none] [.int s0] h := by
  unfold R_30_8 at e
  refine k_30_8 (fun c => ?_) (fun c => ?_)
  · rw [if_pos c] at e; exact r_30_15 hd hq e
  · rw [if_neg c] at e; exact r_30_11 hd hq e
noncomputable def R_30_0 (v1 : Int32) (v2 : Int32) (h : Hp) : Option (Int32 × Hp) := bndI (S_15 13 v1 h) (R_30_8 v1 v2)
theorem r_30_0 {X : GX} {d : Nat} {r : Int32 × Hp} (hd : 2 ≤ d) (hq : RtX X (some (.int r.1)) r.2) {h : Hp} {v1 : Int32} {v2 : Int32} (e : R_30_0 v1 v2 h = some r) : G X d 30 0 [some (.ref 0), some (.int v1), some (.int v2), none] [] h := by
  unfold R_30_0 at e
  obtain ⟨x, h2, e1, e2⟩ := bndI_s e
  refine k_30_0 (by omega) (t_15 e1) ?_
  rintro _ _ ⟨rfl, rfl⟩
  exact r_30_8 hd hq e2
noncomputable def S_30 (v1 : Int32) (v2 : Int32) (h : Hp) : Option (Int32 × Hp) := R_30_0 v1 v2 h
set_option maxRecDepth 100000 in
theorem t_30 {v1 : Int32} {v2 : Int32} {h : Hp} {r : Int32 × Hp} (e : S_30 v1 v2 h = some r) : CI 2 30 [.ref 0, .int v1, .int v2] h (fun x g => x = r.1 ∧ g = r.2) := by
  refine C.of mo_30 (Nat.le_of_ble_eq_true rfl) (fun X hq => ?_)
  exact r_30_0 (Nat.le_refl _) (hq _ _ ⟨_, rfl, rfl, rfl⟩) e
/-! 28 PlayedTruth.change(III)I -/
noncomputable def R_28_65 (h : Hp) : Option (Int32 × Hp) := some (((-1)), h)
theorem r_28_65 {X : GX} {d : Nat} {r : Int32 × Hp} (hd : 3 ≤ d) (hq : RtX X (some (.int r.1)) r.2) {h : Hp} (e : R_28_65 h = some r) : G X d 28 65 [none, none, none, none] [] h := by
  unfold R_28_65 at e
  rw [← Option.some.inj e] at hq
  exact k_28_65 hq
noncomputable def R_28_62 (s0 : Int32) (h : Hp) : Option (Int32 × Hp) := some (s0, h)
theorem r_28_62 {X : GX} {d : Nat} {r : Int32 × Hp} (hd : 3 ≤ d) (hq : RtX X (some (.int r.1)) r.2) {h : Hp} {s0 : Int32} (e : R_28_62 s0 h = some r) : G X d 28 62 [none, none, none, none] [.int s0] h := by
  unfold R_28_62 at e
  rw [← Option.some.inj e] at hq
  exact k_28_62 hq
noncomputable def R_28_50 (v1 : Int32) (v3 : Int32) (h : Hp) : Option (Int32 × Hp) := bndI (S_29 14 v1 v3 h) (R_28_62)
theorem r_28_50 {X : GX} {d : Nat} {r : Int32 × Hp} (hd : 3 ≤ d) (hq : RtX X (some (.int r.1)) r.2) {h : Hp} {v1 : Int32} {v3 : Int32} (e : R_28_50 v1 v3 h = some r) : G X d 28 50 [some (.ref 0), some (.int v1), none, some (.int v3)] [] h := by
  unfold R_28_50 at e
  obtain ⟨x, h2, e1, e2⟩ := bndI_s e
  refine k_28_50 (by omega) (t_29 e1) ?_
  rintro _ _ ⟨rfl, rfl⟩
  exact r_28_62 hd hq e2
noncomputable def R_28_47 (v1 : Int32) (v3 : Int32) (s0 : Int32) (h : Hp) : Option (Int32 × Hp) := if s0 = 0 then R_28_65 h else R_28_50 v1 v3 h
theorem r_28_47 {X : GX} {d : Nat} {r : Int32 × Hp} (hd : 3 ≤ d) (hq : RtX X (some (.int r.1)) r.2) {h : Hp} {v1 : Int32} {v3 : Int32} {s0 : Int32} (e : R_28_47 v1 v3 s0 h = some r) : G X d 28 47 [some (.ref 0), some (.int v1), none, some (.int v3)] [.int s0] h := by
  unfold R_28_47 at e
  refine k_28_47 (fun c => ?_) (fun c => ?_)
  · rw [if_pos c] at e; exact r_28_65 hd hq e
  · rw [if_neg c] at e; exact r_28_50 hd hq e
noncomputable def R_28_40 (v1 : Int32) (v3 : Int32) (h : Hp) : Option (Int32 × Hp) := bndI (S_11 v3 0 99 h) (R_28_47 v1 v3)
theorem r_28_40 {X : GX} {d : Nat} {r : Int32 × Hp} (hd : 3 ≤ d) (hq : RtX X (some (.int r.1)) r.2) {h : Hp} {v1 : Int32} {v3 : Int32} (e : R_28_40 v1 v3 h = some r) : G X d 28 40 [some (.ref 0), some (.int v1), none, some (.int v3)] [] h := by
  unfold R_28_40 at e
  obtain ⟨x, h2, e1, e2⟩ := bndI_s e
  refine k_28_40 (by omega) (t_11 e1) ?_
  rintro _ _ ⟨rfl, rfl⟩
  exact r_28_47 hd hq e2
noncomputable def R_28_92 (h : Hp) : Option (Int32 × Hp) := some (((-1)), h)
theorem r_28_92 {X : GX} {d : Nat} {r : Int32 × Hp} (hd : 3 ≤ d) (hq : RtX X (some (.int r.1)) r.2) {h : Hp} (e : R_28_92 h = some r) : G X d 28 92 [none, none, none, none] [] h := by
  unfold R_28_92 at e
  rw [← Option.some.inj e] at hq
  exact k_28_92 hq
noncomputable def R_28_89 (s0 : Int32) (h : Hp) : Option (Int32 × Hp) := some (s0, h)
theorem r_28_89 {X : GX} {d : Nat} {r : Int32 × Hp} (hd : 3 ≤ d) (hq : RtX X (some (.int r.1)) r.2) {h : Hp} {s0 : Int32} (e : R_28_89 s0 h = some r) : G X d 28 89 [none, none, none, none] [.int s0] h := by
  unfold R_28_89 at e
  rw [← Option.some.inj e] at hq
  exact k_28_89 hq
noncomputable def R_28_77 (v1 : Int32) (v3 : Int32) (h : Hp) : Option (Int32 × Hp) := bndI (S_29 15 v1 v3 h) (R_28_89)
theorem r_28_77 {X : GX} {d : Nat} {r : Int32 × Hp} (hd : 3 ≤ d) (hq : RtX X (some (.int r.1)) r.2) {h : Hp} {v1 : Int32} {v3 : Int32} (e : R_28_77 v1 v3 h = some r) : G X d 28 77 [some (.ref 0), some (.int v1), none, some (.int v3)] [] h := by
  unfold R_28_77 at e
  obtain ⟨x, h2, e1, e2⟩ := bndI_s e
  refine k_28_77 (by omega) (t_29 e1) ?_
  rintro _ _ ⟨rfl, rfl⟩
  exact r_28_89 hd hq e2
noncomputable def R_28_74 (v1 : Int32) (v3 : Int32) (s0 : Int32) (h : Hp) : Option (Int32 × Hp) := if s0 = 0 then R_28_92 h else R_28_77 v1 v3 h
theorem r_28_74 {X : GX} {d : Nat} {r : Int32 × Hp} (hd : 3 ≤ d) (hq : RtX X (some (.int r.1)) r.2) {h : Hp} {v1 : Int32} {v3 : Int32} {s0 : Int32} (e : R_28_74 v1 v3 s0 h = some r) : G X d 28 74 [some (.ref 0), some (.int v1), none, some (.int v3)] [.int s0] h := by
  unfold R_28_74 at e
  refine k_28_74 (fun c => ?_) (fun c => ?_)
  · rw [if_pos c] at e; exact r_28_92 hd hq e
  · rw [if_neg c] at e; exact r_28_77 hd hq e
noncomputable def R_28_67 (v1 : Int32) (v3 : Int32) (h : Hp) : Option (Int32 × Hp) := bndI (S_11 v3 0 9 h) (R_28_74 v1 v3)
theorem r_28_67 {X : GX} {d : Nat} {r : Int32 × Hp} (hd : 3 ≤ d) (hq : RtX X (some (.int r.1)) r.2) {h : Hp} {v1 : Int32} {v3 : Int32} (e : R_28_67 v1 v3 h = some r) : G X d 28 67 [some (.ref 0), some (.int v1), none, some (.int v3)] [] h := by
  unfold R_28_67 at e
  obtain ⟨x, h2, e1, e2⟩ := bndI_s e
  refine k_28_67 (by omega) (t_11 e1) ?_
  rintro _ _ ⟨rfl, rfl⟩
  exact r_28_74 hd hq e2
noncomputable def R_28_116 (h : Hp) : Option (Int32 × Hp) := some (((-1)), h)
theorem r_28_116 {X : GX} {d : Nat} {r : Int32 × Hp} (hd : 3 ≤ d) (hq : RtX X (some (.int r.1)) r.2) {h : Hp} (e : R_28_116 h = some r) : G X d 28 116 [none, none, none, none] [] h := by
  unfold R_28_116 at e
  rw [← Option.some.inj e] at hq
  exact k_28_116 hq
noncomputable def R_28_113 (s0 : Int32) (h : Hp) : Option (Int32 × Hp) := some (s0, h)
theorem r_28_113 {X : GX} {d : Nat} {r : Int32 × Hp} (hd : 3 ≤ d) (hq : RtX X (some (.int r.1)) r.2) {h : Hp} {s0 : Int32} (e : R_28_113 s0 h = some r) : G X d 28 113 [none, none, none, none] [.int s0] h := by
  unfold R_28_113 at e
  rw [← Option.some.inj e] at hq
  exact k_28_113 hq
noncomputable def R_28_101 (v1 : Int32) (v3 : Int32) (h : Hp) : Option (Int32 × Hp) := bndI (S_29 3 v1 v3 h) (R_28_113)
theorem r_28_101 {X : GX} {d : Nat} {r : Int32 × Hp} (hd : 3 ≤ d) (hq : RtX X (some (.int r.1)) r.2) {h : Hp} {v1 : Int32} {v3 : Int32} (e : R_28_101 v1 v3 h = some r) : G X d 28 101 [some (.ref 0), some (.int v1), none, some (.int v3)] [] h := by
  unfold R_28_101 at e
  obtain ⟨x, h2, e1, e2⟩ := bndI_s e
  refine k_28_101 (by omega) (t_29 e1) ?_
  rintro _ _ ⟨rfl, rfl⟩
  exact r_28_113 hd hq e2
noncomputable def R_28_98 (v1 : Int32) (v3 : Int32) (s0 : Int32) (h : Hp) : Option (Int32 × Hp) := if s0 = 0 then R_28_116 h else R_28_101 v1 v3 h
theorem r_28_98 {X : GX} {d : Nat} {r : Int32 × Hp} (hd : 3 ≤ d) (hq : RtX X (some (.int r.1)) r.2) {h : Hp} {v1 : Int32} {v3 : Int32} {s0 : Int32} (e : R_28_98 v1 v3 s0 h = some r) : G X d 28 98 [some (.ref 0), some (.int v1), none, some (.int v3)] [.int s0] h := by
  unfold R_28_98 at e
  refine k_28_98 (fun c => ?_) (fun c => ?_)
  · rw [if_pos c] at e; exact r_28_116 hd hq e
  · rw [if_neg c] at e; exact r_28_101 hd hq e
noncomputable def R_28_94 (v1 : Int32) (v3 : Int32) (h : Hp) : Option (Int32 × Hp) := bndI (S_12 v3 h) (R_28_98 v1 v3)
theorem r_28_94 {X : GX} {d : Nat} {r : Int32 × Hp} (hd : 3 ≤ d) (hq : RtX X (some (.int r.1)) r.2) {h : Hp} {v1 : Int32} {v3 : Int32} (e : R_28_94 v1 v3 h = some r) : G X d 28 94 [some (.ref 0), some (.int v1), none, some (.int v3)] [] h := by
  unfold R_28_94 at e
  obtain ⟨x, h2, e1, e2⟩ := bndI_s e
  refine k_28_94 (by omega) (t_12 e1) ?_
  rintro _ _ ⟨rfl, rfl⟩
  exact r_28_98 hd hq e2
noncomputable def R_28_136 (h : Hp) : Option (Int32 × Hp) := some (((-1)), h)
theorem r_28_136 {X : GX} {d : Nat} {r : Int32 × Hp} (hd : 3 ≤ d) (hq : RtX X (some (.int r.1)) r.2) {h : Hp} (e : R_28_136 h = some r) : G X d 28 136 [none, none, none, none] [] h := by
  unfold R_28_136 at e
  rw [← Option.some.inj e] at hq
  exact k_28_136 hq
noncomputable def R_28_133 (s0 : Int32) (h : Hp) : Option (Int32 × Hp) := some (s0, h)
theorem r_28_133 {X : GX} {d : Nat} {r : Int32 × Hp} (hd : 3 ≤ d) (hq : RtX X (some (.int r.1)) r.2) {h : Hp} {s0 : Int32} (e : R_28_133 s0 h = some r) : G X d 28 133 [none, none, none, none] [.int s0] h := by
  unfold R_28_133 at e
  rw [← Option.some.inj e] at hq
  exact k_28_133 hq
noncomputable def R_28_127 (v1 : Int32) (v3 : Int32) (h : Hp) : Option (Int32 × Hp) := bndI (S_30 v1 v3 h) (R_28_133)
theorem r_28_127 {X : GX} {d : Nat} {r : Int32 × Hp} (hd : 3 ≤ d) (hq : RtX X (some (.int r.1)) r.2) {h : Hp} {v1 : Int32} {v3 : Int32} (e : R_28_127 v1 v3 h = some r) : G X d 28 127 [some (.ref 0), some (.int v1), none, some (.int v3)] [] h := by
  unfold R_28_127 at e
  obtain ⟨x, h2, e1, e2⟩ := bndI_s e
  refine k_28_127 (by omega) (t_30 e1) ?_
  rintro _ _ ⟨rfl, rfl⟩
  exact r_28_133 hd hq e2
noncomputable def R_28_124 (v1 : Int32) (v3 : Int32) (s0 : Int32) (h : Hp) : Option (Int32 × Hp) := if s0 = 0 then R_28_136 h else R_28_127 v1 v3 h
theorem r_28_124 {X : GX} {d : Nat} {r : Int32 × Hp} (hd : 3 ≤ d) (hq : RtX X (some (.int r.1)) r.2) {h : Hp} {v1 : Int32} {v3 : Int32} {s0 : Int32} (e : R_28_124 v1 v3 s0 h = some r) : G X d 28 124 [some (.ref 0), some (.int v1), none, some (.int v3)] [.int s0] h := by
  unfold R_28_124 at e
  refine k_28_124 (fun c => ?_) (fun c => ?_)
  · rw [if_pos c] at e; exact r_28_136 hd hq e
  · rw [if_neg c] at e; exact r_28_127 hd hq e
noncomputable def R_28_118 (v1 : Int32) (v3 : Int32) (h : Hp) : Option (Int32 × Hp) := bndI (S_11 v3 0 1 h) (R_28_124 v1 v3)
theorem r_28_118 {X : GX} {d : Nat} {r : Int32 × Hp} (hd : 3 ≤ d) (hq : RtX X (some (.int r.1)) r.2) {h : Hp} {v1 : Int32} {v3 : Int32} (e : R_28_118 v1 v3 h = some r) : G X d 28 118 [some (.ref 0), some (.int v1), none, some (.int v3)] [] h := by
  unfold R_28_118 at e
  obtain ⟨x, h2, e1, e2⟩ := bndI_s e
  refine k_28_118 (by omega) (t_11 e1) ?_
  rintro _ _ ⟨rfl, rfl⟩
  exact r_28_124 hd hq e2
noncomputable def R_28_138 (h : Hp) : Option (Int32 × Hp) := some (((-1)), h)
theorem r_28_138 {X : GX} {d : Nat} {r : Int32 × Hp} (hd : 3 ≤ d) (hq : RtX X (some (.int r.1)) r.2) {h : Hp} (e : R_28_138 h = some r) : G X d 28 138 [none, none, none, none] [] h := by
  unfold R_28_138 at e
  rw [← Option.some.inj e] at hq
  exact k_28_138 hq
noncomputable def R_28_10 (v1 : Int32) (v2 : Int32) (v3 : Int32) (h : Hp) : Option (Int32 × Hp) := if v2 = 1 then R_28_40 v1 v3 h else (if v2 = 2 then R_28_67 v1 v3 h else (if v2 = 3 then R_28_94 v1 v3 h else (if v2 = 4 then R_28_118 v1 v3 h else (R_28_138 h))))
theorem r_28_10 {X : GX} {d : Nat} {r : Int32 × Hp} (hd : 3 ≤ d) (hq : RtX X (some (.int r.1)) r.2) {h : Hp} {v1 : Int32} {v2 : Int32} {v3 : Int32} (e : R_28_10 v1 v2 v3 h = some r) : G X d 28 10 [some (.ref 0), some (.int v1), some (.int v2), some (.int v3)] [] h := by
  unfold R_28_10 at e
  refine k_28_10 (fun c => ?_) (fun c => ?_) (fun c => ?_) (fun c => ?_) (fun c0 c1 c2 c3 => ?_)
  · rw [if_pos c] at e; exact r_28_40 hd hq e
  · rw [if_neg (show ¬ v2 = 1 by rw [c]; decide), if_pos c] at e; exact r_28_67 hd hq e
  · rw [if_neg (show ¬ v2 = 1 by rw [c]; decide), if_neg (show ¬ v2 = 2 by rw [c]; decide), if_pos c] at e; exact r_28_94 hd hq e
  · rw [if_neg (show ¬ v2 = 1 by rw [c]; decide), if_neg (show ¬ v2 = 2 by rw [c]; decide), if_neg (show ¬ v2 = 3 by rw [c]; decide), if_pos c] at e; exact r_28_118 hd hq e
  · rw [if_neg c0, if_neg c1, if_neg c2, if_neg c3] at e; exact r_28_138 hd hq e
noncomputable def R_28_8 (h : Hp) : Option (Int32 × Hp) := some (((-1)), h)
theorem r_28_8 {X : GX} {d : Nat} {r : Int32 × Hp} (hd : 3 ≤ d) (hq : RtX X (some (.int r.1)) r.2) {h : Hp} (e : R_28_8 h = some r) : G X d 28 8 [none, none, none, none] [] h := by
  unfold R_28_8 at e
  rw [← Option.some.inj e] at hq
  exact k_28_8 hq
noncomputable def R_28_5 (v1 : Int32) (v2 : Int32) (v3 : Int32) (s0 : Int32) (h : Hp) : Option (Int32 × Hp) := if s0 = 0 then R_28_8 h else R_28_10 v1 v2 v3 h
theorem r_28_5 {X : GX} {d : Nat} {r : Int32 × Hp} (hd : 3 ≤ d) (hq : RtX X (some (.int r.1)) r.2) {h : Hp} {v1 : Int32} {v2 : Int32} {v3 : Int32} {s0 : Int32} (e : R_28_5 v1 v2 v3 s0 h = some r) : G X d 28 5 [some (.ref 0), some (.int v1), some (.int v2), some (.int v3)] [.int s0] h := by
  unfold R_28_5 at e
  refine k_28_5 (fun c => ?_) (fun c => ?_)
  · rw [if_neg c] at e; exact r_28_10 hd hq e
  · rw [if_pos c] at e; exact r_28_8 hd hq e
noncomputable def R_28_0 (v1 : Int32) (v2 : Int32) (v3 : Int32) (h : Hp) : Option (Int32 × Hp) := bndI (S_14 v1 h) (R_28_5 v1 v2 v3)
theorem r_28_0 {X : GX} {d : Nat} {r : Int32 × Hp} (hd : 3 ≤ d) (hq : RtX X (some (.int r.1)) r.2) {h : Hp} {v1 : Int32} {v2 : Int32} {v3 : Int32} (e : R_28_0 v1 v2 v3 h = some r) : G X d 28 0 [some (.ref 0), some (.int v1), some (.int v2), some (.int v3)] [] h := by
  unfold R_28_0 at e
  obtain ⟨x, h2, e1, e2⟩ := bndI_s e
  refine k_28_0 (by omega) (t_14 e1) ?_
  rintro _ _ ⟨rfl, rfl⟩
  exact r_28_5 hd hq e2
noncomputable def S_28 (v1 : Int32) (v2 : Int32) (v3 : Int32) (h : Hp) : Option (Int32 × Hp) := R_28_0 v1 v2 v3 h
set_option maxRecDepth 100000 in
theorem t_28 {v1 : Int32} {v2 : Int32} {v3 : Int32} {h : Hp} {r : Int32 × Hp} (e : S_28 v1 v2 v3 h = some r) : CI 3 28 [.ref 0, .int v1, .int v2, .int v3] h (fun x g => x = r.1 ∧ g = r.2) := by
  refine C.of mo_28 (Nat.le_of_ble_eq_true rfl) (fun X hq => ?_)
  exact r_28_0 (Nat.le_refl _) (hq _ _ ⟨_, rfl, rfl, rfl⟩) e
/-! 31 PlayedTruth.remake(II)I -/
noncomputable def R_31_32 (h : Hp) : Option (Int32 × Hp) := some (((-1)), h)
theorem r_31_32 {X : GX} {d : Nat} {r : Int32 × Hp} (hd : 3 ≤ d) (hq : RtX X (some (.int r.1)) r.2) {h : Hp} (e : R_31_32 h = some r) : G X d 31 32 [none, none, none] [] h := by
  unfold R_31_32 at e
  rw [← Option.some.inj e] at hq
  exact k_31_32 hq
noncomputable def R_31_29 (s0 : Int32) (h : Hp) : Option (Int32 × Hp) := some (s0, h)
theorem r_31_29 {X : GX} {d : Nat} {r : Int32 × Hp} (hd : 3 ≤ d) (hq : RtX X (some (.int r.1)) r.2) {h : Hp} {s0 : Int32} (e : R_31_29 s0 h = some r) : G X d 31 29 [none, none, none] [.int s0] h := by
  unfold R_31_29 at e
  rw [← Option.some.inj e] at hq
  exact k_31_29 hq
noncomputable def R_31_17 (v1 : Int32) (v2 : Int32) (h : Hp) : Option (Int32 × Hp) := bndI (S_29 2 v1 v2 h) (R_31_29)
theorem r_31_17 {X : GX} {d : Nat} {r : Int32 × Hp} (hd : 3 ≤ d) (hq : RtX X (some (.int r.1)) r.2) {h : Hp} {v1 : Int32} {v2 : Int32} (e : R_31_17 v1 v2 h = some r) : G X d 31 17 [some (.ref 0), some (.int v1), some (.int v2)] [] h := by
  unfold R_31_17 at e
  obtain ⟨x, h2, e1, e2⟩ := bndI_s e
  refine k_31_17 (by omega) (t_29 e1) ?_
  rintro _ _ ⟨rfl, rfl⟩
  exact r_31_29 hd hq e2
noncomputable def R_31_14 (v1 : Int32) (v2 : Int32) (s0 : Int32) (h : Hp) : Option (Int32 × Hp) := if s0 = 0 then R_31_32 h else R_31_17 v1 v2 h
theorem r_31_14 {X : GX} {d : Nat} {r : Int32 × Hp} (hd : 3 ≤ d) (hq : RtX X (some (.int r.1)) r.2) {h : Hp} {v1 : Int32} {v2 : Int32} {s0 : Int32} (e : R_31_14 v1 v2 s0 h = some r) : G X d 31 14 [some (.ref 0), some (.int v1), some (.int v2)] [.int s0] h := by
  unfold R_31_14 at e
  refine k_31_14 (fun c => ?_) (fun c => ?_)
  · rw [if_pos c] at e; exact r_31_32 hd hq e
  · rw [if_neg c] at e; exact r_31_17 hd hq e
noncomputable def R_31_8 (v1 : Int32) (v2 : Int32) (h : Hp) : Option (Int32 × Hp) := bndI (S_11 v2 1 5 h) (R_31_14 v1 v2)
theorem r_31_8 {X : GX} {d : Nat} {r : Int32 × Hp} (hd : 3 ≤ d) (hq : RtX X (some (.int r.1)) r.2) {h : Hp} {v1 : Int32} {v2 : Int32} (e : R_31_8 v1 v2 h = some r) : G X d 31 8 [some (.ref 0), some (.int v1), some (.int v2)] [] h := by
  unfold R_31_8 at e
  obtain ⟨x, h2, e1, e2⟩ := bndI_s e
  refine k_31_8 (by omega) (t_11 e1) ?_
  rintro _ _ ⟨rfl, rfl⟩
  exact r_31_14 hd hq e2
noncomputable def R_31_5 (v1 : Int32) (v2 : Int32) (s0 : Int32) (h : Hp) : Option (Int32 × Hp) := if s0 = 0 then R_31_32 h else R_31_8 v1 v2 h
theorem r_31_5 {X : GX} {d : Nat} {r : Int32 × Hp} (hd : 3 ≤ d) (hq : RtX X (some (.int r.1)) r.2) {h : Hp} {v1 : Int32} {v2 : Int32} {s0 : Int32} (e : R_31_5 v1 v2 s0 h = some r) : G X d 31 5 [some (.ref 0), some (.int v1), some (.int v2)] [.int s0] h := by
  unfold R_31_5 at e
  refine k_31_5 (fun c => ?_) (fun c => ?_)
  · rw [if_pos c] at e; exact r_31_32 hd hq e
  · rw [if_neg c] at e; exact r_31_8 hd hq e
noncomputable def R_31_0 (v1 : Int32) (v2 : Int32) (h : Hp) : Option (Int32 × Hp) := bndI (S_14 v1 h) (R_31_5 v1 v2)
theorem r_31_0 {X : GX} {d : Nat} {r : Int32 × Hp} (hd : 3 ≤ d) (hq : RtX X (some (.int r.1)) r.2) {h : Hp} {v1 : Int32} {v2 : Int32} (e : R_31_0 v1 v2 h = some r) : G X d 31 0 [some (.ref 0), some (.int v1), some (.int v2)] [] h := by
  unfold R_31_0 at e
  obtain ⟨x, h2, e1, e2⟩ := bndI_s e
  refine k_31_0 (by omega) (t_14 e1) ?_
  rintro _ _ ⟨rfl, rfl⟩
  exact r_31_5 hd hq e2
noncomputable def S_31 (v1 : Int32) (v2 : Int32) (h : Hp) : Option (Int32 × Hp) := R_31_0 v1 v2 h
set_option maxRecDepth 100000 in
theorem t_31 {v1 : Int32} {v2 : Int32} {h : Hp} {r : Int32 × Hp} (e : S_31 v1 v2 h = some r) : CI 3 31 [.ref 0, .int v1, .int v2] h (fun x g => x = r.1 ∧ g = r.2) := by
  refine C.of mo_31 (Nat.le_of_ble_eq_true rfl) (fun X hq => ?_)
  exact r_31_0 (Nat.le_refl _) (hq _ _ ⟨_, rfl, rfl, rfl⟩) e
/-! 32 PlayedTruth.house(II)I -/
noncomputable def R_32_20 (h : Hp) : Option (Int32 × Hp) := some (((-1)), h)
theorem r_32_20 {X : GX} {d : Nat} {r : Int32 × Hp} (hd : 2 ≤ d) (hq : RtX X (some (.int r.1)) r.2) {h : Hp} (e : R_32_20 h = some r) : G X d 32 20 [none, none, none] [] h := by
  unfold R_32_20 at e
  rw [← Option.some.inj e] at hq
  exact k_32_20 hq
noncomputable def R_32_34 (s0 : Int32) (h : Hp) : Option (Int32 × Hp) := some (s0, h)
theorem r_32_34 {X : GX} {d : Nat} {r : Int32 × Hp} (hd : 2 ≤ d) (hq : RtX X (some (.int r.1)) r.2) {h : Hp} {s0 : Int32} (e : R_32_34 s0 h = some r) : G X d 32 34 [none, none, none] [.int s0] h := by
  unfold R_32_34 at e
  rw [← Option.some.inj e] at hq
  exact k_32_34 hq
noncomputable def R_32_22 (v1 : Int32) (v2 : Int32) (h : Hp) : Option (Int32 × Hp) := bndI (S_29 4 v1 v2 h) (R_32_34)
theorem r_32_22 {X : GX} {d : Nat} {r : Int32 × Hp} (hd : 2 ≤ d) (hq : RtX X (some (.int r.1)) r.2) {h : Hp} {v1 : Int32} {v2 : Int32} (e : R_32_22 v1 v2 h = some r) : G X d 32 22 [some (.ref 0), some (.int v1), some (.int v2)] [] h := by
  unfold R_32_22 at e
  obtain ⟨x, h2, e1, e2⟩ := bndI_s e
  refine k_32_22 (by omega) (t_29 e1) ?_
  rintro _ _ ⟨rfl, rfl⟩
  exact r_32_34 hd hq e2
noncomputable def R_32_17 (v1 : Int32) (v2 : Int32) (s0 : Int32) (h : Hp) : Option (Int32 × Hp) := if s0 = 0 then R_32_20 h else R_32_22 v1 v2 h
theorem r_32_17 {X : GX} {d : Nat} {r : Int32 × Hp} (hd : 2 ≤ d) (hq : RtX X (some (.int r.1)) r.2) {h : Hp} {v1 : Int32} {v2 : Int32} {s0 : Int32} (e : R_32_17 v1 v2 s0 h = some r) : G X d 32 17 [some (.ref 0), some (.int v1), some (.int v2)] [.int s0] h := by
  unfold R_32_17 at e
  refine k_32_17 (fun c => ?_) (fun c => ?_)
  · rw [if_neg c] at e; exact r_32_22 hd hq e
  · rw [if_pos c] at e; exact r_32_20 hd hq e
noncomputable def R_32_10 (v1 : Int32) (v2 : Int32) (h : Hp) : Option (Int32 × Hp) := bndI (S_11 v2 0 15 h) (R_32_17 v1 v2)
theorem r_32_10 {X : GX} {d : Nat} {r : Int32 × Hp} (hd : 2 ≤ d) (hq : RtX X (some (.int r.1)) r.2) {h : Hp} {v1 : Int32} {v2 : Int32} (e : R_32_10 v1 v2 h = some r) : G X d 32 10 [some (.ref 0), some (.int v1), some (.int v2)] [] h := by
  unfold R_32_10 at e
  obtain ⟨x, h2, e1, e2⟩ := bndI_s e
  refine k_32_10 (by omega) (t_11 e1) ?_
  rintro _ _ ⟨rfl, rfl⟩
  exact r_32_17 hd hq e2
noncomputable def R_32_7 (v1 : Int32) (v2 : Int32) (s0 : Int32) (h : Hp) : Option (Int32 × Hp) := if s0 = 0 then R_32_20 h else R_32_10 v1 v2 h
theorem r_32_7 {X : GX} {d : Nat} {r : Int32 × Hp} (hd : 2 ≤ d) (hq : RtX X (some (.int r.1)) r.2) {h : Hp} {v1 : Int32} {v2 : Int32} {s0 : Int32} (e : R_32_7 v1 v2 s0 h = some r) : G X d 32 7 [some (.ref 0), some (.int v1), some (.int v2)] [.int s0] h := by
  unfold R_32_7 at e
  refine k_32_7 (fun c => ?_) (fun c => ?_)
  · rw [if_pos c] at e; exact r_32_20 hd hq e
  · rw [if_neg c] at e; exact r_32_10 hd hq e
noncomputable def R_32_0 (v1 : Int32) (v2 : Int32) (h : Hp) : Option (Int32 × Hp) := bndI (S_11 v1 0 15 h) (R_32_7 v1 v2)
theorem r_32_0 {X : GX} {d : Nat} {r : Int32 × Hp} (hd : 2 ≤ d) (hq : RtX X (some (.int r.1)) r.2) {h : Hp} {v1 : Int32} {v2 : Int32} (e : R_32_0 v1 v2 h = some r) : G X d 32 0 [some (.ref 0), some (.int v1), some (.int v2)] [] h := by
  unfold R_32_0 at e
  obtain ⟨x, h2, e1, e2⟩ := bndI_s e
  refine k_32_0 (by omega) (t_11 e1) ?_
  rintro _ _ ⟨rfl, rfl⟩
  exact r_32_7 hd hq e2
noncomputable def S_32 (v1 : Int32) (v2 : Int32) (h : Hp) : Option (Int32 × Hp) := R_32_0 v1 v2 h
set_option maxRecDepth 100000 in
theorem t_32 {v1 : Int32} {v2 : Int32} {h : Hp} {r : Int32 × Hp} (e : S_32 v1 v2 h = some r) : CI 2 32 [.ref 0, .int v1, .int v2] h (fun x g => x = r.1 ∧ g = r.2) := by
  refine C.of mo_32 (Nat.le_of_ble_eq_true rfl) (fun X hq => ?_)
  exact r_32_0 (Nat.le_refl _) (hq _ _ ⟨_, rfl, rfl, rfl⟩) e
/-! 33 PlayedTruth.place(III)I -/
noncomputable def R_33_26 (h : Hp) : Option (Int32 × Hp) := some (((-1)), h)
theorem r_33_26 {X : GX} {d : Nat} {r : Int32 × Hp} (hd : 3 ≤ d) (hq : RtX X (some (.int r.1)) r.2) {h : Hp} (e : R_33_26 h = some r) : G X d 33 26 [none, none, none, none] [] h := by
  unfold R_33_26 at e
  rw [← Option.some.inj e] at hq
  exact k_33_26 hq
noncomputable def R_33_54 (s0 : Int32) (h : Hp) : Option (Int32 × Hp) := some (s0, h)
theorem r_33_54 {X : GX} {d : Nat} {r : Int32 × Hp} (hd : 3 ≤ d) (hq : RtX X (some (.int r.1)) r.2) {h : Hp} {s0 : Int32} (e : R_33_54 s0 h = some r) : G X d 33 54 [none, none, none, none] [.int s0] h := by
  unfold R_33_54 at e
  rw [← Option.some.inj e] at hq
  exact k_33_54 hq
noncomputable def R_33_42 (v1 : Int32) (v3 : Int32) (h : Hp) : Option (Int32 × Hp) := bndI (S_29 6 v1 v3 h) (R_33_54)
theorem r_33_42 {X : GX} {d : Nat} {r : Int32 × Hp} (hd : 3 ≤ d) (hq : RtX X (some (.int r.1)) r.2) {h : Hp} {v1 : Int32} {v3 : Int32} (e : R_33_42 v1 v3 h = some r) : G X d 33 42 [some (.ref 0), some (.int v1), none, some (.int v3)] [] h := by
  unfold R_33_42 at e
  obtain ⟨x, h2, e1, e2⟩ := bndI_s e
  refine k_33_42 (by omega) (t_29 e1) ?_
  rintro _ _ ⟨rfl, rfl⟩
  exact r_33_54 hd hq e2
noncomputable def R_33_32 (v1 : Int32) (v3 : Int32) (h : Hp) : Option (Int32 × Hp) := bndI (S_29 5 v1 v3 h) (R_33_54)
theorem r_33_32 {X : GX} {d : Nat} {r : Int32 × Hp} (hd : 3 ≤ d) (hq : RtX X (some (.int r.1)) r.2) {h : Hp} {v1 : Int32} {v3 : Int32} (e : R_33_32 v1 v3 h = some r) : G X d 33 32 [some (.ref 0), some (.int v1), none, some (.int v3)] [] h := by
  unfold R_33_32 at e
  obtain ⟨x, h2, e1, e2⟩ := bndI_s e
  refine k_33_32 (by omega) (t_29 e1) ?_
  rintro _ _ ⟨rfl, rfl⟩
  exact r_33_54 hd hq e2
noncomputable def R_33_28 (v1 : Int32) (v2 : Int32) (v3 : Int32) (h : Hp) : Option (Int32 × Hp) := if v2 = 0 then R_33_32 v1 v3 h else R_33_42 v1 v3 h
theorem r_33_28 {X : GX} {d : Nat} {r : Int32 × Hp} (hd : 3 ≤ d) (hq : RtX X (some (.int r.1)) r.2) {h : Hp} {v1 : Int32} {v2 : Int32} {v3 : Int32} (e : R_33_28 v1 v2 v3 h = some r) : G X d 33 28 [some (.ref 0), some (.int v1), some (.int v2), some (.int v3)] [] h := by
  unfold R_33_28 at e
  refine k_33_28 (fun c => ?_) (fun c => ?_)
  · rw [if_neg c] at e; exact r_33_42 hd hq e
  · rw [if_pos c] at e; exact r_33_32 hd hq e
noncomputable def R_33_23 (v1 : Int32) (v2 : Int32) (v3 : Int32) (s0 : Int32) (h : Hp) : Option (Int32 × Hp) := if s0 = 0 then R_33_26 h else R_33_28 v1 v2 v3 h
theorem r_33_23 {X : GX} {d : Nat} {r : Int32 × Hp} (hd : 3 ≤ d) (hq : RtX X (some (.int r.1)) r.2) {h : Hp} {v1 : Int32} {v2 : Int32} {v3 : Int32} {s0 : Int32} (e : R_33_23 v1 v2 v3 s0 h = some r) : G X d 33 23 [some (.ref 0), some (.int v1), some (.int v2), some (.int v3)] [.int s0] h := by
  unfold R_33_23 at e
  refine k_33_23 (fun c => ?_) (fun c => ?_)
  · rw [if_neg c] at e; exact r_33_28 hd hq e
  · rw [if_pos c] at e; exact r_33_26 hd hq e
noncomputable def R_33_16 (v1 : Int32) (v2 : Int32) (v3 : Int32) (h : Hp) : Option (Int32 × Hp) := bndI (S_11 v3 0 9 h) (R_33_23 v1 v2 v3)
theorem r_33_16 {X : GX} {d : Nat} {r : Int32 × Hp} (hd : 3 ≤ d) (hq : RtX X (some (.int r.1)) r.2) {h : Hp} {v1 : Int32} {v2 : Int32} {v3 : Int32} (e : R_33_16 v1 v2 v3 h = some r) : G X d 33 16 [some (.ref 0), some (.int v1), some (.int v2), some (.int v3)] [] h := by
  unfold R_33_16 at e
  obtain ⟨x, h2, e1, e2⟩ := bndI_s e
  refine k_33_16 (by omega) (t_11 e1) ?_
  rintro _ _ ⟨rfl, rfl⟩
  exact r_33_23 hd hq e2
noncomputable def R_33_13 (v1 : Int32) (v2 : Int32) (v3 : Int32) (s0 : Int32) (h : Hp) : Option (Int32 × Hp) := if s0 = 0 then R_33_26 h else R_33_16 v1 v2 v3 h
theorem r_33_13 {X : GX} {d : Nat} {r : Int32 × Hp} (hd : 3 ≤ d) (hq : RtX X (some (.int r.1)) r.2) {h : Hp} {v1 : Int32} {v2 : Int32} {v3 : Int32} {s0 : Int32} (e : R_33_13 v1 v2 v3 s0 h = some r) : G X d 33 13 [some (.ref 0), some (.int v1), some (.int v2), some (.int v3)] [.int s0] h := by
  unfold R_33_13 at e
  refine k_33_13 (fun c => ?_) (fun c => ?_)
  · rw [if_pos c] at e; exact r_33_26 hd hq e
  · rw [if_neg c] at e; exact r_33_16 hd hq e
noncomputable def R_33_7 (v1 : Int32) (v2 : Int32) (v3 : Int32) (h : Hp) : Option (Int32 × Hp) := bndI (S_11 v2 0 1 h) (R_33_13 v1 v2 v3)
theorem r_33_7 {X : GX} {d : Nat} {r : Int32 × Hp} (hd : 3 ≤ d) (hq : RtX X (some (.int r.1)) r.2) {h : Hp} {v1 : Int32} {v2 : Int32} {v3 : Int32} (e : R_33_7 v1 v2 v3 h = some r) : G X d 33 7 [some (.ref 0), some (.int v1), some (.int v2), some (.int v3)] [] h := by
  unfold R_33_7 at e
  obtain ⟨x, h2, e1, e2⟩ := bndI_s e
  refine k_33_7 (by omega) (t_11 e1) ?_
  rintro _ _ ⟨rfl, rfl⟩
  exact r_33_13 hd hq e2
noncomputable def R_33_4 (v1 : Int32) (v2 : Int32) (v3 : Int32) (s0 : Int32) (h : Hp) : Option (Int32 × Hp) := if s0 = 0 then R_33_26 h else R_33_7 v1 v2 v3 h
theorem r_33_4 {X : GX} {d : Nat} {r : Int32 × Hp} (hd : 3 ≤ d) (hq : RtX X (some (.int r.1)) r.2) {h : Hp} {v1 : Int32} {v2 : Int32} {v3 : Int32} {s0 : Int32} (e : R_33_4 v1 v2 v3 s0 h = some r) : G X d 33 4 [some (.ref 0), some (.int v1), some (.int v2), some (.int v3)] [.int s0] h := by
  unfold R_33_4 at e
  refine k_33_4 (fun c => ?_) (fun c => ?_)
  · rw [if_pos c] at e; exact r_33_26 hd hq e
  · rw [if_neg c] at e; exact r_33_7 hd hq e
noncomputable def R_33_0 (v1 : Int32) (v2 : Int32) (v3 : Int32) (h : Hp) : Option (Int32 × Hp) := bndI (S_12 v1 h) (R_33_4 v1 v2 v3)
theorem r_33_0 {X : GX} {d : Nat} {r : Int32 × Hp} (hd : 3 ≤ d) (hq : RtX X (some (.int r.1)) r.2) {h : Hp} {v1 : Int32} {v2 : Int32} {v3 : Int32} (e : R_33_0 v1 v2 v3 h = some r) : G X d 33 0 [some (.ref 0), some (.int v1), some (.int v2), some (.int v3)] [] h := by
  unfold R_33_0 at e
  obtain ⟨x, h2, e1, e2⟩ := bndI_s e
  refine k_33_0 (by omega) (t_12 e1) ?_
  rintro _ _ ⟨rfl, rfl⟩
  exact r_33_4 hd hq e2
noncomputable def S_33 (v1 : Int32) (v2 : Int32) (v3 : Int32) (h : Hp) : Option (Int32 × Hp) := R_33_0 v1 v2 v3 h
set_option maxRecDepth 100000 in
theorem t_33 {v1 : Int32} {v2 : Int32} {v3 : Int32} {h : Hp} {r : Int32 × Hp} (e : S_33 v1 v2 v3 h = some r) : CI 3 33 [.ref 0, .int v1, .int v2, .int v3] h (fun x g => x = r.1 ∧ g = r.2) := by
  refine C.of mo_33 (Nat.le_of_ble_eq_true rfl) (fun X hq => ?_)
  exact r_33_0 (Nat.le_refl _) (hq _ _ ⟨_, rfl, rfl, rfl⟩) e
/-! 34 PlayedTruth.placeOf(II)I -/
noncomputable def R_34_16 (h : Hp) : Option (Int32 × Hp) := some (((-1)), h)
theorem r_34_16 {X : GX} {d : Nat} {r : Int32 × Hp} (hd : 3 ≤ d) (hq : RtX X (some (.int r.1)) r.2) {h : Hp} (e : R_34_16 h = some r) : G X d 34 16 [none, none, none] [] h := by
  unfold R_34_16 at e
  rw [← Option.some.inj e] at hq
  exact k_34_16 hq
noncomputable def R_34_34 (v1 : Int32) (h : Hp) : Option (Int32 × Hp) := gd (IA 6 v1) (some ((h 6 (Int32.toNatClampNeg v1)), h))
theorem r_34_34 {X : GX} {d : Nat} {r : Int32 × Hp} (hd : 3 ≤ d) (hq : RtX X (some (.int r.1)) r.2) {h : Hp} {v1 : Int32} (e : R_34_34 v1 h = some r) : G X d 34 34 [some (.ref 0), some (.int v1), none] [] h := by
  unfold R_34_34 at e
  have g := gd_s e; clear e; obtain ⟨b0, e⟩ := g
  rw [← Option.some.inj e] at hq
  exact k_34_34 b0 hq
noncomputable def R_34_22 (v1 : Int32) (h : Hp) : Option (Int32 × Hp) := gd (IA 5 v1) (some ((h 5 (Int32.toNatClampNeg v1)), h))
theorem r_34_22 {X : GX} {d : Nat} {r : Int32 × Hp} (hd : 3 ≤ d) (hq : RtX X (some (.int r.1)) r.2) {h : Hp} {v1 : Int32} (e : R_34_22 v1 h = some r) : G X d 34 22 [some (.ref 0), some (.int v1), none] [] h := by
  unfold R_34_22 at e
  have g := gd_s e; clear e; obtain ⟨b0, e⟩ := g
  rw [← Option.some.inj e] at hq
  exact k_34_22 b0 hq
noncomputable def R_34_18 (v1 : Int32) (v2 : Int32) (h : Hp) : Option (Int32 × Hp) := if v2 = 0 then R_34_22 v1 h else R_34_34 v1 h
theorem r_34_18 {X : GX} {d : Nat} {r : Int32 × Hp} (hd : 3 ≤ d) (hq : RtX X (some (.int r.1)) r.2) {h : Hp} {v1 : Int32} {v2 : Int32} (e : R_34_18 v1 v2 h = some r) : G X d 34 18 [some (.ref 0), some (.int v1), some (.int v2)] [] h := by
  unfold R_34_18 at e
  refine k_34_18 (fun c => ?_) (fun c => ?_)
  · rw [if_neg c] at e; exact r_34_34 hd hq e
  · rw [if_pos c] at e; exact r_34_22 hd hq e
noncomputable def R_34_13 (v1 : Int32) (v2 : Int32) (s0 : Int32) (h : Hp) : Option (Int32 × Hp) := if s0 = 0 then R_34_16 h else R_34_18 v1 v2 h
theorem r_34_13 {X : GX} {d : Nat} {r : Int32 × Hp} (hd : 3 ≤ d) (hq : RtX X (some (.int r.1)) r.2) {h : Hp} {v1 : Int32} {v2 : Int32} {s0 : Int32} (e : R_34_13 v1 v2 s0 h = some r) : G X d 34 13 [some (.ref 0), some (.int v1), some (.int v2)] [.int s0] h := by
  unfold R_34_13 at e
  refine k_34_13 (fun c => ?_) (fun c => ?_)
  · rw [if_neg c] at e; exact r_34_18 hd hq e
  · rw [if_pos c] at e; exact r_34_16 hd hq e
noncomputable def R_34_7 (v1 : Int32) (v2 : Int32) (h : Hp) : Option (Int32 × Hp) := bndI (S_11 v2 0 1 h) (R_34_13 v1 v2)
theorem r_34_7 {X : GX} {d : Nat} {r : Int32 × Hp} (hd : 3 ≤ d) (hq : RtX X (some (.int r.1)) r.2) {h : Hp} {v1 : Int32} {v2 : Int32} (e : R_34_7 v1 v2 h = some r) : G X d 34 7 [some (.ref 0), some (.int v1), some (.int v2)] [] h := by
  unfold R_34_7 at e
  obtain ⟨x, h2, e1, e2⟩ := bndI_s e
  refine k_34_7 (by omega) (t_11 e1) ?_
  rintro _ _ ⟨rfl, rfl⟩
  exact r_34_13 hd hq e2
noncomputable def R_34_4 (v1 : Int32) (v2 : Int32) (s0 : Int32) (h : Hp) : Option (Int32 × Hp) := if s0 = 0 then R_34_16 h else R_34_7 v1 v2 h
theorem r_34_4 {X : GX} {d : Nat} {r : Int32 × Hp} (hd : 3 ≤ d) (hq : RtX X (some (.int r.1)) r.2) {h : Hp} {v1 : Int32} {v2 : Int32} {s0 : Int32} (e : R_34_4 v1 v2 s0 h = some r) : G X d 34 4 [some (.ref 0), some (.int v1), some (.int v2)] [.int s0] h := by
  unfold R_34_4 at e
  refine k_34_4 (fun c => ?_) (fun c => ?_)
  · rw [if_pos c] at e; exact r_34_16 hd hq e
  · rw [if_neg c] at e; exact r_34_7 hd hq e
noncomputable def R_34_0 (v1 : Int32) (v2 : Int32) (h : Hp) : Option (Int32 × Hp) := bndI (S_12 v1 h) (R_34_4 v1 v2)
theorem r_34_0 {X : GX} {d : Nat} {r : Int32 × Hp} (hd : 3 ≤ d) (hq : RtX X (some (.int r.1)) r.2) {h : Hp} {v1 : Int32} {v2 : Int32} (e : R_34_0 v1 v2 h = some r) : G X d 34 0 [some (.ref 0), some (.int v1), some (.int v2)] [] h := by
  unfold R_34_0 at e
  obtain ⟨x, h2, e1, e2⟩ := bndI_s e
  refine k_34_0 (by omega) (t_12 e1) ?_
  rintro _ _ ⟨rfl, rfl⟩
  exact r_34_4 hd hq e2
noncomputable def S_34 (v1 : Int32) (v2 : Int32) (h : Hp) : Option (Int32 × Hp) := R_34_0 v1 v2 h
set_option maxRecDepth 100000 in
theorem t_34 {v1 : Int32} {v2 : Int32} {h : Hp} {r : Int32 × Hp} (e : S_34 v1 v2 h = some r) : CI 3 34 [.ref 0, .int v1, .int v2] h (fun x g => x = r.1 ∧ g = r.2) := by
  refine C.of mo_34 (Nat.le_of_ble_eq_true rfl) (fun X hq => ?_)
  exact r_34_0 (Nat.le_refl _) (hq _ _ ⟨_, rfl, rfl, rfl⟩) e
/-! 35 PlayedTruth.ends(I)I -/
noncomputable def R_35_26 (v1 : Int32) (h : Hp) : Option (Int32 × Hp) := some ((h 1 8), (wr h 1 8 v1))
theorem r_35_26 {X : GX} {d : Nat} {r : Int32 × Hp} (hd : 2 ≤ d) (hq : RtX X (some (.int r.1)) r.2) {h : Hp} {v1 : Int32} (e : R_35_26 v1 h = some r) : G X d 35 26 [some (.ref 0), some (.int v1), none] [] h := by
  unfold R_35_26 at e
  rw [← Option.some.inj e] at hq
  exact k_35_26 hq
noncomputable def R_35_23 (h : Hp) : Option (Int32 × Hp) := some (((-4)), h)
theorem r_35_23 {X : GX} {d : Nat} {r : Int32 × Hp} (hd : 2 ≤ d) (hq : RtX X (some (.int r.1)) r.2) {h : Hp} (e : R_35_23 h = some r) : G X d 35 23 [none, none, none] [] h := by
  unfold R_35_23 at e
  rw [← Option.some.inj e] at hq
  exact k_35_23 hq
noncomputable def R_35_12 (v1 : Int32) (h : Hp) : Option (Int32 × Hp) := if (h 13 3) ≤ v1 then R_35_26 v1 h else R_35_23 h
theorem r_35_12 {X : GX} {d : Nat} {r : Int32 × Hp} (hd : 2 ≤ d) (hq : RtX X (some (.int r.1)) r.2) {h : Hp} {v1 : Int32} (e : R_35_12 v1 h = some r) : G X d 35 12 [some (.ref 0), some (.int v1), none] [] h := by
  unfold R_35_12 at e
  refine k_35_12 (fun c => ?_) (fun c => ?_)
  · rw [if_pos c] at e; exact r_35_26 hd hq e
  · rw [if_neg c] at e; exact r_35_23 hd hq e
noncomputable def R_35_10 (h : Hp) : Option (Int32 × Hp) := some (((-1)), h)
theorem r_35_10 {X : GX} {d : Nat} {r : Int32 × Hp} (hd : 2 ≤ d) (hq : RtX X (some (.int r.1)) r.2) {h : Hp} (e : R_35_10 h = some r) : G X d 35 10 [none, none, none] [] h := by
  unfold R_35_10 at e
  rw [← Option.some.inj e] at hq
  exact k_35_10 hq
noncomputable def R_35_7 (v1 : Int32) (s0 : Int32) (h : Hp) : Option (Int32 × Hp) := if s0 = 0 then R_35_10 h else R_35_12 v1 h
theorem r_35_7 {X : GX} {d : Nat} {r : Int32 × Hp} (hd : 2 ≤ d) (hq : RtX X (some (.int r.1)) r.2) {h : Hp} {v1 : Int32} {s0 : Int32} (e : R_35_7 v1 s0 h = some r) : G X d 35 7 [some (.ref 0), some (.int v1), none] [.int s0] h := by
  unfold R_35_7 at e
  refine k_35_7 (fun c => ?_) (fun c => ?_)
  · rw [if_neg c] at e; exact r_35_12 hd hq e
  · rw [if_pos c] at e; exact r_35_10 hd hq e
noncomputable def R_35_0 (v1 : Int32) (h : Hp) : Option (Int32 × Hp) := bndI (S_11 v1 1 16 h) (R_35_7 v1)
theorem r_35_0 {X : GX} {d : Nat} {r : Int32 × Hp} (hd : 2 ≤ d) (hq : RtX X (some (.int r.1)) r.2) {h : Hp} {v1 : Int32} (e : R_35_0 v1 h = some r) : G X d 35 0 [some (.ref 0), some (.int v1), none] [] h := by
  unfold R_35_0 at e
  obtain ⟨x, h2, e1, e2⟩ := bndI_s e
  refine k_35_0 (by omega) (t_11 e1) ?_
  rintro _ _ ⟨rfl, rfl⟩
  exact r_35_7 hd hq e2
noncomputable def S_35 (v1 : Int32) (h : Hp) : Option (Int32 × Hp) := R_35_0 v1 h
set_option maxRecDepth 100000 in
theorem t_35 {v1 : Int32} {h : Hp} {r : Int32 × Hp} (e : S_35 v1 h = some r) : CI 2 35 [.ref 0, .int v1] h (fun x g => x = r.1 ∧ g = r.2) := by
  refine C.of mo_35 (Nat.le_of_ble_eq_true rfl) (fun X hq => ?_)
  exact r_35_0 (Nat.le_refl _) (hq _ _ ⟨_, rfl, rfl, rfl⟩) e
/-! 36 PlayedTruth.anew()I -/
noncomputable def R_36_0 (h : Hp) : Option (Int32 × Hp) := some ((h 13 3), (wr (wr (wr h 13 3 0) 13 4 0) 13 2 0))
theorem r_36_0 {X : GX} {d : Nat} {r : Int32 × Hp} (hd : 1 ≤ d) (hq : RtX X (some (.int r.1)) r.2) {h : Hp} (e : R_36_0 h = some r) : G X d 36 0 [some (.ref 0), none] [] h := by
  unfold R_36_0 at e
  rw [← Option.some.inj e] at hq
  exact k_36_0 hq
noncomputable def S_36 (h : Hp) : Option (Int32 × Hp) := R_36_0 h
set_option maxRecDepth 100000 in
theorem t_36 {h : Hp} {r : Int32 × Hp} (e : S_36 h = some r) : CI 1 36 [.ref 0] h (fun x g => x = r.1 ∧ g = r.2) := by
  refine C.of mo_36 (Nat.le_of_ble_eq_true rfl) (fun X hq => ?_)
  exact r_36_0 (Nat.le_refl _) (hq _ _ ⟨_, rfl, rfl, rfl⟩) e
/-! 38 PlayedTruth$Stage.isOver(LPlayedTruth$Moment;)Z -/
noncomputable def R_38_15 (h : Hp) : Option (Int32 × Hp) := some (0, h)
theorem r_38_15 {X : GX} {d : Nat} {r : Int32 × Hp} (hd : 1 ≤ d) (hq : RtX X (some (.int r.1)) r.2) {h : Hp} (e : R_38_15 h = some r) : G X d 38 15 [none, none] [] h := by
  unfold R_38_15 at e
  rw [← Option.some.inj e] at hq
  exact k_38_15 hq
noncomputable def R_38_11 (h : Hp) : Option (Int32 × Hp) := some (1, h)
theorem r_38_11 {X : GX} {d : Nat} {r : Int32 × Hp} (hd : 1 ≤ d) (hq : RtX X (some (.int r.1)) r.2) {h : Hp} (e : R_38_11 h = some r) : G X d 38 11 [none, none] [] h := by
  unfold R_38_11 at e
  rw [← Option.some.inj e] at hq
  exact k_38_11 hq
noncomputable def R_38_0 (v1 : Nat) (h : Hp) : Option (Int32 × Hp) := gd (sh v1 = (1, 3)) (if (h v1 3) < (h 1 8) then R_38_15 h else R_38_11 h)
theorem r_38_0 {X : GX} {d : Nat} {r : Int32 × Hp} (hd : 1 ≤ d) (hq : RtX X (some (.int r.1)) r.2) {h : Hp} {v1 : Nat} (e : R_38_0 v1 h = some r) : G X d 38 0 [some (.ref 1), some (.ref v1)] [] h := by
  unfold R_38_0 at e
  have g := gd_s e; clear e; obtain ⟨o0, e⟩ := g
  refine k_38_0 o0 (fun c => ?_) (fun c => ?_)
  · rw [if_pos c] at e; exact r_38_15 hd hq e
  · rw [if_neg c] at e; exact r_38_11 hd hq e
noncomputable def S_38 (v1 : Nat) (h : Hp) : Option (Int32 × Hp) := R_38_0 v1 h
set_option maxRecDepth 100000 in
theorem t_38 {v1 : Nat} {h : Hp} {r : Int32 × Hp} (e : S_38 v1 h = some r) : CI 1 38 [.ref 1, .ref v1] h (fun x g => x = r.1 ∧ g = r.2) := by
  refine C.of mo_38 (Nat.le_of_ble_eq_true rfl) (fun X hq => ?_)
  exact r_38_0 (Nat.le_refl _) (hq _ _ ⟨_, rfl, rfl, rfl⟩) e
/-! 39 PlayedTruth$Stage.houseOf(I)I -/
noncomputable def R_39_19 (h : Hp) : Option (Int32 × Hp) := some (0, h)
theorem r_39_19 {X : GX} {d : Nat} {r : Int32 × Hp} (hd : 1 ≤ d) (hq : RtX X (some (.int r.1)) r.2) {h : Hp} (e : R_39_19 h = some r) : G X d 39 19 [none, none] [] h := by
  unfold R_39_19 at e
  rw [← Option.some.inj e] at hq
  exact k_39_19 hq
noncomputable def R_39_10 (v1 : Int32) (h : Hp) : Option (Int32 × Hp) := gd (IA 4 v1) (some ((h 4 (Int32.toNatClampNeg v1)), h))
theorem r_39_10 {X : GX} {d : Nat} {r : Int32 × Hp} (hd : 1 ≤ d) (hq : RtX X (some (.int r.1)) r.2) {h : Hp} {v1 : Int32} (e : R_39_10 v1 h = some r) : G X d 39 10 [some (.ref 1), some (.int v1)] [] h := by
  unfold R_39_10 at e
  have g := gd_s e; clear e; obtain ⟨b0, e⟩ := g
  rw [← Option.some.inj e] at hq
  exact k_39_10 b0 hq
noncomputable def R_39_4 (v1 : Int32) (h : Hp) : Option (Int32 × Hp) := if 16 ≤ v1 then R_39_19 h else R_39_10 v1 h
theorem r_39_4 {X : GX} {d : Nat} {r : Int32 × Hp} (hd : 1 ≤ d) (hq : RtX X (some (.int r.1)) r.2) {h : Hp} {v1 : Int32} (e : R_39_4 v1 h = some r) : G X d 39 4 [some (.ref 1), some (.int v1)] [] h := by
  unfold R_39_4 at e
  refine k_39_4 (fun c => ?_) (fun c => ?_)
  · rw [if_pos c] at e; exact r_39_19 hd hq e
  · rw [if_neg c] at e; exact r_39_10 hd hq e
noncomputable def R_39_0 (v1 : Int32) (h : Hp) : Option (Int32 × Hp) := if v1 < 0 then R_39_19 h else R_39_4 v1 h
theorem r_39_0 {X : GX} {d : Nat} {r : Int32 × Hp} (hd : 1 ≤ d) (hq : RtX X (some (.int r.1)) r.2) {h : Hp} {v1 : Int32} (e : R_39_0 v1 h = some r) : G X d 39 0 [some (.ref 1), some (.int v1)] [] h := by
  unfold R_39_0 at e
  refine k_39_0 (fun c => ?_) (fun c => ?_)
  · rw [if_pos c] at e; exact r_39_19 hd hq e
  · rw [if_neg c] at e; exact r_39_4 hd hq e
noncomputable def S_39 (v1 : Int32) (h : Hp) : Option (Int32 × Hp) := R_39_0 v1 h
set_option maxRecDepth 100000 in
theorem t_39 {v1 : Int32} {h : Hp} {r : Int32 × Hp} (e : S_39 v1 h = some r) : CI 1 39 [.ref 1, .int v1] h (fun x g => x = r.1 ∧ g = r.2) := by
  refine C.of mo_39 (Nat.le_of_ble_eq_true rfl) (fun X hq => ?_)
  exact r_39_0 (Nat.le_refl _) (hq _ _ ⟨_, rfl, rfl, rfl⟩) e
/-! 40 PlayedTruth$Stage.truthOfAll(LPlayedTruth$Moment;)I -/
noncomputable def R_40_27 (v2 : Int32) (h : Hp) : Option (Int32 × Hp) := some (v2, h)
theorem r_40_27 {X : GX} {d : Nat} {r : Int32 × Hp} (hd : 1 ≤ d) (hq : RtX X (some (.int r.1)) r.2) {h : Hp} {v2 : Int32} (e : R_40_27 v2 h = some r) : G X d 40 27 [none, none, some (.int v2), none] [] h := by
  unfold R_40_27 at e
  rw [← Option.some.inj e] at hq
  exact k_40_27 hq
noncomputable def R_40_12 (rec_4 : Nat → Int32 → Int32 → Hp → Option (Int32 × Hp)) (v1 : Nat) (v2 : Int32) (v3 : Int32) (h : Hp) : Option (Int32 × Hp) := gd (sh v1 = (1, 3) ∧ IA (v1 + 1) v3) (rec_4 v1 (v2 + (h (v1 + 1) (Int32.toNatClampNeg v3))) (v3 + 1) h)
theorem r_40_12 {X : GX} {d : Nat} {r : Int32 × Hp} (hd : 1 ≤ d) (hq : RtX X (some (.int r.1)) r.2) {rec_4 : Nat → Int32 → Int32 → Hp → Option (Int32 × Hp)} (hr_4 : ∀ {v1 : Nat} {v2 : Int32} {v3 : Int32} {h : Hp}, rec_4 v1 v2 v3 h = some r → G X d 40 4 [some (.ref 1), some (.ref v1), some (.int v2), some (.int v3)] [] h) {h : Hp} {v1 : Nat} {v2 : Int32} {v3 : Int32} (e : R_40_12 rec_4 v1 v2 v3 h = some r) : G X d 40 12 [some (.ref 1), some (.ref v1), some (.int v2), some (.int v3)] [] h := by
  unfold R_40_12 at e
  have g := gd_s e; clear e; obtain ⟨⟨o0, b1⟩, e⟩ := g
  exact k_40_12 o0 b1 (hr_4 e)
noncomputable def R_40_4 (rec_4 : Nat → Int32 → Int32 → Hp → Option (Int32 × Hp)) (v1 : Nat) (v2 : Int32) (v3 : Int32) (h : Hp) : Option (Int32 × Hp) := if (h 1 7) ≤ v3 then R_40_27 v2 h else R_40_12 rec_4 v1 v2 v3 h
theorem r_40_4 {X : GX} {d : Nat} {r : Int32 × Hp} (hd : 1 ≤ d) (hq : RtX X (some (.int r.1)) r.2) {rec_4 : Nat → Int32 → Int32 → Hp → Option (Int32 × Hp)} (hr_4 : ∀ {v1 : Nat} {v2 : Int32} {v3 : Int32} {h : Hp}, rec_4 v1 v2 v3 h = some r → G X d 40 4 [some (.ref 1), some (.ref v1), some (.int v2), some (.int v3)] [] h) {h : Hp} {v1 : Nat} {v2 : Int32} {v3 : Int32} (e : R_40_4 rec_4 v1 v2 v3 h = some r) : G X d 40 4 [some (.ref 1), some (.ref v1), some (.int v2), some (.int v3)] [] h := by
  unfold R_40_4 at e
  refine k_40_4 (fun c => ?_) (fun c => ?_)
  · rw [if_pos c] at e; exact r_40_27 hd hq e
  · rw [if_neg c] at e; exact r_40_12 hd hq hr_4 e
noncomputable def H_40_4 : Nat → Nat → Int32 → Int32 → Hp → Option (Int32 × Hp)
  | 0, _, _, _, _ => none
  | n + 1, v1, v2, v3, h => R_40_4 (H_40_4 n) v1 v2 v3 h
theorem h_40_4 {X : GX} {d : Nat} {r : Int32 × Hp} (hd : 1 ≤ d) (hq : RtX X (some (.int r.1)) r.2) {n : Nat} {h : Hp} {v1 : Nat} {v2 : Int32} {v3 : Int32} (e : H_40_4 n v1 v2 v3 h = some r) : G X d 40 4 [some (.ref 1), some (.ref v1), some (.int v2), some (.int v3)] [] h := by
  induction n generalizing v1 v2 v3 h with
  | zero => cases e
  | succ n ih => exact r_40_4 hd hq (fun e => ih e) e
noncomputable def R_40_0 (v1 : Nat) (h : Hp) : Option (Int32 × Hp) := H_40_4 fuL v1 0 0 h
theorem r_40_0 {X : GX} {d : Nat} {r : Int32 × Hp} (hd : 1 ≤ d) (hq : RtX X (some (.int r.1)) r.2) {h : Hp} {v1 : Nat} (e : R_40_0 v1 h = some r) : G X d 40 0 [some (.ref 1), some (.ref v1), none, none] [] h := by
  unfold R_40_0 at e
  exact k_40_0 (h_40_4 hd hq e)
noncomputable def S_40 (v1 : Nat) (h : Hp) : Option (Int32 × Hp) := R_40_0 v1 h
set_option maxRecDepth 100000 in
theorem t_40 {v1 : Nat} {h : Hp} {r : Int32 × Hp} (e : S_40 v1 h = some r) : CI 1 40 [.ref 1, .ref v1] h (fun x g => x = r.1 ∧ g = r.2) := by
  refine C.of mo_40 (Nat.le_of_ble_eq_true rfl) (fun X hq => ?_)
  exact r_40_0 (Nat.le_refl _) (hq _ _ ⟨_, rfl, rfl, rfl⟩) e
/-! 37 PlayedTruth.state(I)I -/
noncomputable def R_37_44 (h : Hp) : Option (Int32 × Hp) := some ((h 13 3), h)
theorem r_37_44 {X : GX} {d : Nat} {r : Int32 × Hp} (hd : 2 ≤ d) (hq : RtX X (some (.int r.1)) r.2) {h : Hp} (e : R_37_44 h = some r) : G X d 37 44 [some (.ref 0), none] [] h := by
  unfold R_37_44 at e
  rw [← Option.some.inj e] at hq
  exact k_37_44 hq
noncomputable def R_37_52 (h : Hp) : Option (Int32 × Hp) := some ((h 1 8), h)
theorem r_37_52 {X : GX} {d : Nat} {r : Int32 × Hp} (hd : 2 ≤ d) (hq : RtX X (some (.int r.1)) r.2) {h : Hp} (e : R_37_52 h = some r) : G X d 37 52 [some (.ref 0), none] [] h := by
  unfold R_37_52 at e
  rw [← Option.some.inj e] at hq
  exact k_37_52 hq
noncomputable def R_37_60 (h : Hp) : Option (Int32 × Hp) := some ((h 13 4), h)
theorem r_37_60 {X : GX} {d : Nat} {r : Int32 × Hp} (hd : 2 ≤ d) (hq : RtX X (some (.int r.1)) r.2) {h : Hp} (e : R_37_60 h = some r) : G X d 37 60 [some (.ref 0), none] [] h := by
  unfold R_37_60 at e
  rw [← Option.some.inj e] at hq
  exact k_37_60 hq
noncomputable def R_37_86 (h : Hp) : Option (Int32 × Hp) := some (0, h)
theorem r_37_86 {X : GX} {d : Nat} {r : Int32 × Hp} (hd : 2 ≤ d) (hq : RtX X (some (.int r.1)) r.2) {h : Hp} (e : R_37_86 h = some r) : G X d 37 86 [none, none] [] h := by
  unfold R_37_86 at e
  rw [← Option.some.inj e] at hq
  exact k_37_86 hq
noncomputable def R_37_82 (h : Hp) : Option (Int32 × Hp) := some (1, h)
theorem r_37_82 {X : GX} {d : Nat} {r : Int32 × Hp} (hd : 2 ≤ d) (hq : RtX X (some (.int r.1)) r.2) {h : Hp} (e : R_37_82 h = some r) : G X d 37 82 [none, none] [] h := by
  unfold R_37_82 at e
  rw [← Option.some.inj e] at hq
  exact k_37_82 hq
noncomputable def R_37_79 (s0 : Int32) (h : Hp) : Option (Int32 × Hp) := if s0 = 0 then R_37_86 h else R_37_82 h
theorem r_37_79 {X : GX} {d : Nat} {r : Int32 × Hp} (hd : 2 ≤ d) (hq : RtX X (some (.int r.1)) r.2) {h : Hp} {s0 : Int32} (e : R_37_79 s0 h = some r) : G X d 37 79 [none, none] [.int s0] h := by
  unfold R_37_79 at e
  refine k_37_79 (fun c => ?_) (fun c => ?_)
  · rw [if_pos c] at e; exact r_37_86 hd hq e
  · rw [if_neg c] at e; exact r_37_82 hd hq e
noncomputable def R_37_68 (h : Hp) : Option (Int32 × Hp) := bndI (S_38 13 h) (R_37_79)
theorem r_37_68 {X : GX} {d : Nat} {r : Int32 × Hp} (hd : 2 ≤ d) (hq : RtX X (some (.int r.1)) r.2) {h : Hp} (e : R_37_68 h = some r) : G X d 37 68 [some (.ref 0), none] [] h := by
  unfold R_37_68 at e
  obtain ⟨x, h2, e1, e2⟩ := bndI_s e
  refine k_37_68 (by omega) (t_38 e1) ?_
  rintro _ _ ⟨rfl, rfl⟩
  exact r_37_79 hd hq e2
noncomputable def R_37_88 (h : Hp) : Option (Int32 × Hp) := some ((h 13 2), h)
theorem r_37_88 {X : GX} {d : Nat} {r : Int32 × Hp} (hd : 2 ≤ d) (hq : RtX X (some (.int r.1)) r.2) {h : Hp} (e : R_37_88 h = some r) : G X d 37 88 [some (.ref 0), none] [] h := by
  unfold R_37_88 at e
  rw [← Option.some.inj e] at hq
  exact k_37_88 hq
noncomputable def R_37_110 (s0 : Int32) (h : Hp) : Option (Int32 × Hp) := some (s0, h)
theorem r_37_110 {X : GX} {d : Nat} {r : Int32 × Hp} (hd : 2 ≤ d) (hq : RtX X (some (.int r.1)) r.2) {h : Hp} {s0 : Int32} (e : R_37_110 s0 h = some r) : G X d 37 110 [none, none] [.int s0] h := by
  unfold R_37_110 at e
  rw [← Option.some.inj e] at hq
  exact k_37_110 hq
noncomputable def R_37_96 (h : Hp) : Option (Int32 × Hp) := bndI (S_39 (h 13 3) h) (R_37_110)
theorem r_37_96 {X : GX} {d : Nat} {r : Int32 × Hp} (hd : 2 ≤ d) (hq : RtX X (some (.int r.1)) r.2) {h : Hp} (e : R_37_96 h = some r) : G X d 37 96 [some (.ref 0), none] [] h := by
  unfold R_37_96 at e
  obtain ⟨x, h2, e1, e2⟩ := bndI_s e
  refine k_37_96 (by omega) (t_39 e1) ?_
  rintro _ _ ⟨rfl, rfl⟩
  exact r_37_110 hd hq e2
noncomputable def R_37_122 (s0 : Int32) (h : Hp) : Option (Int32 × Hp) := some (s0, h)
theorem r_37_122 {X : GX} {d : Nat} {r : Int32 × Hp} (hd : 2 ≤ d) (hq : RtX X (some (.int r.1)) r.2) {h : Hp} {s0 : Int32} (e : R_37_122 s0 h = some r) : G X d 37 122 [none, none] [.int s0] h := by
  unfold R_37_122 at e
  rw [← Option.some.inj e] at hq
  exact k_37_122 hq
noncomputable def R_37_111 (h : Hp) : Option (Int32 × Hp) := bndI (S_40 13 h) (R_37_122)
theorem r_37_111 {X : GX} {d : Nat} {r : Int32 × Hp} (hd : 2 ≤ d) (hq : RtX X (some (.int r.1)) r.2) {h : Hp} (e : R_37_111 h = some r) : G X d 37 111 [some (.ref 0), none] [] h := by
  unfold R_37_111 at e
  obtain ⟨x, h2, e1, e2⟩ := bndI_s e
  refine k_37_111 (by omega) (t_40 e1) ?_
  rintro _ _ ⟨rfl, rfl⟩
  exact r_37_122 hd hq e2
noncomputable def R_37_123 (h : Hp) : Option (Int32 × Hp) := some (((-1)), h)
theorem r_37_123 {X : GX} {d : Nat} {r : Int32 × Hp} (hd : 2 ≤ d) (hq : RtX X (some (.int r.1)) r.2) {h : Hp} (e : R_37_123 h = some r) : G X d 37 123 [none, none] [] h := by
  unfold R_37_123 at e
  rw [← Option.some.inj e] at hq
  exact k_37_123 hq
noncomputable def R_37_0 (v1 : Int32) (h : Hp) : Option (Int32 × Hp) := if v1 = 0 then R_37_44 h else (if v1 = 1 then R_37_52 h else (if v1 = 2 then R_37_60 h else (if v1 = 3 then R_37_68 h else (if v1 = 4 then R_37_88 h else (if v1 = 5 then R_37_96 h else (if v1 = 6 then R_37_111 h else (R_37_123 h)))))))
theorem r_37_0 {X : GX} {d : Nat} {r : Int32 × Hp} (hd : 2 ≤ d) (hq : RtX X (some (.int r.1)) r.2) {h : Hp} {v1 : Int32} (e : R_37_0 v1 h = some r) : G X d 37 0 [some (.ref 0), some (.int v1)] [] h := by
  unfold R_37_0 at e
  refine k_37_0 (fun c => ?_) (fun c => ?_) (fun c => ?_) (fun c => ?_) (fun c => ?_) (fun c => ?_) (fun c => ?_) (fun c0 c1 c2 c3 c4 c5 c6 => ?_)
  · rw [if_pos c] at e; exact r_37_44 hd hq e
  · rw [if_neg (show ¬ v1 = 0 by rw [c]; decide), if_pos c] at e; exact r_37_52 hd hq e
  · rw [if_neg (show ¬ v1 = 0 by rw [c]; decide), if_neg (show ¬ v1 = 1 by rw [c]; decide), if_pos c] at e; exact r_37_60 hd hq e
  · rw [if_neg (show ¬ v1 = 0 by rw [c]; decide), if_neg (show ¬ v1 = 1 by rw [c]; decide), if_neg (show ¬ v1 = 2 by rw [c]; decide), if_pos c] at e; exact r_37_68 hd hq e
  · rw [if_neg (show ¬ v1 = 0 by rw [c]; decide), if_neg (show ¬ v1 = 1 by rw [c]; decide), if_neg (show ¬ v1 = 2 by rw [c]; decide), if_neg (show ¬ v1 = 3 by rw [c]; decide), if_pos c] at e; exact r_37_88 hd hq e
  · rw [if_neg (show ¬ v1 = 0 by rw [c]; decide), if_neg (show ¬ v1 = 1 by rw [c]; decide), if_neg (show ¬ v1 = 2 by rw [c]; decide), if_neg (show ¬ v1 = 3 by rw [c]; decide), if_neg (show ¬ v1 = 4 by rw [c]; decide), if_pos c] at e; exact r_37_96 hd hq e
  · rw [if_neg (show ¬ v1 = 0 by rw [c]; decide), if_neg (show ¬ v1 = 1 by rw [c]; decide), if_neg (show ¬ v1 = 2 by rw [c]; decide), if_neg (show ¬ v1 = 3 by rw [c]; decide), if_neg (show ¬ v1 = 4 by rw [c]; decide), if_neg (show ¬ v1 = 5 by rw [c]; decide), if_pos c] at e; exact r_37_111 hd hq e
  · rw [if_neg c0, if_neg c1, if_neg c2, if_neg c3, if_neg c4, if_neg c5, if_neg c6] at e; exact r_37_123 hd hq e
noncomputable def S_37 (v1 : Int32) (h : Hp) : Option (Int32 × Hp) := R_37_0 v1 h
set_option maxRecDepth 100000 in
theorem t_37 {v1 : Int32} {h : Hp} {r : Int32 × Hp} (e : S_37 v1 h = some r) : CI 2 37 [.ref 0, .int v1] h (fun x g => x = r.1 ∧ g = r.2) := by
  refine C.of mo_37 (Nat.le_of_ble_eq_true rfl) (fun X hq => ?_)
  exact r_37_0 (Nat.le_refl _) (hq _ _ ⟨_, rfl, rfl, rfl⟩) e
/-! 42 PlayedTruth$RuleReader.hasRoomFor(I)Z -/
noncomputable def R_42_16 (h : Hp) : Option (Int32 × Hp) := some (0, h)
theorem r_42_16 {X : GX} {d : Nat} {r : Int32 × Hp} (hd : 1 ≤ d) (hq : RtX X (some (.int r.1)) r.2) {h : Hp} (e : R_42_16 h = some r) : G X d 42 16 [none, none] [] h := by
  unfold R_42_16 at e
  rw [← Option.some.inj e] at hq
  exact k_42_16 hq
noncomputable def R_42_12 (h : Hp) : Option (Int32 × Hp) := some (1, h)
theorem r_42_12 {X : GX} {d : Nat} {r : Int32 × Hp} (hd : 1 ≤ d) (hq : RtX X (some (.int r.1)) r.2) {h : Hp} (e : R_42_12 h = some r) : G X d 42 12 [none, none] [] h := by
  unfold R_42_12 at e
  rw [← Option.some.inj e] at hq
  exact k_42_12 hq
noncomputable def R_42_0 (v1 : Int32) (h : Hp) : Option (Int32 × Hp) := if 200 < ((h 21 1) + v1) then R_42_16 h else R_42_12 h
theorem r_42_0 {X : GX} {d : Nat} {r : Int32 × Hp} (hd : 1 ≤ d) (hq : RtX X (some (.int r.1)) r.2) {h : Hp} {v1 : Int32} (e : R_42_0 v1 h = some r) : G X d 42 0 [some (.ref 21), some (.int v1)] [] h := by
  unfold R_42_0 at e
  refine k_42_0 (fun c => ?_) (fun c => ?_)
  · rw [if_pos c] at e; exact r_42_16 hd hq e
  · rw [if_neg c] at e; exact r_42_12 hd hq e
noncomputable def S_42 (v1 : Int32) (h : Hp) : Option (Int32 × Hp) := R_42_0 v1 h
set_option maxRecDepth 100000 in
theorem t_42 {v1 : Int32} {h : Hp} {r : Int32 × Hp} (e : S_42 v1 h = some r) : CI 1 42 [.ref 21, .int v1] h (fun x g => x = r.1 ∧ g = r.2) := by
  refine C.of mo_42 (Nat.le_of_ble_eq_true rfl) (fun X hq => ?_)
  exact r_42_0 (Nat.le_refl _) (hq _ _ ⟨_, rfl, rfl, rfl⟩) e
/-! 43 PlayedTruth$RuleReader.take(JI)V -/
noncomputable def R_43_53 (h : Hp) : Option (Int32 × Hp) := some (0, h)
theorem r_43_53 {X : GX} {d : Nat} {r : Int32 × Hp} (hd : 1 ≤ d) (hq : RtX X none r.2) {h : Hp} (e : R_43_53 h = some r) : G X d 43 53 [none, none, none, none, none] [] h := by
  unfold R_43_53 at e
  rw [← Option.some.inj e] at hq
  exact k_43_53 hq
noncomputable def R_43_19 (rec_3 : Int64 → Int32 → Int32 → Hp → Option (Int32 × Hp)) (v1 : Int64) (v3 : Int32) (v4 : Int32) (h : Hp) : Option (Int32 × Hp) := gd (IA 22 (h 21 1)) (rec_3 v1 v3 (v4 + 1) ((wr (wr h 21 1 ((h 21 1) + 1)) 22 (Int32.toNatClampNeg (h 21 1)) (Int64.toInt32 (((v1.toUInt64 >>> ((8 * v4 : Int32).toInt64.toUInt64 &&& Int64.toUInt64 63)).toInt64) &&& 255)))))
theorem r_43_19 {X : GX} {d : Nat} {r : Int32 × Hp} (hd : 1 ≤ d) (hq : RtX X none r.2) {rec_3 : Int64 → Int32 → Int32 → Hp → Option (Int32 × Hp)} (hr_3 : ∀ {v1 : Int64} {v3 : Int32} {v4 : Int32} {h : Hp}, rec_3 v1 v3 v4 h = some r → G X d 43 3 [some (.ref 21), some (.long v1), none, some (.int v3), some (.int v4)] [] h) {h : Hp} {v1 : Int64} {v3 : Int32} {v4 : Int32} (e : R_43_19 rec_3 v1 v3 v4 h = some r) : G X d 43 19 [some (.ref 21), some (.long v1), none, some (.int v3), some (.int v4)] [] h := by
  unfold R_43_19 at e
  have g := gd_s e; clear e; obtain ⟨b0, e⟩ := g
  exact k_43_19 b0 (hr_3 e)
noncomputable def R_43_9 (rec_3 : Int64 → Int32 → Int32 → Hp → Option (Int32 × Hp)) (v1 : Int64) (v3 : Int32) (v4 : Int32) (h : Hp) : Option (Int32 × Hp) := if 200 ≤ (h 21 1) then R_43_53 h else R_43_19 rec_3 v1 v3 v4 h
theorem r_43_9 {X : GX} {d : Nat} {r : Int32 × Hp} (hd : 1 ≤ d) (hq : RtX X none r.2) {rec_3 : Int64 → Int32 → Int32 → Hp → Option (Int32 × Hp)} (hr_3 : ∀ {v1 : Int64} {v3 : Int32} {v4 : Int32} {h : Hp}, rec_3 v1 v3 v4 h = some r → G X d 43 3 [some (.ref 21), some (.long v1), none, some (.int v3), some (.int v4)] [] h) {h : Hp} {v1 : Int64} {v3 : Int32} {v4 : Int32} (e : R_43_9 rec_3 v1 v3 v4 h = some r) : G X d 43 9 [some (.ref 21), some (.long v1), none, some (.int v3), some (.int v4)] [] h := by
  unfold R_43_9 at e
  refine k_43_9 (fun c => ?_) (fun c => ?_)
  · rw [if_pos c] at e; exact r_43_53 hd hq e
  · rw [if_neg c] at e; exact r_43_19 hd hq hr_3 e
noncomputable def R_43_3 (rec_3 : Int64 → Int32 → Int32 → Hp → Option (Int32 × Hp)) (v1 : Int64) (v3 : Int32) (v4 : Int32) (h : Hp) : Option (Int32 × Hp) := if v3 ≤ v4 then R_43_53 h else R_43_9 rec_3 v1 v3 v4 h
theorem r_43_3 {X : GX} {d : Nat} {r : Int32 × Hp} (hd : 1 ≤ d) (hq : RtX X none r.2) {rec_3 : Int64 → Int32 → Int32 → Hp → Option (Int32 × Hp)} (hr_3 : ∀ {v1 : Int64} {v3 : Int32} {v4 : Int32} {h : Hp}, rec_3 v1 v3 v4 h = some r → G X d 43 3 [some (.ref 21), some (.long v1), none, some (.int v3), some (.int v4)] [] h) {h : Hp} {v1 : Int64} {v3 : Int32} {v4 : Int32} (e : R_43_3 rec_3 v1 v3 v4 h = some r) : G X d 43 3 [some (.ref 21), some (.long v1), none, some (.int v3), some (.int v4)] [] h := by
  unfold R_43_3 at e
  refine k_43_3 (fun c => ?_) (fun c => ?_)
  · rw [if_pos c] at e; exact r_43_53 hd hq e
  · rw [if_neg c] at e; exact r_43_9 hd hq hr_3 e
noncomputable def H_43_3 : Nat → Int64 → Int32 → Int32 → Hp → Option (Int32 × Hp)
  | 0, _, _, _, _ => none
  | n + 1, v1, v3, v4, h => R_43_3 (H_43_3 n) v1 v3 v4 h
theorem h_43_3 {X : GX} {d : Nat} {r : Int32 × Hp} (hd : 1 ≤ d) (hq : RtX X none r.2) {n : Nat} {h : Hp} {v1 : Int64} {v3 : Int32} {v4 : Int32} (e : H_43_3 n v1 v3 v4 h = some r) : G X d 43 3 [some (.ref 21), some (.long v1), none, some (.int v3), some (.int v4)] [] h := by
  induction n generalizing v1 v3 v4 h with
  | zero => cases e
  | succ n ih => exact r_43_3 hd hq (fun e => ih e) e
noncomputable def R_43_0 (v1 : Int64) (v3 : Int32) (h : Hp) : Option (Int32 × Hp) := H_43_3 fuL v1 v3 0 h
theorem r_43_0 {X : GX} {d : Nat} {r : Int32 × Hp} (hd : 1 ≤ d) (hq : RtX X none r.2) {h : Hp} {v1 : Int64} {v3 : Int32} (e : R_43_0 v1 v3 h = some r) : G X d 43 0 [some (.ref 21), some (.long v1), none, some (.int v3), none] [] h := by
  unfold R_43_0 at e
  exact k_43_0 (h_43_3 hd hq e)
noncomputable def S_43 (v1 : Int64) (v3 : Int32) (h : Hp) : Option (Int32 × Hp) := R_43_0 v1 v3 h
set_option maxRecDepth 100000 in
theorem t_43 {v1 : Int64} {v3 : Int32} {h : Hp} {r : Int32 × Hp} (e : S_43 v1 v3 h = some r) : CV 1 43 [.ref 21, .long v1, .int v3] h (fun g => g = r.2) := by
  refine C.of mo_43 (Nat.le_of_ble_eq_true rfl) (fun X hq => ?_)
  exact r_43_0 (Nat.le_refl _) (hq _ _ ⟨rfl, rfl⟩) e
/-! 41 PlayedTruth.feed(JI)I -/
noncomputable def R_41_35 (h : Hp) : Option (Int32 × Hp) := some ((h 21 1), h)
theorem r_41_35 {X : GX} {d : Nat} {r : Int32 × Hp} (hd : 2 ≤ d) (hq : RtX X (some (.int r.1)) r.2) {h : Hp} (e : R_41_35 h = some r) : G X d 41 35 [some (.ref 0), none, none, none] [] h := by
  unfold R_41_35 at e
  rw [← Option.some.inj e] at hq
  exact k_41_35 hq
noncomputable def R_41_26 (v1 : Int64) (v3 : Int32) (h : Hp) : Option (Int32 × Hp) := bndV (S_43 v1 v3 h) (R_41_35)
theorem r_41_26 {X : GX} {d : Nat} {r : Int32 × Hp} (hd : 2 ≤ d) (hq : RtX X (some (.int r.1)) r.2) {h : Hp} {v1 : Int64} {v3 : Int32} (e : R_41_26 v1 v3 h = some r) : G X d 41 26 [some (.ref 0), some (.long v1), none, some (.int v3)] [] h := by
  unfold R_41_26 at e
  obtain ⟨x, h2, e1, e2⟩ := bndV_s e
  refine k_41_26 (by omega) (t_43 e1) ?_
  rintro _ rfl
  exact r_41_35 hd hq e2
noncomputable def R_41_23 (h : Hp) : Option (Int32 × Hp) := some (((-2)), h)
theorem r_41_23 {X : GX} {d : Nat} {r : Int32 × Hp} (hd : 2 ≤ d) (hq : RtX X (some (.int r.1)) r.2) {h : Hp} (e : R_41_23 h = some r) : G X d 41 23 [none, none, none, none] [] h := by
  unfold R_41_23 at e
  rw [← Option.some.inj e] at hq
  exact k_41_23 hq
noncomputable def R_41_20 (v1 : Int64) (v3 : Int32) (s0 : Int32) (h : Hp) : Option (Int32 × Hp) := if s0 = 0 then R_41_23 h else R_41_26 v1 v3 h
theorem r_41_20 {X : GX} {d : Nat} {r : Int32 × Hp} (hd : 2 ≤ d) (hq : RtX X (some (.int r.1)) r.2) {h : Hp} {v1 : Int64} {v3 : Int32} {s0 : Int32} (e : R_41_20 v1 v3 s0 h = some r) : G X d 41 20 [some (.ref 0), some (.long v1), none, some (.int v3)] [.int s0] h := by
  unfold R_41_20 at e
  refine k_41_20 (fun c => ?_) (fun c => ?_)
  · rw [if_neg c] at e; exact r_41_26 hd hq e
  · rw [if_pos c] at e; exact r_41_23 hd hq e
noncomputable def R_41_12 (v1 : Int64) (v3 : Int32) (h : Hp) : Option (Int32 × Hp) := bndI (S_42 v3 h) (R_41_20 v1 v3)
theorem r_41_12 {X : GX} {d : Nat} {r : Int32 × Hp} (hd : 2 ≤ d) (hq : RtX X (some (.int r.1)) r.2) {h : Hp} {v1 : Int64} {v3 : Int32} (e : R_41_12 v1 v3 h = some r) : G X d 41 12 [some (.ref 0), some (.long v1), none, some (.int v3)] [] h := by
  unfold R_41_12 at e
  obtain ⟨x, h2, e1, e2⟩ := bndI_s e
  refine k_41_12 (by omega) (t_42 e1) ?_
  rintro _ _ ⟨rfl, rfl⟩
  exact r_41_20 hd hq e2
noncomputable def R_41_10 (h : Hp) : Option (Int32 × Hp) := some (((-1)), h)
theorem r_41_10 {X : GX} {d : Nat} {r : Int32 × Hp} (hd : 2 ≤ d) (hq : RtX X (some (.int r.1)) r.2) {h : Hp} (e : R_41_10 h = some r) : G X d 41 10 [none, none, none, none] [] h := by
  unfold R_41_10 at e
  rw [← Option.some.inj e] at hq
  exact k_41_10 hq
noncomputable def R_41_7 (v1 : Int64) (v3 : Int32) (s0 : Int32) (h : Hp) : Option (Int32 × Hp) := if s0 = 0 then R_41_10 h else R_41_12 v1 v3 h
theorem r_41_7 {X : GX} {d : Nat} {r : Int32 × Hp} (hd : 2 ≤ d) (hq : RtX X (some (.int r.1)) r.2) {h : Hp} {v1 : Int64} {v3 : Int32} {s0 : Int32} (e : R_41_7 v1 v3 s0 h = some r) : G X d 41 7 [some (.ref 0), some (.long v1), none, some (.int v3)] [.int s0] h := by
  unfold R_41_7 at e
  refine k_41_7 (fun c => ?_) (fun c => ?_)
  · rw [if_neg c] at e; exact r_41_12 hd hq e
  · rw [if_pos c] at e; exact r_41_10 hd hq e
noncomputable def R_41_0 (v1 : Int64) (v3 : Int32) (h : Hp) : Option (Int32 × Hp) := bndI (S_11 v3 1 8 h) (R_41_7 v1 v3)
theorem r_41_0 {X : GX} {d : Nat} {r : Int32 × Hp} (hd : 2 ≤ d) (hq : RtX X (some (.int r.1)) r.2) {h : Hp} {v1 : Int64} {v3 : Int32} (e : R_41_0 v1 v3 h = some r) : G X d 41 0 [some (.ref 0), some (.long v1), none, some (.int v3)] [] h := by
  unfold R_41_0 at e
  obtain ⟨x, h2, e1, e2⟩ := bndI_s e
  refine k_41_0 (by omega) (t_11 e1) ?_
  rintro _ _ ⟨rfl, rfl⟩
  exact r_41_7 hd hq e2
noncomputable def S_41 (v1 : Int64) (v3 : Int32) (h : Hp) : Option (Int32 × Hp) := R_41_0 v1 v3 h
set_option maxRecDepth 100000 in
theorem t_41 {v1 : Int64} {v3 : Int32} {h : Hp} {r : Int32 × Hp} (e : S_41 v1 v3 h = some r) : CI 2 41 [.ref 0, .long v1, .int v3] h (fun x g => x = r.1 ∧ g = r.2) := by
  refine C.of mo_41 (Nat.le_of_ble_eq_true rfl) (fun X hq => ?_)
  exact r_41_0 (Nat.le_refl _) (hq _ _ ⟨_, rfl, rfl, rfl⟩) e
