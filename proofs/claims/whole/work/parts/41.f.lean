/-! part 41.f: by program (wip/whole/sem.py) -/
/-! 198 PlayedTruthModel.remake(II)I -/
noncomputable def R_198_34 (h : Hp) : Option (Int32 × Hp) := some (((-1)), h)
theorem r_198_34 {X : GX} {d : Nat} {r : Int32 × Hp} (hd : 3 ≤ d) (hq : RtX X (some (.int r.1)) r.2) {h : Hp} (e : R_198_34 h = some r) : G X d 198 34 [none, none, none] [] h := by
  unfold R_198_34 at e
  rw [← Option.some.inj e] at hq
  exact k_198_34 hq
noncomputable def R_198_31 (s0 : Int32) (h : Hp) : Option (Int32 × Hp) := some (s0, h)
theorem r_198_31 {X : GX} {d : Nat} {r : Int32 × Hp} (hd : 3 ≤ d) (hq : RtX X (some (.int r.1)) r.2) {h : Hp} {s0 : Int32} (e : R_198_31 s0 h = some r) : G X d 198 31 [none, none, none] [.int s0] h := by
  unfold R_198_31 at e
  rw [← Option.some.inj e] at hq
  exact k_198_31 hq
noncomputable def R_198_20 (v1 : Int32) (v2 : Int32) (h : Hp) : Option (Int32 × Hp) := bndI (S_197 (35 + (5 * v1)) v2 h) (R_198_31)
theorem r_198_20 {X : GX} {d : Nat} {r : Int32 × Hp} (hd : 3 ≤ d) (hq : RtX X (some (.int r.1)) r.2) {h : Hp} {v1 : Int32} {v2 : Int32} (e : R_198_20 v1 v2 h = some r) : G X d 198 20 [some (.ref 84), some (.int v1), some (.int v2)] [] h := by
  unfold R_198_20 at e
  obtain ⟨x, h2, e1, e2⟩ := bndI_s e
  refine k_198_20 (by omega) (t_197 e1) ?_
  rintro _ _ ⟨rfl, rfl⟩
  exact r_198_31 hd hq e2
noncomputable def R_198_17 (v1 : Int32) (v2 : Int32) (s0 : Int32) (h : Hp) : Option (Int32 × Hp) := if s0 = 0 then R_198_34 h else R_198_20 v1 v2 h
theorem r_198_17 {X : GX} {d : Nat} {r : Int32 × Hp} (hd : 3 ≤ d) (hq : RtX X (some (.int r.1)) r.2) {h : Hp} {v1 : Int32} {v2 : Int32} {s0 : Int32} (e : R_198_17 v1 v2 s0 h = some r) : G X d 198 17 [some (.ref 84), some (.int v1), some (.int v2)] [.int s0] h := by
  unfold R_198_17 at e
  refine k_198_17 (fun c => ?_) (fun c => ?_)
  · rw [if_pos c] at e; exact r_198_34 hd hq e
  · rw [if_neg c] at e; exact r_198_20 hd hq e
noncomputable def R_198_8 (v1 : Int32) (v2 : Int32) (h : Hp) : Option (Int32 × Hp) := bndI (S_177 (Int32.toInt64 v2) 1 5 h) (R_198_17 v1 v2)
theorem r_198_8 {X : GX} {d : Nat} {r : Int32 × Hp} (hd : 3 ≤ d) (hq : RtX X (some (.int r.1)) r.2) {h : Hp} {v1 : Int32} {v2 : Int32} (e : R_198_8 v1 v2 h = some r) : G X d 198 8 [some (.ref 84), some (.int v1), some (.int v2)] [] h := by
  unfold R_198_8 at e
  obtain ⟨x, h2, e1, e2⟩ := bndI_s e
  refine k_198_8 (by omega) (t_177 e1) ?_
  rintro _ _ ⟨rfl, rfl⟩
  exact r_198_17 hd hq e2
noncomputable def R_198_5 (v1 : Int32) (v2 : Int32) (s0 : Int32) (h : Hp) : Option (Int32 × Hp) := if s0 = 0 then R_198_34 h else R_198_8 v1 v2 h
theorem r_198_5 {X : GX} {d : Nat} {r : Int32 × Hp} (hd : 3 ≤ d) (hq : RtX X (some (.int r.1)) r.2) {h : Hp} {v1 : Int32} {v2 : Int32} {s0 : Int32} (e : R_198_5 v1 v2 s0 h = some r) : G X d 198 5 [some (.ref 84), some (.int v1), some (.int v2)] [.int s0] h := by
  unfold R_198_5 at e
  refine k_198_5 (fun c => ?_) (fun c => ?_)
  · rw [if_pos c] at e; exact r_198_34 hd hq e
  · rw [if_neg c] at e; exact r_198_8 hd hq e
noncomputable def R_198_0 (v1 : Int32) (v2 : Int32) (h : Hp) : Option (Int32 × Hp) := bndI (S_180 v1 h) (R_198_5 v1 v2)
theorem r_198_0 {X : GX} {d : Nat} {r : Int32 × Hp} (hd : 3 ≤ d) (hq : RtX X (some (.int r.1)) r.2) {h : Hp} {v1 : Int32} {v2 : Int32} (e : R_198_0 v1 v2 h = some r) : G X d 198 0 [some (.ref 84), some (.int v1), some (.int v2)] [] h := by
  unfold R_198_0 at e
  obtain ⟨x, h2, e1, e2⟩ := bndI_s e
  refine k_198_0 (by omega) (t_180 e1) ?_
  rintro _ _ ⟨rfl, rfl⟩
  exact r_198_5 hd hq e2
noncomputable def S_198 (v1 : Int32) (v2 : Int32) (h : Hp) : Option (Int32 × Hp) := R_198_0 v1 v2 h
set_option maxRecDepth 100000 in
theorem t_198 {v1 : Int32} {v2 : Int32} {h : Hp} {r : Int32 × Hp} (e : S_198 v1 v2 h = some r) : CI 3 198 [.ref 84, .int v1, .int v2] h (fun x g => x = r.1 ∧ g = r.2) := by
  refine C.of mo_198 (Nat.le_of_ble_eq_true rfl) (fun X hq => ?_)
  exact r_198_0 (Nat.le_refl _) (hq _ _ ⟨_, rfl, rfl, rfl⟩) e
/-! 199 PlayedTruthModel.house(II)I -/
noncomputable def R_199_36 (h : Hp) : Option (Int32 × Hp) := some (((-1)), h)
theorem r_199_36 {X : GX} {d : Nat} {r : Int32 × Hp} (hd : 2 ≤ d) (hq : RtX X (some (.int r.1)) r.2) {h : Hp} (e : R_199_36 h = some r) : G X d 199 36 [none, none, none] [] h := by
  unfold R_199_36 at e
  rw [← Option.some.inj e] at hq
  exact k_199_36 hq
noncomputable def R_199_33 (s0 : Int32) (h : Hp) : Option (Int32 × Hp) := some (s0, h)
theorem r_199_33 {X : GX} {d : Nat} {r : Int32 × Hp} (hd : 2 ≤ d) (hq : RtX X (some (.int r.1)) r.2) {h : Hp} {s0 : Int32} (e : R_199_33 s0 h = some r) : G X d 199 33 [none, none, none] [.int s0] h := by
  unfold R_199_33 at e
  rw [← Option.some.inj e] at hq
  exact k_199_33 hq
noncomputable def R_199_24 (v1 : Int32) (v2 : Int32) (h : Hp) : Option (Int32 × Hp) := bndI (S_197 (7 + v1) v2 h) (R_199_33)
theorem r_199_24 {X : GX} {d : Nat} {r : Int32 × Hp} (hd : 2 ≤ d) (hq : RtX X (some (.int r.1)) r.2) {h : Hp} {v1 : Int32} {v2 : Int32} (e : R_199_24 v1 v2 h = some r) : G X d 199 24 [some (.ref 84), some (.int v1), some (.int v2)] [] h := by
  unfold R_199_24 at e
  obtain ⟨x, h2, e1, e2⟩ := bndI_s e
  refine k_199_24 (by omega) (t_197 e1) ?_
  rintro _ _ ⟨rfl, rfl⟩
  exact r_199_33 hd hq e2
noncomputable def R_199_21 (v1 : Int32) (v2 : Int32) (s0 : Int32) (h : Hp) : Option (Int32 × Hp) := if s0 = 0 then R_199_36 h else R_199_24 v1 v2 h
theorem r_199_21 {X : GX} {d : Nat} {r : Int32 × Hp} (hd : 2 ≤ d) (hq : RtX X (some (.int r.1)) r.2) {h : Hp} {v1 : Int32} {v2 : Int32} {s0 : Int32} (e : R_199_21 v1 v2 s0 h = some r) : G X d 199 21 [some (.ref 84), some (.int v1), some (.int v2)] [.int s0] h := by
  unfold R_199_21 at e
  refine k_199_21 (fun c => ?_) (fun c => ?_)
  · rw [if_pos c] at e; exact r_199_36 hd hq e
  · rw [if_neg c] at e; exact r_199_24 hd hq e
noncomputable def R_199_12 (v1 : Int32) (v2 : Int32) (h : Hp) : Option (Int32 × Hp) := bndI (S_177 (Int32.toInt64 v2) 0 15 h) (R_199_21 v1 v2)
theorem r_199_12 {X : GX} {d : Nat} {r : Int32 × Hp} (hd : 2 ≤ d) (hq : RtX X (some (.int r.1)) r.2) {h : Hp} {v1 : Int32} {v2 : Int32} (e : R_199_12 v1 v2 h = some r) : G X d 199 12 [some (.ref 84), some (.int v1), some (.int v2)] [] h := by
  unfold R_199_12 at e
  obtain ⟨x, h2, e1, e2⟩ := bndI_s e
  refine k_199_12 (by omega) (t_177 e1) ?_
  rintro _ _ ⟨rfl, rfl⟩
  exact r_199_21 hd hq e2
noncomputable def R_199_9 (v1 : Int32) (v2 : Int32) (s0 : Int32) (h : Hp) : Option (Int32 × Hp) := if s0 = 0 then R_199_36 h else R_199_12 v1 v2 h
theorem r_199_9 {X : GX} {d : Nat} {r : Int32 × Hp} (hd : 2 ≤ d) (hq : RtX X (some (.int r.1)) r.2) {h : Hp} {v1 : Int32} {v2 : Int32} {s0 : Int32} (e : R_199_9 v1 v2 s0 h = some r) : G X d 199 9 [some (.ref 84), some (.int v1), some (.int v2)] [.int s0] h := by
  unfold R_199_9 at e
  refine k_199_9 (fun c => ?_) (fun c => ?_)
  · rw [if_pos c] at e; exact r_199_36 hd hq e
  · rw [if_neg c] at e; exact r_199_12 hd hq e
noncomputable def R_199_0 (v1 : Int32) (v2 : Int32) (h : Hp) : Option (Int32 × Hp) := bndI (S_177 (Int32.toInt64 v1) 0 15 h) (R_199_9 v1 v2)
theorem r_199_0 {X : GX} {d : Nat} {r : Int32 × Hp} (hd : 2 ≤ d) (hq : RtX X (some (.int r.1)) r.2) {h : Hp} {v1 : Int32} {v2 : Int32} (e : R_199_0 v1 v2 h = some r) : G X d 199 0 [some (.ref 84), some (.int v1), some (.int v2)] [] h := by
  unfold R_199_0 at e
  obtain ⟨x, h2, e1, e2⟩ := bndI_s e
  refine k_199_0 (by omega) (t_177 e1) ?_
  rintro _ _ ⟨rfl, rfl⟩
  exact r_199_9 hd hq e2
noncomputable def S_199 (v1 : Int32) (v2 : Int32) (h : Hp) : Option (Int32 × Hp) := R_199_0 v1 v2 h
set_option maxRecDepth 100000 in
theorem t_199 {v1 : Int32} {v2 : Int32} {h : Hp} {r : Int32 × Hp} (e : S_199 v1 v2 h = some r) : CI 2 199 [.ref 84, .int v1, .int v2] h (fun x g => x = r.1 ∧ g = r.2) := by
  refine C.of mo_199 (Nat.le_of_ble_eq_true rfl) (fun X hq => ?_)
  exact r_199_0 (Nat.le_refl _) (hq _ _ ⟨_, rfl, rfl, rfl⟩) e
/-! 200 PlayedTruthModel.place(III)I -/
noncomputable def R_200_51 (h : Hp) : Option (Int32 × Hp) := some (((-1)), h)
theorem r_200_51 {X : GX} {d : Nat} {r : Int32 × Hp} (hd : 2 ≤ d) (hq : RtX X (some (.int r.1)) r.2) {h : Hp} (e : R_200_51 h = some r) : G X d 200 51 [none, none, none, none] [] h := by
  unfold R_200_51 at e
  rw [← Option.some.inj e] at hq
  exact k_200_51 hq
noncomputable def R_200_48 (s0 : Int32) (h : Hp) : Option (Int32 × Hp) := some (s0, h)
theorem r_200_48 {X : GX} {d : Nat} {r : Int32 × Hp} (hd : 2 ≤ d) (hq : RtX X (some (.int r.1)) r.2) {h : Hp} {s0 : Int32} (e : R_200_48 s0 h = some r) : G X d 200 48 [none, none, none, none] [.int s0] h := by
  unfold R_200_48 at e
  rw [← Option.some.inj e] at hq
  exact k_200_48 hq
noncomputable def R_200_34 (v1 : Int32) (v2 : Int32) (v3 : Int32) (h : Hp) : Option (Int32 × Hp) := bndI (S_197 ((23 + (6 * v2)) + v1) v3 h) (R_200_48)
theorem r_200_34 {X : GX} {d : Nat} {r : Int32 × Hp} (hd : 2 ≤ d) (hq : RtX X (some (.int r.1)) r.2) {h : Hp} {v1 : Int32} {v2 : Int32} {v3 : Int32} (e : R_200_34 v1 v2 v3 h = some r) : G X d 200 34 [some (.ref 84), some (.int v1), some (.int v2), some (.int v3)] [] h := by
  unfold R_200_34 at e
  obtain ⟨x, h2, e1, e2⟩ := bndI_s e
  refine k_200_34 (by omega) (t_197 e1) ?_
  rintro _ _ ⟨rfl, rfl⟩
  exact r_200_48 hd hq e2
noncomputable def R_200_31 (v1 : Int32) (v2 : Int32) (v3 : Int32) (s0 : Int32) (h : Hp) : Option (Int32 × Hp) := if s0 = 0 then R_200_51 h else R_200_34 v1 v2 v3 h
theorem r_200_31 {X : GX} {d : Nat} {r : Int32 × Hp} (hd : 2 ≤ d) (hq : RtX X (some (.int r.1)) r.2) {h : Hp} {v1 : Int32} {v2 : Int32} {v3 : Int32} {s0 : Int32} (e : R_200_31 v1 v2 v3 s0 h = some r) : G X d 200 31 [some (.ref 84), some (.int v1), some (.int v2), some (.int v3)] [.int s0] h := by
  unfold R_200_31 at e
  refine k_200_31 (fun c => ?_) (fun c => ?_)
  · rw [if_pos c] at e; exact r_200_51 hd hq e
  · rw [if_neg c] at e; exact r_200_34 hd hq e
noncomputable def R_200_22 (v1 : Int32) (v2 : Int32) (v3 : Int32) (h : Hp) : Option (Int32 × Hp) := bndI (S_177 (Int32.toInt64 v3) 0 9 h) (R_200_31 v1 v2 v3)
theorem r_200_22 {X : GX} {d : Nat} {r : Int32 × Hp} (hd : 2 ≤ d) (hq : RtX X (some (.int r.1)) r.2) {h : Hp} {v1 : Int32} {v2 : Int32} {v3 : Int32} (e : R_200_22 v1 v2 v3 h = some r) : G X d 200 22 [some (.ref 84), some (.int v1), some (.int v2), some (.int v3)] [] h := by
  unfold R_200_22 at e
  obtain ⟨x, h2, e1, e2⟩ := bndI_s e
  refine k_200_22 (by omega) (t_177 e1) ?_
  rintro _ _ ⟨rfl, rfl⟩
  exact r_200_31 hd hq e2
noncomputable def R_200_19 (v1 : Int32) (v2 : Int32) (v3 : Int32) (s0 : Int32) (h : Hp) : Option (Int32 × Hp) := if s0 = 0 then R_200_51 h else R_200_22 v1 v2 v3 h
theorem r_200_19 {X : GX} {d : Nat} {r : Int32 × Hp} (hd : 2 ≤ d) (hq : RtX X (some (.int r.1)) r.2) {h : Hp} {v1 : Int32} {v2 : Int32} {v3 : Int32} {s0 : Int32} (e : R_200_19 v1 v2 v3 s0 h = some r) : G X d 200 19 [some (.ref 84), some (.int v1), some (.int v2), some (.int v3)] [.int s0] h := by
  unfold R_200_19 at e
  refine k_200_19 (fun c => ?_) (fun c => ?_)
  · rw [if_pos c] at e; exact r_200_51 hd hq e
  · rw [if_neg c] at e; exact r_200_22 hd hq e
noncomputable def R_200_12 (v1 : Int32) (v2 : Int32) (v3 : Int32) (h : Hp) : Option (Int32 × Hp) := bndI (S_177 (Int32.toInt64 v2) 0 1 h) (R_200_19 v1 v2 v3)
theorem r_200_12 {X : GX} {d : Nat} {r : Int32 × Hp} (hd : 2 ≤ d) (hq : RtX X (some (.int r.1)) r.2) {h : Hp} {v1 : Int32} {v2 : Int32} {v3 : Int32} (e : R_200_12 v1 v2 v3 h = some r) : G X d 200 12 [some (.ref 84), some (.int v1), some (.int v2), some (.int v3)] [] h := by
  unfold R_200_12 at e
  obtain ⟨x, h2, e1, e2⟩ := bndI_s e
  refine k_200_12 (by omega) (t_177 e1) ?_
  rintro _ _ ⟨rfl, rfl⟩
  exact r_200_19 hd hq e2
noncomputable def R_200_9 (v1 : Int32) (v2 : Int32) (v3 : Int32) (s0 : Int32) (h : Hp) : Option (Int32 × Hp) := if s0 = 0 then R_200_51 h else R_200_12 v1 v2 v3 h
theorem r_200_9 {X : GX} {d : Nat} {r : Int32 × Hp} (hd : 2 ≤ d) (hq : RtX X (some (.int r.1)) r.2) {h : Hp} {v1 : Int32} {v2 : Int32} {v3 : Int32} {s0 : Int32} (e : R_200_9 v1 v2 v3 s0 h = some r) : G X d 200 9 [some (.ref 84), some (.int v1), some (.int v2), some (.int v3)] [.int s0] h := by
  unfold R_200_9 at e
  refine k_200_9 (fun c => ?_) (fun c => ?_)
  · rw [if_pos c] at e; exact r_200_51 hd hq e
  · rw [if_neg c] at e; exact r_200_12 hd hq e
noncomputable def R_200_0 (v1 : Int32) (v2 : Int32) (v3 : Int32) (h : Hp) : Option (Int32 × Hp) := bndI (S_177 (Int32.toInt64 v1) 0 5 h) (R_200_9 v1 v2 v3)
theorem r_200_0 {X : GX} {d : Nat} {r : Int32 × Hp} (hd : 2 ≤ d) (hq : RtX X (some (.int r.1)) r.2) {h : Hp} {v1 : Int32} {v2 : Int32} {v3 : Int32} (e : R_200_0 v1 v2 v3 h = some r) : G X d 200 0 [some (.ref 84), some (.int v1), some (.int v2), some (.int v3)] [] h := by
  unfold R_200_0 at e
  obtain ⟨x, h2, e1, e2⟩ := bndI_s e
  refine k_200_0 (by omega) (t_177 e1) ?_
  rintro _ _ ⟨rfl, rfl⟩
  exact r_200_9 hd hq e2
noncomputable def S_200 (v1 : Int32) (v2 : Int32) (v3 : Int32) (h : Hp) : Option (Int32 × Hp) := R_200_0 v1 v2 v3 h
set_option maxRecDepth 100000 in
theorem t_200 {v1 : Int32} {v2 : Int32} {v3 : Int32} {h : Hp} {r : Int32 × Hp} (e : S_200 v1 v2 v3 h = some r) : CI 2 200 [.ref 84, .int v1, .int v2, .int v3] h (fun x g => x = r.1 ∧ g = r.2) := by
  refine C.of mo_200 (Nat.le_of_ble_eq_true rfl) (fun X hq => ?_)
  exact r_200_0 (Nat.le_refl _) (hq _ _ ⟨_, rfl, rfl, rfl⟩) e
/-! 201 PlayedTruthModel.placeOf(II)I -/
noncomputable def R_201_39 (h : Hp) : Option (Int32 × Hp) := some (((-1)), h)
theorem r_201_39 {X : GX} {d : Nat} {r : Int32 × Hp} (hd : 2 ≤ d) (hq : RtX X (some (.int r.1)) r.2) {h : Hp} (e : R_201_39 h = some r) : G X d 201 39 [none, none, none] [] h := by
  unfold R_201_39 at e
  rw [← Option.some.inj e] at hq
  exact k_201_39 hq
noncomputable def R_201_22 (v1 : Int32) (v2 : Int32) (h : Hp) : Option (Int32 × Hp) := gd (IA 85 ((23 + (6 * v2)) + v1)) (some ((h 85 (Int32.toNatClampNeg ((23 + (6 * v2)) + v1))), h))
theorem r_201_22 {X : GX} {d : Nat} {r : Int32 × Hp} (hd : 2 ≤ d) (hq : RtX X (some (.int r.1)) r.2) {h : Hp} {v1 : Int32} {v2 : Int32} (e : R_201_22 v1 v2 h = some r) : G X d 201 22 [some (.ref 84), some (.int v1), some (.int v2)] [] h := by
  unfold R_201_22 at e
  have g := gd_s e; clear e; obtain ⟨b0, e⟩ := g
  rw [← Option.some.inj e] at hq
  exact k_201_22 b0 hq
noncomputable def R_201_19 (v1 : Int32) (v2 : Int32) (s0 : Int32) (h : Hp) : Option (Int32 × Hp) := if s0 = 0 then R_201_39 h else R_201_22 v1 v2 h
theorem r_201_19 {X : GX} {d : Nat} {r : Int32 × Hp} (hd : 2 ≤ d) (hq : RtX X (some (.int r.1)) r.2) {h : Hp} {v1 : Int32} {v2 : Int32} {s0 : Int32} (e : R_201_19 v1 v2 s0 h = some r) : G X d 201 19 [some (.ref 84), some (.int v1), some (.int v2)] [.int s0] h := by
  unfold R_201_19 at e
  refine k_201_19 (fun c => ?_) (fun c => ?_)
  · rw [if_pos c] at e; exact r_201_39 hd hq e
  · rw [if_neg c] at e; exact r_201_22 hd hq e
noncomputable def R_201_12 (v1 : Int32) (v2 : Int32) (h : Hp) : Option (Int32 × Hp) := bndI (S_177 (Int32.toInt64 v2) 0 1 h) (R_201_19 v1 v2)
theorem r_201_12 {X : GX} {d : Nat} {r : Int32 × Hp} (hd : 2 ≤ d) (hq : RtX X (some (.int r.1)) r.2) {h : Hp} {v1 : Int32} {v2 : Int32} (e : R_201_12 v1 v2 h = some r) : G X d 201 12 [some (.ref 84), some (.int v1), some (.int v2)] [] h := by
  unfold R_201_12 at e
  obtain ⟨x, h2, e1, e2⟩ := bndI_s e
  refine k_201_12 (by omega) (t_177 e1) ?_
  rintro _ _ ⟨rfl, rfl⟩
  exact r_201_19 hd hq e2
noncomputable def R_201_9 (v1 : Int32) (v2 : Int32) (s0 : Int32) (h : Hp) : Option (Int32 × Hp) := if s0 = 0 then R_201_39 h else R_201_12 v1 v2 h
theorem r_201_9 {X : GX} {d : Nat} {r : Int32 × Hp} (hd : 2 ≤ d) (hq : RtX X (some (.int r.1)) r.2) {h : Hp} {v1 : Int32} {v2 : Int32} {s0 : Int32} (e : R_201_9 v1 v2 s0 h = some r) : G X d 201 9 [some (.ref 84), some (.int v1), some (.int v2)] [.int s0] h := by
  unfold R_201_9 at e
  refine k_201_9 (fun c => ?_) (fun c => ?_)
  · rw [if_pos c] at e; exact r_201_39 hd hq e
  · rw [if_neg c] at e; exact r_201_12 hd hq e
noncomputable def R_201_0 (v1 : Int32) (v2 : Int32) (h : Hp) : Option (Int32 × Hp) := bndI (S_177 (Int32.toInt64 v1) 0 5 h) (R_201_9 v1 v2)
theorem r_201_0 {X : GX} {d : Nat} {r : Int32 × Hp} (hd : 2 ≤ d) (hq : RtX X (some (.int r.1)) r.2) {h : Hp} {v1 : Int32} {v2 : Int32} (e : R_201_0 v1 v2 h = some r) : G X d 201 0 [some (.ref 84), some (.int v1), some (.int v2)] [] h := by
  unfold R_201_0 at e
  obtain ⟨x, h2, e1, e2⟩ := bndI_s e
  refine k_201_0 (by omega) (t_177 e1) ?_
  rintro _ _ ⟨rfl, rfl⟩
  exact r_201_9 hd hq e2
noncomputable def S_201 (v1 : Int32) (v2 : Int32) (h : Hp) : Option (Int32 × Hp) := R_201_0 v1 v2 h
set_option maxRecDepth 100000 in
theorem t_201 {v1 : Int32} {v2 : Int32} {h : Hp} {r : Int32 × Hp} (e : S_201 v1 v2 h = some r) : CI 2 201 [.ref 84, .int v1, .int v2] h (fun x g => x = r.1 ∧ g = r.2) := by
  refine C.of mo_201 (Nat.le_of_ble_eq_true rfl) (fun X hq => ?_)
  exact r_201_0 (Nat.le_refl _) (hq _ _ ⟨_, rfl, rfl, rfl⟩) e
/-! 202 PlayedTruthModel.ends(I)I -/
noncomputable def R_202_35 (s0 : Int32) (h : Hp) : Option (Int32 × Hp) := some (s0, h)
theorem r_202_35 {X : GX} {d : Nat} {r : Int32 × Hp} (hd : 2 ≤ d) (hq : RtX X (some (.int r.1)) r.2) {h : Hp} {s0 : Int32} (e : R_202_35 s0 h = some r) : G X d 202 35 [none, none] [.int s0] h := by
  unfold R_202_35 at e
  rw [← Option.some.inj e] at hq
  exact k_202_35 hq
noncomputable def R_202_29 (v1 : Int32) (h : Hp) : Option (Int32 × Hp) := bndI (S_197 2 v1 h) (R_202_35)
theorem r_202_29 {X : GX} {d : Nat} {r : Int32 × Hp} (hd : 2 ≤ d) (hq : RtX X (some (.int r.1)) r.2) {h : Hp} {v1 : Int32} (e : R_202_29 v1 h = some r) : G X d 202 29 [some (.ref 84), some (.int v1)] [] h := by
  unfold R_202_29 at e
  obtain ⟨x, h2, e1, e2⟩ := bndI_s e
  refine k_202_29 (by omega) (t_197 e1) ?_
  rintro _ _ ⟨rfl, rfl⟩
  exact r_202_35 hd hq e2
noncomputable def R_202_24 (h : Hp) : Option (Int32 × Hp) := some (((-4)), h)
theorem r_202_24 {X : GX} {d : Nat} {r : Int32 × Hp} (hd : 2 ≤ d) (hq : RtX X (some (.int r.1)) r.2) {h : Hp} (e : R_202_24 h = some r) : G X d 202 24 [none, none] [] h := by
  unfold R_202_24 at e
  rw [← Option.some.inj e] at hq
  exact k_202_24 hq
noncomputable def R_202_14 (v1 : Int32) (h : Hp) : Option (Int32 × Hp) := gd (IA 85 1) (if (h 85 (Int32.toNatClampNeg 1)) ≤ v1 then R_202_29 v1 h else R_202_24 h)
theorem r_202_14 {X : GX} {d : Nat} {r : Int32 × Hp} (hd : 2 ≤ d) (hq : RtX X (some (.int r.1)) r.2) {h : Hp} {v1 : Int32} (e : R_202_14 v1 h = some r) : G X d 202 14 [some (.ref 84), some (.int v1)] [] h := by
  unfold R_202_14 at e
  have g := gd_s e; clear e; obtain ⟨b0, e⟩ := g
  refine k_202_14 b0 (fun c => ?_) (fun c => ?_)
  · rw [if_pos c] at e; exact r_202_29 hd hq e
  · rw [if_neg c] at e; exact r_202_24 hd hq e
noncomputable def R_202_12 (h : Hp) : Option (Int32 × Hp) := some (((-1)), h)
theorem r_202_12 {X : GX} {d : Nat} {r : Int32 × Hp} (hd : 2 ≤ d) (hq : RtX X (some (.int r.1)) r.2) {h : Hp} (e : R_202_12 h = some r) : G X d 202 12 [none, none] [] h := by
  unfold R_202_12 at e
  rw [← Option.some.inj e] at hq
  exact k_202_12 hq
noncomputable def R_202_9 (v1 : Int32) (s0 : Int32) (h : Hp) : Option (Int32 × Hp) := if s0 = 0 then R_202_12 h else R_202_14 v1 h
theorem r_202_9 {X : GX} {d : Nat} {r : Int32 × Hp} (hd : 2 ≤ d) (hq : RtX X (some (.int r.1)) r.2) {h : Hp} {v1 : Int32} {s0 : Int32} (e : R_202_9 v1 s0 h = some r) : G X d 202 9 [some (.ref 84), some (.int v1)] [.int s0] h := by
  unfold R_202_9 at e
  refine k_202_9 (fun c => ?_) (fun c => ?_)
  · rw [if_neg c] at e; exact r_202_14 hd hq e
  · rw [if_pos c] at e; exact r_202_12 hd hq e
noncomputable def R_202_0 (v1 : Int32) (h : Hp) : Option (Int32 × Hp) := bndI (S_177 (Int32.toInt64 v1) 1 16 h) (R_202_9 v1)
theorem r_202_0 {X : GX} {d : Nat} {r : Int32 × Hp} (hd : 2 ≤ d) (hq : RtX X (some (.int r.1)) r.2) {h : Hp} {v1 : Int32} (e : R_202_0 v1 h = some r) : G X d 202 0 [some (.ref 84), some (.int v1)] [] h := by
  unfold R_202_0 at e
  obtain ⟨x, h2, e1, e2⟩ := bndI_s e
  refine k_202_0 (by omega) (t_177 e1) ?_
  rintro _ _ ⟨rfl, rfl⟩
  exact r_202_9 hd hq e2
noncomputable def S_202 (v1 : Int32) (h : Hp) : Option (Int32 × Hp) := R_202_0 v1 h
set_option maxRecDepth 100000 in
theorem t_202 {v1 : Int32} {h : Hp} {r : Int32 × Hp} (e : S_202 v1 h = some r) : CI 2 202 [.ref 84, .int v1] h (fun x g => x = r.1 ∧ g = r.2) := by
  refine C.of mo_202 (Nat.le_of_ble_eq_true rfl) (fun X hq => ?_)
  exact r_202_0 (Nat.le_refl _) (hq _ _ ⟨_, rfl, rfl, rfl⟩) e
/-! 203 PlayedTruthModel.anew()I -/
noncomputable def R_203_38 (s0 : Int32) (h : Hp) : Option (Int32 × Hp) := some (s0, h)
theorem r_203_38 {X : GX} {d : Nat} {r : Int32 × Hp} (hd : 2 ≤ d) (hq : RtX X (some (.int r.1)) r.2) {h : Hp} {s0 : Int32} (e : R_203_38 s0 h = some r) : G X d 203 38 [none, none] [.int s0] h := by
  unfold R_203_38 at e
  rw [← Option.some.inj e] at hq
  exact k_203_38 hq
noncomputable def R_203_32 (h : Hp) : Option (Int32 × Hp) := bndI (S_197 1 0 h) (R_203_38)
theorem r_203_32 {X : GX} {d : Nat} {r : Int32 × Hp} (hd : 2 ≤ d) (hq : RtX X (some (.int r.1)) r.2) {h : Hp} (e : R_203_32 h = some r) : G X d 203 32 [some (.ref 84), none] [] h := by
  unfold R_203_32 at e
  obtain ⟨x, h2, e1, e2⟩ := bndI_s e
  refine k_203_32 (by omega) (t_197 e1) ?_
  rintro _ _ ⟨rfl, rfl⟩
  exact r_203_38 hd hq e2
noncomputable def R_203_26 (rec_9 : Int32 → Hp → Option (Int32 × Hp)) (v1 : Int32) (h : Hp) : Option (Int32 × Hp) := rec_9 (v1 + 1) h
theorem r_203_26 {X : GX} {d : Nat} {r : Int32 × Hp} (hd : 2 ≤ d) (hq : RtX X (some (.int r.1)) r.2) {rec_9 : Int32 → Hp → Option (Int32 × Hp)} (hr_9 : ∀ {v1 : Int32} {h : Hp}, rec_9 v1 h = some r → G X d 203 9 [some (.ref 84), some (.int v1)] [] h) {h : Hp} {v1 : Int32} (e : R_203_26 rec_9 v1 h = some r) : G X d 203 26 [some (.ref 84), some (.int v1)] [] h := by
  unfold R_203_26 at e
  exact k_203_26 (hr_9 e)
noncomputable def R_203_19 (rec_9 : Int32 → Hp → Option (Int32 × Hp)) (v1 : Int32) (h : Hp) : Option (Int32 × Hp) := bndV (S_178 v1 4 0 h) (R_203_26 rec_9 v1)
theorem r_203_19 {X : GX} {d : Nat} {r : Int32 × Hp} (hd : 2 ≤ d) (hq : RtX X (some (.int r.1)) r.2) {rec_9 : Int32 → Hp → Option (Int32 × Hp)} (hr_9 : ∀ {v1 : Int32} {h : Hp}, rec_9 v1 h = some r → G X d 203 9 [some (.ref 84), some (.int v1)] [] h) {h : Hp} {v1 : Int32} (e : R_203_19 rec_9 v1 h = some r) : G X d 203 19 [some (.ref 84), some (.int v1)] [] h := by
  unfold R_203_19 at e
  obtain ⟨x, h2, e1, e2⟩ := bndV_s e
  refine k_203_19 (by omega) (t_178 e1) ?_
  rintro _ rfl
  exact r_203_26 hd hq hr_9 e2
noncomputable def R_203_9 (rec_9 : Int32 → Hp → Option (Int32 × Hp)) (v1 : Int32) (h : Hp) : Option (Int32 × Hp) := gd (IA 85 0) (if (h 85 (Int32.toNatClampNeg 0)) ≤ v1 then R_203_32 h else R_203_19 rec_9 v1 h)
theorem r_203_9 {X : GX} {d : Nat} {r : Int32 × Hp} (hd : 2 ≤ d) (hq : RtX X (some (.int r.1)) r.2) {rec_9 : Int32 → Hp → Option (Int32 × Hp)} (hr_9 : ∀ {v1 : Int32} {h : Hp}, rec_9 v1 h = some r → G X d 203 9 [some (.ref 84), some (.int v1)] [] h) {h : Hp} {v1 : Int32} (e : R_203_9 rec_9 v1 h = some r) : G X d 203 9 [some (.ref 84), some (.int v1)] [] h := by
  unfold R_203_9 at e
  have g := gd_s e; clear e; obtain ⟨b0, e⟩ := g
  refine k_203_9 b0 (fun c => ?_) (fun c => ?_)
  · rw [if_pos c] at e; exact r_203_32 hd hq e
  · rw [if_neg c] at e; exact r_203_19 hd hq hr_9 e
noncomputable def H_203_9 : Nat → Int32 → Hp → Option (Int32 × Hp)
  | 0, _, _ => none
  | n + 1, v1, h => R_203_9 (H_203_9 n) v1 h
theorem h_203_9 {X : GX} {d : Nat} {r : Int32 × Hp} (hd : 2 ≤ d) (hq : RtX X (some (.int r.1)) r.2) {n : Nat} {h : Hp} {v1 : Int32} (e : H_203_9 n v1 h = some r) : G X d 203 9 [some (.ref 84), some (.int v1)] [] h := by
  induction n generalizing v1 h with
  | zero => cases e
  | succ n ih => exact r_203_9 hd hq (fun e => ih e) e
noncomputable def R_203_0 (h : Hp) : Option (Int32 × Hp) := gd (IA 85 3) (H_203_9 fuL 0 ((wr h 85 (Int32.toNatClampNeg 3) 0)))
theorem r_203_0 {X : GX} {d : Nat} {r : Int32 × Hp} (hd : 2 ≤ d) (hq : RtX X (some (.int r.1)) r.2) {h : Hp} (e : R_203_0 h = some r) : G X d 203 0 [some (.ref 84), none] [] h := by
  unfold R_203_0 at e
  have g := gd_s e; clear e; obtain ⟨b0, e⟩ := g
  exact k_203_0 b0 (h_203_9 hd hq e)
noncomputable def S_203 (h : Hp) : Option (Int32 × Hp) := R_203_0 h
set_option maxRecDepth 100000 in
theorem t_203 {h : Hp} {r : Int32 × Hp} (e : S_203 h = some r) : CI 2 203 [.ref 84] h (fun x g => x = r.1 ∧ g = r.2) := by
  refine C.of mo_203 (Nat.le_of_ble_eq_true rfl) (fun X hq => ?_)
  exact r_203_0 (Nat.le_refl _) (hq _ _ ⟨_, rfl, rfl, rfl⟩) e
/-! 205 PlayedTruthModel.isOver()Z -/
noncomputable def R_205_19 (h : Hp) : Option (Int32 × Hp) := some (0, h)
theorem r_205_19 {X : GX} {d : Nat} {r : Int32 × Hp} (hd : 1 ≤ d) (hq : RtX X (some (.int r.1)) r.2) {h : Hp} (e : R_205_19 h = some r) : G X d 205 19 [none] [] h := by
  unfold R_205_19 at e
  rw [← Option.some.inj e] at hq
  exact k_205_19 hq
noncomputable def R_205_15 (h : Hp) : Option (Int32 × Hp) := some (1, h)
theorem r_205_15 {X : GX} {d : Nat} {r : Int32 × Hp} (hd : 1 ≤ d) (hq : RtX X (some (.int r.1)) r.2) {h : Hp} (e : R_205_15 h = some r) : G X d 205 15 [none] [] h := by
  unfold R_205_15 at e
  rw [← Option.some.inj e] at hq
  exact k_205_15 hq
noncomputable def R_205_0 (h : Hp) : Option (Int32 × Hp) := gd (IA 85 1 ∧ IA 85 2) (if (h 85 (Int32.toNatClampNeg 1)) < (h 85 (Int32.toNatClampNeg 2)) then R_205_19 h else R_205_15 h)
theorem r_205_0 {X : GX} {d : Nat} {r : Int32 × Hp} (hd : 1 ≤ d) (hq : RtX X (some (.int r.1)) r.2) {h : Hp} (e : R_205_0 h = some r) : G X d 205 0 [some (.ref 84)] [] h := by
  unfold R_205_0 at e
  have g := gd_s e; clear e; obtain ⟨⟨b0, b1⟩, e⟩ := g
  refine k_205_0 b0 b1 (fun c => ?_) (fun c => ?_)
  · rw [if_pos c] at e; exact r_205_19 hd hq e
  · rw [if_neg c] at e; exact r_205_15 hd hq e
noncomputable def S_205 (h : Hp) : Option (Int32 × Hp) := R_205_0 h
set_option maxRecDepth 100000 in
theorem t_205 {h : Hp} {r : Int32 × Hp} (e : S_205 h = some r) : CI 1 205 [.ref 84] h (fun x g => x = r.1 ∧ g = r.2) := by
  refine C.of mo_205 (Nat.le_of_ble_eq_true rfl) (fun X hq => ?_)
  exact r_205_0 (Nat.le_refl _) (hq _ _ ⟨_, rfl, rfl, rfl⟩) e
/-! 206 PlayedTruthModel.settled()I -/
noncomputable def R_206_31 (v1 : Int32) (h : Hp) : Option (Int32 × Hp) := some (v1, h)
theorem r_206_31 {X : GX} {d : Nat} {r : Int32 × Hp} (hd : 2 ≤ d) (hq : RtX X (some (.int r.1)) r.2) {h : Hp} {v1 : Int32} (e : R_206_31 v1 h = some r) : G X d 206 31 [none, some (.int v1), none] [] h := by
  unfold R_206_31 at e
  rw [← Option.some.inj e] at hq
  exact k_206_31 hq
noncomputable def R_206_21 (rec_4 : Int32 → Int32 → Hp → Option (Int32 × Hp)) (v2 : Int32) (s1 : Int32) (s0 : Int32) (h : Hp) : Option (Int32 × Hp) := rec_4 (s1 ||| (s0 <<< (v2 &&& 31))) (v2 + 1) h
theorem r_206_21 {X : GX} {d : Nat} {r : Int32 × Hp} (hd : 2 ≤ d) (hq : RtX X (some (.int r.1)) r.2) {rec_4 : Int32 → Int32 → Hp → Option (Int32 × Hp)} (hr_4 : ∀ {v1 : Int32} {v2 : Int32} {h : Hp}, rec_4 v1 v2 h = some r → G X d 206 4 [some (.ref 84), some (.int v1), some (.int v2)] [] h) {h : Hp} {v2 : Int32} {s1 : Int32} {s0 : Int32} (e : R_206_21 rec_4 v2 s1 s0 h = some r) : G X d 206 21 [some (.ref 84), none, some (.int v2)] [.int s0, .int s1] h := by
  unfold R_206_21 at e
  exact k_206_21 (hr_4 e)
noncomputable def R_206_14 (rec_4 : Int32 → Int32 → Hp → Option (Int32 × Hp)) (v1 : Int32) (v2 : Int32) (h : Hp) : Option (Int32 × Hp) := bndI (S_182 v2 4 h) (R_206_21 rec_4 v2 v1)
theorem r_206_14 {X : GX} {d : Nat} {r : Int32 × Hp} (hd : 2 ≤ d) (hq : RtX X (some (.int r.1)) r.2) {rec_4 : Int32 → Int32 → Hp → Option (Int32 × Hp)} (hr_4 : ∀ {v1 : Int32} {v2 : Int32} {h : Hp}, rec_4 v1 v2 h = some r → G X d 206 4 [some (.ref 84), some (.int v1), some (.int v2)] [] h) {h : Hp} {v1 : Int32} {v2 : Int32} (e : R_206_14 rec_4 v1 v2 h = some r) : G X d 206 14 [some (.ref 84), some (.int v1), some (.int v2)] [] h := by
  unfold R_206_14 at e
  obtain ⟨x, h2, e1, e2⟩ := bndI_s e
  refine k_206_14 (by omega) (t_182 e1) ?_
  rintro _ _ ⟨rfl, rfl⟩
  exact r_206_21 hd hq hr_4 e2
noncomputable def R_206_4 (rec_4 : Int32 → Int32 → Hp → Option (Int32 × Hp)) (v1 : Int32) (v2 : Int32) (h : Hp) : Option (Int32 × Hp) := gd (IA 85 0) (if (h 85 (Int32.toNatClampNeg 0)) ≤ v2 then R_206_31 v1 h else R_206_14 rec_4 v1 v2 h)
theorem r_206_4 {X : GX} {d : Nat} {r : Int32 × Hp} (hd : 2 ≤ d) (hq : RtX X (some (.int r.1)) r.2) {rec_4 : Int32 → Int32 → Hp → Option (Int32 × Hp)} (hr_4 : ∀ {v1 : Int32} {v2 : Int32} {h : Hp}, rec_4 v1 v2 h = some r → G X d 206 4 [some (.ref 84), some (.int v1), some (.int v2)] [] h) {h : Hp} {v1 : Int32} {v2 : Int32} (e : R_206_4 rec_4 v1 v2 h = some r) : G X d 206 4 [some (.ref 84), some (.int v1), some (.int v2)] [] h := by
  unfold R_206_4 at e
  have g := gd_s e; clear e; obtain ⟨b0, e⟩ := g
  refine k_206_4 b0 (fun c => ?_) (fun c => ?_)
  · rw [if_pos c] at e; exact r_206_31 hd hq e
  · rw [if_neg c] at e; exact r_206_14 hd hq hr_4 e
noncomputable def H_206_4 : Nat → Int32 → Int32 → Hp → Option (Int32 × Hp)
  | 0, _, _, _ => none
  | n + 1, v1, v2, h => R_206_4 (H_206_4 n) v1 v2 h
theorem h_206_4 {X : GX} {d : Nat} {r : Int32 × Hp} (hd : 2 ≤ d) (hq : RtX X (some (.int r.1)) r.2) {n : Nat} {h : Hp} {v1 : Int32} {v2 : Int32} (e : H_206_4 n v1 v2 h = some r) : G X d 206 4 [some (.ref 84), some (.int v1), some (.int v2)] [] h := by
  induction n generalizing v1 v2 h with
  | zero => cases e
  | succ n ih => exact r_206_4 hd hq (fun e => ih e) e
noncomputable def R_206_0 (h : Hp) : Option (Int32 × Hp) := H_206_4 fuL 0 0 h
theorem r_206_0 {X : GX} {d : Nat} {r : Int32 × Hp} (hd : 2 ≤ d) (hq : RtX X (some (.int r.1)) r.2) {h : Hp} (e : R_206_0 h = some r) : G X d 206 0 [some (.ref 84), none, none] [] h := by
  unfold R_206_0 at e
  exact k_206_0 (h_206_4 hd hq e)
noncomputable def S_206 (h : Hp) : Option (Int32 × Hp) := R_206_0 h
set_option maxRecDepth 100000 in
theorem t_206 {h : Hp} {r : Int32 × Hp} (e : S_206 h = some r) : CI 2 206 [.ref 84] h (fun x g => x = r.1 ∧ g = r.2) := by
  refine C.of mo_206 (Nat.le_of_ble_eq_true rfl) (fun X hq => ?_)
  exact r_206_0 (Nat.le_refl _) (hq _ _ ⟨_, rfl, rfl, rfl⟩) e
/-! 207 PlayedTruthModel.truthAll()I -/
noncomputable def R_207_29 (v1 : Int32) (h : Hp) : Option (Int32 × Hp) := some (v1, h)
theorem r_207_29 {X : GX} {d : Nat} {r : Int32 × Hp} (hd : 2 ≤ d) (hq : RtX X (some (.int r.1)) r.2) {h : Hp} {v1 : Int32} (e : R_207_29 v1 h = some r) : G X d 207 29 [none, some (.int v1), none] [] h := by
  unfold R_207_29 at e
  rw [← Option.some.inj e] at hq
  exact k_207_29 hq
noncomputable def R_207_21 (rec_4 : Int32 → Int32 → Hp → Option (Int32 × Hp)) (v2 : Int32) (s1 : Int32) (s0 : Int32) (h : Hp) : Option (Int32 × Hp) := rec_4 (s1 + s0) (v2 + 1) h
theorem r_207_21 {X : GX} {d : Nat} {r : Int32 × Hp} (hd : 2 ≤ d) (hq : RtX X (some (.int r.1)) r.2) {rec_4 : Int32 → Int32 → Hp → Option (Int32 × Hp)} (hr_4 : ∀ {v1 : Int32} {v2 : Int32} {h : Hp}, rec_4 v1 v2 h = some r → G X d 207 4 [some (.ref 84), some (.int v1), some (.int v2)] [] h) {h : Hp} {v2 : Int32} {s1 : Int32} {s0 : Int32} (e : R_207_21 rec_4 v2 s1 s0 h = some r) : G X d 207 21 [some (.ref 84), none, some (.int v2)] [.int s0, .int s1] h := by
  unfold R_207_21 at e
  exact k_207_21 (hr_4 e)
noncomputable def R_207_14 (rec_4 : Int32 → Int32 → Hp → Option (Int32 × Hp)) (v1 : Int32) (v2 : Int32) (h : Hp) : Option (Int32 × Hp) := bndI (S_182 v2 1 h) (R_207_21 rec_4 v2 v1)
theorem r_207_14 {X : GX} {d : Nat} {r : Int32 × Hp} (hd : 2 ≤ d) (hq : RtX X (some (.int r.1)) r.2) {rec_4 : Int32 → Int32 → Hp → Option (Int32 × Hp)} (hr_4 : ∀ {v1 : Int32} {v2 : Int32} {h : Hp}, rec_4 v1 v2 h = some r → G X d 207 4 [some (.ref 84), some (.int v1), some (.int v2)] [] h) {h : Hp} {v1 : Int32} {v2 : Int32} (e : R_207_14 rec_4 v1 v2 h = some r) : G X d 207 14 [some (.ref 84), some (.int v1), some (.int v2)] [] h := by
  unfold R_207_14 at e
  obtain ⟨x, h2, e1, e2⟩ := bndI_s e
  refine k_207_14 (by omega) (t_182 e1) ?_
  rintro _ _ ⟨rfl, rfl⟩
  exact r_207_21 hd hq hr_4 e2
noncomputable def R_207_4 (rec_4 : Int32 → Int32 → Hp → Option (Int32 × Hp)) (v1 : Int32) (v2 : Int32) (h : Hp) : Option (Int32 × Hp) := gd (IA 85 0) (if (h 85 (Int32.toNatClampNeg 0)) ≤ v2 then R_207_29 v1 h else R_207_14 rec_4 v1 v2 h)
theorem r_207_4 {X : GX} {d : Nat} {r : Int32 × Hp} (hd : 2 ≤ d) (hq : RtX X (some (.int r.1)) r.2) {rec_4 : Int32 → Int32 → Hp → Option (Int32 × Hp)} (hr_4 : ∀ {v1 : Int32} {v2 : Int32} {h : Hp}, rec_4 v1 v2 h = some r → G X d 207 4 [some (.ref 84), some (.int v1), some (.int v2)] [] h) {h : Hp} {v1 : Int32} {v2 : Int32} (e : R_207_4 rec_4 v1 v2 h = some r) : G X d 207 4 [some (.ref 84), some (.int v1), some (.int v2)] [] h := by
  unfold R_207_4 at e
  have g := gd_s e; clear e; obtain ⟨b0, e⟩ := g
  refine k_207_4 b0 (fun c => ?_) (fun c => ?_)
  · rw [if_pos c] at e; exact r_207_29 hd hq e
  · rw [if_neg c] at e; exact r_207_14 hd hq hr_4 e
noncomputable def H_207_4 : Nat → Int32 → Int32 → Hp → Option (Int32 × Hp)
  | 0, _, _, _ => none
  | n + 1, v1, v2, h => R_207_4 (H_207_4 n) v1 v2 h
theorem h_207_4 {X : GX} {d : Nat} {r : Int32 × Hp} (hd : 2 ≤ d) (hq : RtX X (some (.int r.1)) r.2) {n : Nat} {h : Hp} {v1 : Int32} {v2 : Int32} (e : H_207_4 n v1 v2 h = some r) : G X d 207 4 [some (.ref 84), some (.int v1), some (.int v2)] [] h := by
  induction n generalizing v1 v2 h with
  | zero => cases e
  | succ n ih => exact r_207_4 hd hq (fun e => ih e) e
noncomputable def R_207_0 (h : Hp) : Option (Int32 × Hp) := H_207_4 fuL 0 0 h
theorem r_207_0 {X : GX} {d : Nat} {r : Int32 × Hp} (hd : 2 ≤ d) (hq : RtX X (some (.int r.1)) r.2) {h : Hp} (e : R_207_0 h = some r) : G X d 207 0 [some (.ref 84), none, none] [] h := by
  unfold R_207_0 at e
  exact k_207_0 (h_207_4 hd hq e)
noncomputable def S_207 (h : Hp) : Option (Int32 × Hp) := R_207_0 h
set_option maxRecDepth 100000 in
theorem t_207 {h : Hp} {r : Int32 × Hp} (e : S_207 h = some r) : CI 2 207 [.ref 84] h (fun x g => x = r.1 ∧ g = r.2) := by
  refine C.of mo_207 (Nat.le_of_ble_eq_true rfl) (fun X hq => ?_)
  exact r_207_0 (Nat.le_refl _) (hq _ _ ⟨_, rfl, rfl, rfl⟩) e
/-! 204 PlayedTruthModel.state(I)I -/
noncomputable def R_204_44 (h : Hp) : Option (Int32 × Hp) := gd (IA 85 1) (some ((h 85 (Int32.toNatClampNeg 1)), h))
theorem r_204_44 {X : GX} {d : Nat} {r : Int32 × Hp} (hd : 3 ≤ d) (hq : RtX X (some (.int r.1)) r.2) {h : Hp} (e : R_204_44 h = some r) : G X d 204 44 [some (.ref 84), none] [] h := by
  unfold R_204_44 at e
  have g := gd_s e; clear e; obtain ⟨b0, e⟩ := g
  rw [← Option.some.inj e] at hq
  exact k_204_44 b0 hq
noncomputable def R_204_51 (h : Hp) : Option (Int32 × Hp) := gd (IA 85 2) (some ((h 85 (Int32.toNatClampNeg 2)), h))
theorem r_204_51 {X : GX} {d : Nat} {r : Int32 × Hp} (hd : 3 ≤ d) (hq : RtX X (some (.int r.1)) r.2) {h : Hp} (e : R_204_51 h = some r) : G X d 204 51 [some (.ref 84), none] [] h := by
  unfold R_204_51 at e
  have g := gd_s e; clear e; obtain ⟨b0, e⟩ := g
  rw [← Option.some.inj e] at hq
  exact k_204_51 b0 hq
noncomputable def R_204_58 (h : Hp) : Option (Int32 × Hp) := gd (IA 85 3) (some ((h 85 (Int32.toNatClampNeg 3)), h))
theorem r_204_58 {X : GX} {d : Nat} {r : Int32 × Hp} (hd : 3 ≤ d) (hq : RtX X (some (.int r.1)) r.2) {h : Hp} (e : R_204_58 h = some r) : G X d 204 58 [some (.ref 84), none] [] h := by
  unfold R_204_58 at e
  have g := gd_s e; clear e; obtain ⟨b0, e⟩ := g
  rw [← Option.some.inj e] at hq
  exact k_204_58 b0 hq
noncomputable def R_204_76 (h : Hp) : Option (Int32 × Hp) := some (0, h)
theorem r_204_76 {X : GX} {d : Nat} {r : Int32 × Hp} (hd : 3 ≤ d) (hq : RtX X (some (.int r.1)) r.2) {h : Hp} (e : R_204_76 h = some r) : G X d 204 76 [none, none] [] h := by
  unfold R_204_76 at e
  rw [← Option.some.inj e] at hq
  exact k_204_76 hq
noncomputable def R_204_72 (h : Hp) : Option (Int32 × Hp) := some (1, h)
theorem r_204_72 {X : GX} {d : Nat} {r : Int32 × Hp} (hd : 3 ≤ d) (hq : RtX X (some (.int r.1)) r.2) {h : Hp} (e : R_204_72 h = some r) : G X d 204 72 [none, none] [] h := by
  unfold R_204_72 at e
  rw [← Option.some.inj e] at hq
  exact k_204_72 hq
noncomputable def R_204_69 (s0 : Int32) (h : Hp) : Option (Int32 × Hp) := if s0 = 0 then R_204_76 h else R_204_72 h
theorem r_204_69 {X : GX} {d : Nat} {r : Int32 × Hp} (hd : 3 ≤ d) (hq : RtX X (some (.int r.1)) r.2) {h : Hp} {s0 : Int32} (e : R_204_69 s0 h = some r) : G X d 204 69 [none, none] [.int s0] h := by
  unfold R_204_69 at e
  refine k_204_69 (fun c => ?_) (fun c => ?_)
  · rw [if_pos c] at e; exact r_204_76 hd hq e
  · rw [if_neg c] at e; exact r_204_72 hd hq e
noncomputable def R_204_65 (h : Hp) : Option (Int32 × Hp) := bndI (S_205 h) (R_204_69)
theorem r_204_65 {X : GX} {d : Nat} {r : Int32 × Hp} (hd : 3 ≤ d) (hq : RtX X (some (.int r.1)) r.2) {h : Hp} (e : R_204_65 h = some r) : G X d 204 65 [some (.ref 84), none] [] h := by
  unfold R_204_65 at e
  obtain ⟨x, h2, e1, e2⟩ := bndI_s e
  refine k_204_65 (by omega) (t_205 e1) ?_
  rintro _ _ ⟨rfl, rfl⟩
  exact r_204_69 hd hq e2
noncomputable def R_204_82 (s0 : Int32) (h : Hp) : Option (Int32 × Hp) := some (s0, h)
theorem r_204_82 {X : GX} {d : Nat} {r : Int32 × Hp} (hd : 3 ≤ d) (hq : RtX X (some (.int r.1)) r.2) {h : Hp} {s0 : Int32} (e : R_204_82 s0 h = some r) : G X d 204 82 [none, none] [.int s0] h := by
  unfold R_204_82 at e
  rw [← Option.some.inj e] at hq
  exact k_204_82 hq
noncomputable def R_204_78 (h : Hp) : Option (Int32 × Hp) := bndI (S_206 h) (R_204_82)
theorem r_204_78 {X : GX} {d : Nat} {r : Int32 × Hp} (hd : 3 ≤ d) (hq : RtX X (some (.int r.1)) r.2) {h : Hp} (e : R_204_78 h = some r) : G X d 204 78 [some (.ref 84), none] [] h := by
  unfold R_204_78 at e
  obtain ⟨x, h2, e1, e2⟩ := bndI_s e
  refine k_204_78 (by omega) (t_206 e1) ?_
  rintro _ _ ⟨rfl, rfl⟩
  exact r_204_82 hd hq e2
noncomputable def R_204_93 (s0 : Int32) (h : Hp) : Option (Int32 × Hp) := some (s0, h)
theorem r_204_93 {X : GX} {d : Nat} {r : Int32 × Hp} (hd : 3 ≤ d) (hq : RtX X (some (.int r.1)) r.2) {h : Hp} {s0 : Int32} (e : R_204_93 s0 h = some r) : G X d 204 93 [none, none] [.int s0] h := by
  unfold R_204_93 at e
  rw [← Option.some.inj e] at hq
  exact k_204_93 hq
noncomputable def R_204_83 (h : Hp) : Option (Int32 × Hp) := gd (IA 85 1) (bndI (S_184 (h 85 (Int32.toNatClampNeg 1)) h) (R_204_93))
theorem r_204_83 {X : GX} {d : Nat} {r : Int32 × Hp} (hd : 3 ≤ d) (hq : RtX X (some (.int r.1)) r.2) {h : Hp} (e : R_204_83 h = some r) : G X d 204 83 [some (.ref 84), none] [] h := by
  unfold R_204_83 at e
  have g := gd_s e; clear e; obtain ⟨b0, e⟩ := g
  obtain ⟨x, h2, e1, e2⟩ := bndI_s e
  refine k_204_83 b0 (by omega) (t_184 e1) ?_
  rintro _ _ ⟨rfl, rfl⟩
  exact r_204_93 hd hq e2
noncomputable def R_204_98 (s0 : Int32) (h : Hp) : Option (Int32 × Hp) := some (s0, h)
theorem r_204_98 {X : GX} {d : Nat} {r : Int32 × Hp} (hd : 3 ≤ d) (hq : RtX X (some (.int r.1)) r.2) {h : Hp} {s0 : Int32} (e : R_204_98 s0 h = some r) : G X d 204 98 [none, none] [.int s0] h := by
  unfold R_204_98 at e
  rw [← Option.some.inj e] at hq
  exact k_204_98 hq
noncomputable def R_204_94 (h : Hp) : Option (Int32 × Hp) := bndI (S_207 h) (R_204_98)
theorem r_204_94 {X : GX} {d : Nat} {r : Int32 × Hp} (hd : 3 ≤ d) (hq : RtX X (some (.int r.1)) r.2) {h : Hp} (e : R_204_94 h = some r) : G X d 204 94 [some (.ref 84), none] [] h := by
  unfold R_204_94 at e
  obtain ⟨x, h2, e1, e2⟩ := bndI_s e
  refine k_204_94 (by omega) (t_207 e1) ?_
  rintro _ _ ⟨rfl, rfl⟩
  exact r_204_98 hd hq e2
noncomputable def R_204_99 (h : Hp) : Option (Int32 × Hp) := some (((-1)), h)
theorem r_204_99 {X : GX} {d : Nat} {r : Int32 × Hp} (hd : 3 ≤ d) (hq : RtX X (some (.int r.1)) r.2) {h : Hp} (e : R_204_99 h = some r) : G X d 204 99 [none, none] [] h := by
  unfold R_204_99 at e
  rw [← Option.some.inj e] at hq
  exact k_204_99 hq
noncomputable def R_204_0 (v1 : Int32) (h : Hp) : Option (Int32 × Hp) := if v1 = 0 then R_204_44 h else (if v1 = 1 then R_204_51 h else (if v1 = 2 then R_204_58 h else (if v1 = 3 then R_204_65 h else (if v1 = 4 then R_204_78 h else (if v1 = 5 then R_204_83 h else (if v1 = 6 then R_204_94 h else (R_204_99 h)))))))
theorem r_204_0 {X : GX} {d : Nat} {r : Int32 × Hp} (hd : 3 ≤ d) (hq : RtX X (some (.int r.1)) r.2) {h : Hp} {v1 : Int32} (e : R_204_0 v1 h = some r) : G X d 204 0 [some (.ref 84), some (.int v1)] [] h := by
  unfold R_204_0 at e
  refine k_204_0 (fun c => ?_) (fun c => ?_) (fun c => ?_) (fun c => ?_) (fun c => ?_) (fun c => ?_) (fun c => ?_) (fun c0 c1 c2 c3 c4 c5 c6 => ?_)
  · rw [if_pos c] at e; exact r_204_44 hd hq e
  · rw [if_neg (show ¬ v1 = 0 by rw [c]; decide), if_pos c] at e; exact r_204_51 hd hq e
  · rw [if_neg (show ¬ v1 = 0 by rw [c]; decide), if_neg (show ¬ v1 = 1 by rw [c]; decide), if_pos c] at e; exact r_204_58 hd hq e
  · rw [if_neg (show ¬ v1 = 0 by rw [c]; decide), if_neg (show ¬ v1 = 1 by rw [c]; decide), if_neg (show ¬ v1 = 2 by rw [c]; decide), if_pos c] at e; exact r_204_65 hd hq e
  · rw [if_neg (show ¬ v1 = 0 by rw [c]; decide), if_neg (show ¬ v1 = 1 by rw [c]; decide), if_neg (show ¬ v1 = 2 by rw [c]; decide), if_neg (show ¬ v1 = 3 by rw [c]; decide), if_pos c] at e; exact r_204_78 hd hq e
  · rw [if_neg (show ¬ v1 = 0 by rw [c]; decide), if_neg (show ¬ v1 = 1 by rw [c]; decide), if_neg (show ¬ v1 = 2 by rw [c]; decide), if_neg (show ¬ v1 = 3 by rw [c]; decide), if_neg (show ¬ v1 = 4 by rw [c]; decide), if_pos c] at e; exact r_204_83 hd hq e
  · rw [if_neg (show ¬ v1 = 0 by rw [c]; decide), if_neg (show ¬ v1 = 1 by rw [c]; decide), if_neg (show ¬ v1 = 2 by rw [c]; decide), if_neg (show ¬ v1 = 3 by rw [c]; decide), if_neg (show ¬ v1 = 4 by rw [c]; decide), if_neg (show ¬ v1 = 5 by rw [c]; decide), if_pos c] at e; exact r_204_94 hd hq e
  · rw [if_neg c0, if_neg c1, if_neg c2, if_neg c3, if_neg c4, if_neg c5, if_neg c6] at e; exact r_204_99 hd hq e
noncomputable def S_204 (v1 : Int32) (h : Hp) : Option (Int32 × Hp) := R_204_0 v1 h
set_option maxRecDepth 100000 in
theorem t_204 {v1 : Int32} {h : Hp} {r : Int32 × Hp} (e : S_204 v1 h = some r) : CI 3 204 [.ref 84, .int v1] h (fun x g => x = r.1 ∧ g = r.2) := by
  refine C.of mo_204 (Nat.le_of_ble_eq_true rfl) (fun X hq => ?_)
  exact r_204_0 (Nat.le_refl _) (hq _ _ ⟨_, rfl, rfl, rfl⟩) e
/-! 208 PlayedTruthModel.feed(JI)I -/
noncomputable def R_208_75 (h : Hp) : Option (Int32 × Hp) := some ((h 84 7), h)
theorem r_208_75 {X : GX} {d : Nat} {r : Int32 × Hp} (hd : 2 ≤ d) (hq : RtX X (some (.int r.1)) r.2) {h : Hp} (e : R_208_75 h = some r) : G X d 208 75 [some (.ref 84), none, none, none, none] [] h := by
  unfold R_208_75 at e
  rw [← Option.some.inj e] at hq
  exact k_208_75 hq
noncomputable def R_208_38 (rec_32 : Int64 → Int32 → Int32 → Hp → Option (Int32 × Hp)) (v1 : Int64) (v3 : Int32) (v4 : Int32) (h : Hp) : Option (Int32 × Hp) := gd (IA 89 (h 84 7)) (rec_32 v1 v3 (v4 + 1) ((wr (wr h 89 (Int32.toNatClampNeg (h 84 7)) (Int64.toInt32 ((v1 >>> ((8 * v4 : Int32).toInt64 &&& 63)) &&& 255))) 84 7 (((wr h 89 (Int32.toNatClampNeg (h 84 7)) (Int64.toInt32 ((v1 >>> ((8 * v4 : Int32).toInt64 &&& 63)) &&& 255))) 84 7) + 1))))
theorem r_208_38 {X : GX} {d : Nat} {r : Int32 × Hp} (hd : 2 ≤ d) (hq : RtX X (some (.int r.1)) r.2) {rec_32 : Int64 → Int32 → Int32 → Hp → Option (Int32 × Hp)} (hr_32 : ∀ {v1 : Int64} {v3 : Int32} {v4 : Int32} {h : Hp}, rec_32 v1 v3 v4 h = some r → G X d 208 32 [some (.ref 84), some (.long v1), none, some (.int v3), some (.int v4)] [] h) {h : Hp} {v1 : Int64} {v3 : Int32} {v4 : Int32} (e : R_208_38 rec_32 v1 v3 v4 h = some r) : G X d 208 38 [some (.ref 84), some (.long v1), none, some (.int v3), some (.int v4)] [] h := by
  unfold R_208_38 at e
  have g := gd_s e; clear e; obtain ⟨b0, e⟩ := g
  exact k_208_38 b0 (hr_32 e)
noncomputable def R_208_32 (rec_32 : Int64 → Int32 → Int32 → Hp → Option (Int32 × Hp)) (v1 : Int64) (v3 : Int32) (v4 : Int32) (h : Hp) : Option (Int32 × Hp) := if v3 ≤ v4 then R_208_75 h else R_208_38 rec_32 v1 v3 v4 h
theorem r_208_32 {X : GX} {d : Nat} {r : Int32 × Hp} (hd : 2 ≤ d) (hq : RtX X (some (.int r.1)) r.2) {rec_32 : Int64 → Int32 → Int32 → Hp → Option (Int32 × Hp)} (hr_32 : ∀ {v1 : Int64} {v3 : Int32} {v4 : Int32} {h : Hp}, rec_32 v1 v3 v4 h = some r → G X d 208 32 [some (.ref 84), some (.long v1), none, some (.int v3), some (.int v4)] [] h) {h : Hp} {v1 : Int64} {v3 : Int32} {v4 : Int32} (e : R_208_32 rec_32 v1 v3 v4 h = some r) : G X d 208 32 [some (.ref 84), some (.long v1), none, some (.int v3), some (.int v4)] [] h := by
  unfold R_208_32 at e
  refine k_208_32 (fun c => ?_) (fun c => ?_)
  · rw [if_pos c] at e; exact r_208_75 hd hq e
  · rw [if_neg c] at e; exact r_208_38 hd hq hr_32 e
noncomputable def H_208_32 : Nat → Int64 → Int32 → Int32 → Hp → Option (Int32 × Hp)
  | 0, _, _, _, _ => none
  | n + 1, v1, v3, v4, h => R_208_32 (H_208_32 n) v1 v3 v4 h
theorem h_208_32 {X : GX} {d : Nat} {r : Int32 × Hp} (hd : 2 ≤ d) (hq : RtX X (some (.int r.1)) r.2) {n : Nat} {h : Hp} {v1 : Int64} {v3 : Int32} {v4 : Int32} (e : H_208_32 n v1 v3 v4 h = some r) : G X d 208 32 [some (.ref 84), some (.long v1), none, some (.int v3), some (.int v4)] [] h := by
  induction n generalizing v1 v3 v4 h with
  | zero => cases e
  | succ n ih => exact r_208_32 hd hq (fun e => ih e) e
noncomputable def R_208_29 (v1 : Int64) (v3 : Int32) (h : Hp) : Option (Int32 × Hp) := H_208_32 fuL v1 v3 0 h
theorem r_208_29 {X : GX} {d : Nat} {r : Int32 × Hp} (hd : 2 ≤ d) (hq : RtX X (some (.int r.1)) r.2) {h : Hp} {v1 : Int64} {v3 : Int32} (e : R_208_29 v1 v3 h = some r) : G X d 208 29 [some (.ref 84), some (.long v1), none, some (.int v3), none] [] h := by
  unfold R_208_29 at e
  exact k_208_29 (h_208_32 hd hq e)
noncomputable def R_208_26 (h : Hp) : Option (Int32 × Hp) := some (((-2)), h)
theorem r_208_26 {X : GX} {d : Nat} {r : Int32 × Hp} (hd : 2 ≤ d) (hq : RtX X (some (.int r.1)) r.2) {h : Hp} (e : R_208_26 h = some r) : G X d 208 26 [none, none, none, none, none] [] h := by
  unfold R_208_26 at e
  rw [← Option.some.inj e] at hq
  exact k_208_26 hq
noncomputable def R_208_14 (v1 : Int64) (v3 : Int32) (h : Hp) : Option (Int32 × Hp) := if ((h 84 7) + v3) ≤ 200 then R_208_29 v1 v3 h else R_208_26 h
theorem r_208_14 {X : GX} {d : Nat} {r : Int32 × Hp} (hd : 2 ≤ d) (hq : RtX X (some (.int r.1)) r.2) {h : Hp} {v1 : Int64} {v3 : Int32} (e : R_208_14 v1 v3 h = some r) : G X d 208 14 [some (.ref 84), some (.long v1), none, some (.int v3), none] [] h := by
  unfold R_208_14 at e
  refine k_208_14 (fun c => ?_) (fun c => ?_)
  · rw [if_pos c] at e; exact r_208_29 hd hq e
  · rw [if_neg c] at e; exact r_208_26 hd hq e
noncomputable def R_208_12 (h : Hp) : Option (Int32 × Hp) := some (((-1)), h)
theorem r_208_12 {X : GX} {d : Nat} {r : Int32 × Hp} (hd : 2 ≤ d) (hq : RtX X (some (.int r.1)) r.2) {h : Hp} (e : R_208_12 h = some r) : G X d 208 12 [none, none, none, none, none] [] h := by
  unfold R_208_12 at e
  rw [← Option.some.inj e] at hq
  exact k_208_12 hq
noncomputable def R_208_9 (v1 : Int64) (v3 : Int32) (s0 : Int32) (h : Hp) : Option (Int32 × Hp) := if s0 = 0 then R_208_12 h else R_208_14 v1 v3 h
theorem r_208_9 {X : GX} {d : Nat} {r : Int32 × Hp} (hd : 2 ≤ d) (hq : RtX X (some (.int r.1)) r.2) {h : Hp} {v1 : Int64} {v3 : Int32} {s0 : Int32} (e : R_208_9 v1 v3 s0 h = some r) : G X d 208 9 [some (.ref 84), some (.long v1), none, some (.int v3), none] [.int s0] h := by
  unfold R_208_9 at e
  refine k_208_9 (fun c => ?_) (fun c => ?_)
  · rw [if_neg c] at e; exact r_208_14 hd hq e
  · rw [if_pos c] at e; exact r_208_12 hd hq e
noncomputable def R_208_0 (v1 : Int64) (v3 : Int32) (h : Hp) : Option (Int32 × Hp) := bndI (S_177 (Int32.toInt64 v3) 1 8 h) (R_208_9 v1 v3)
theorem r_208_0 {X : GX} {d : Nat} {r : Int32 × Hp} (hd : 2 ≤ d) (hq : RtX X (some (.int r.1)) r.2) {h : Hp} {v1 : Int64} {v3 : Int32} (e : R_208_0 v1 v3 h = some r) : G X d 208 0 [some (.ref 84), some (.long v1), none, some (.int v3), none] [] h := by
  unfold R_208_0 at e
  obtain ⟨x, h2, e1, e2⟩ := bndI_s e
  refine k_208_0 (by omega) (t_177 e1) ?_
  rintro _ _ ⟨rfl, rfl⟩
  exact r_208_9 hd hq e2
noncomputable def S_208 (v1 : Int64) (v3 : Int32) (h : Hp) : Option (Int32 × Hp) := R_208_0 v1 v3 h
set_option maxRecDepth 100000 in
theorem t_208 {v1 : Int64} {v3 : Int32} {h : Hp} {r : Int32 × Hp} (e : S_208 v1 v3 h = some r) : CI 2 208 [.ref 84, .long v1, .int v3] h (fun x g => x = r.1 ∧ g = r.2) := by
  refine C.of mo_208 (Nat.le_of_ble_eq_true rfl) (fun X hq => ?_)
  exact r_208_0 (Nat.le_refl _) (hq _ _ ⟨_, rfl, rfl, rfl⟩) e
/-! 211 PlayedTruthModel.isRow(CC)Z -/
noncomputable def R_211_35 (h : Hp) : Option (Int32 × Hp) := some (0, h)
theorem r_211_35 {X : GX} {d : Nat} {r : Int32 × Hp} (hd : 2 ≤ d) (hq : RtX X (some (.int r.1)) r.2) {h : Hp} (e : R_211_35 h = some r) : G X d 211 35 [none, none, none] [] h := by
  unfold R_211_35 at e
  rw [← Option.some.inj e] at hq
  exact k_211_35 hq
noncomputable def R_211_31 (h : Hp) : Option (Int32 × Hp) := some (1, h)
theorem r_211_31 {X : GX} {d : Nat} {r : Int32 × Hp} (hd : 2 ≤ d) (hq : RtX X (some (.int r.1)) r.2) {h : Hp} (e : R_211_31 h = some r) : G X d 211 31 [none, none, none] [] h := by
  unfold R_211_31 at e
  rw [← Option.some.inj e] at hq
  exact k_211_31 hq
noncomputable def R_211_28 (s0 : Int32) (h : Hp) : Option (Int32 × Hp) := if s0 = 0 then R_211_35 h else R_211_31 h
theorem r_211_28 {X : GX} {d : Nat} {r : Int32 × Hp} (hd : 2 ≤ d) (hq : RtX X (some (.int r.1)) r.2) {h : Hp} {s0 : Int32} (e : R_211_28 s0 h = some r) : G X d 211 28 [none, none, none] [.int s0] h := by
  unfold R_211_28 at e
  refine k_211_28 (fun c => ?_) (fun c => ?_)
  · rw [if_pos c] at e; exact r_211_35 hd hq e
  · rw [if_neg c] at e; exact r_211_31 hd hq e
noncomputable def R_211_11 (v1 : Int32) (v2 : Int32) (h : Hp) : Option (Int32 × Hp) := gd (IA 89 (h 84 8)) (bndI (S_177 (Int32.toInt64 (h 89 (Int32.toNatClampNeg (h 84 8)))) (Int32.toInt64 v1) (Int32.toInt64 v2) h) (R_211_28))
theorem r_211_11 {X : GX} {d : Nat} {r : Int32 × Hp} (hd : 2 ≤ d) (hq : RtX X (some (.int r.1)) r.2) {h : Hp} {v1 : Int32} {v2 : Int32} (e : R_211_11 v1 v2 h = some r) : G X d 211 11 [some (.ref 84), some (.int v1), some (.int v2)] [] h := by
  unfold R_211_11 at e
  have g := gd_s e; clear e; obtain ⟨b0, e⟩ := g
  obtain ⟨x, h2, e1, e2⟩ := bndI_s e
  refine k_211_11 b0 (by omega) (t_177 e1) ?_
  rintro _ _ ⟨rfl, rfl⟩
  exact r_211_28 hd hq e2
noncomputable def R_211_0 (v1 : Int32) (v2 : Int32) (h : Hp) : Option (Int32 × Hp) := if (h 84 7) ≤ (h 84 8) then R_211_35 h else R_211_11 v1 v2 h
theorem r_211_0 {X : GX} {d : Nat} {r : Int32 × Hp} (hd : 2 ≤ d) (hq : RtX X (some (.int r.1)) r.2) {h : Hp} {v1 : Int32} {v2 : Int32} (e : R_211_0 v1 v2 h = some r) : G X d 211 0 [some (.ref 84), some (.int v1), some (.int v2)] [] h := by
  unfold R_211_0 at e
  refine k_211_0 (fun c => ?_) (fun c => ?_)
  · rw [if_pos c] at e; exact r_211_35 hd hq e
  · rw [if_neg c] at e; exact r_211_11 hd hq e
noncomputable def S_211 (v1 : Int32) (v2 : Int32) (h : Hp) : Option (Int32 × Hp) := R_211_0 v1 v2 h
set_option maxRecDepth 100000 in
theorem t_211 {v1 : Int32} {v2 : Int32} {h : Hp} {r : Int32 × Hp} (e : S_211 v1 v2 h = some r) : CI 2 211 [.ref 84, .int v1, .int v2] h (fun x g => x = r.1 ∧ g = r.2) := by
  refine C.of mo_211 (Nat.le_of_ble_eq_true rfl) (fun X hq => ?_)
  exact r_211_0 (Nat.le_refl _) (hq _ _ ⟨_, rfl, rfl, rfl⟩) e
/-! 210 PlayedTruthModel.next()V -/
noncomputable def R_210_306 (h : Hp) : Option (Int32 × Hp) := gd (IA 89 ((wr h 84 10 3) 84 8)) (some (0, (wr (wrL (wr h 84 10 3) 84 (Int32.toInt64 ((wr h 84 10 3) 89 (Int32.toNatClampNeg ((wr h 84 10 3) 84 8))))) 84 8 (((wrL (wr h 84 10 3) 84 (Int32.toInt64 ((wr h 84 10 3) 89 (Int32.toNatClampNeg ((wr h 84 10 3) 84 8))))) 84 8) + 1))))
theorem r_210_306 {X : GX} {d : Nat} {r : Int32 × Hp} (hd : 3 ≤ d) (hq : RtX X none r.2) {h : Hp} (e : R_210_306 h = some r) : G X d 210 306 [some (.ref 84)] [] h := by
  unfold R_210_306 at e
  have g := gd_s e; clear e; obtain ⟨b0, e⟩ := g
  rw [← Option.some.inj e] at hq
  exact k_210_306 b0 hq
noncomputable def R_210_296 (s0 : Nat) (h : Hp) : Option (Int32 × Hp) := gd (sh s0 = (1, 9)) (some (0, (wrL h s0 (rdL (h 84)))))
theorem r_210_296 {X : GX} {d : Nat} {r : Int32 × Hp} (hd : 3 ≤ d) (hq : RtX X none r.2) {h : Hp} {s0 : Nat} (e : R_210_296 s0 h = some r) : G X d 210 296 [some (.ref 84)] [.ref s0] h := by
  unfold R_210_296 at e
  have g := gd_s e; clear e; obtain ⟨o0, e⟩ := g
  rw [← Option.some.inj e] at hq
  exact k_210_296 o0 hq
noncomputable def R_210_290 (s0 : Nat) (h : Hp) : Option (Int32 × Hp) := gd (sh s0 = (1, 9)) (some (0, (wrL h s0 100000)))
theorem r_210_290 {X : GX} {d : Nat} {r : Int32 × Hp} (hd : 3 ≤ d) (hq : RtX X none r.2) {h : Hp} {s0 : Nat} (e : R_210_290 s0 h = some r) : G X d 210 290 [none] [.ref s0] h := by
  unfold R_210_290 at e
  have g := gd_s e; clear e; obtain ⟨o0, e⟩ := g
  rw [← Option.some.inj e] at hq
  exact k_210_290 o0 hq
noncomputable def R_210_276 (h : Hp) : Option (Int32 × Hp) := if ((h 84 8) - (h 84 9)) ≤ 4 then R_210_296 84 h else R_210_290 84 h
theorem r_210_276 {X : GX} {d : Nat} {r : Int32 × Hp} (hd : 3 ≤ d) (hq : RtX X none r.2) {h : Hp} (e : R_210_276 h = some r) : G X d 210 276 [some (.ref 84)] [] h := by
  unfold R_210_276 at e
  refine k_210_276 (fun c => ?_) (fun c => ?_)
  · rw [if_pos c] at e; exact r_210_296 hd hq e
  · rw [if_neg c] at e; exact r_210_290 hd hq e
noncomputable def R_210_257 (rec_206 : Hp → Option (Int32 × Hp)) (s0 : Nat) (h : Hp) : Option (Int32 × Hp) := gd (sh s0 = (1, 9)) (rec_206 ((wr (wrL h s0 100000) 84 8 (((wrL h s0 100000) 84 8) + 1))))
theorem r_210_257 {X : GX} {d : Nat} {r : Int32 × Hp} (hd : 3 ≤ d) (hq : RtX X none r.2) {rec_206 : Hp → Option (Int32 × Hp)} (hr_206 : ∀ {h : Hp}, rec_206 h = some r → G X d 210 206 [some (.ref 84)] [] h) {h : Hp} {s0 : Nat} (e : R_210_257 rec_206 s0 h = some r) : G X d 210 257 [some (.ref 84)] [.ref s0] h := by
  unfold R_210_257 at e
  have g := gd_s e; clear e; obtain ⟨o0, e⟩ := g
  exact k_210_257 o0 (hr_206 e)
noncomputable def R_210_231 (rec_206 : Hp → Option (Int32 × Hp)) (s0 : Nat) (h : Hp) : Option (Int32 × Hp) := gd (IA 89 (h 84 8) ∧ sh s0 = (1, 9)) (rec_206 ((wr (wrL h s0 (((10 * (rdL (h 84))) + (Int32.toInt64 (h 89 (Int32.toNatClampNeg (h 84 8))))) - 48)) 84 8 (((wrL h s0 (((10 * (rdL (h 84))) + (Int32.toInt64 (h 89 (Int32.toNatClampNeg (h 84 8))))) - 48)) 84 8) + 1))))
theorem r_210_231 {X : GX} {d : Nat} {r : Int32 × Hp} (hd : 3 ≤ d) (hq : RtX X none r.2) {rec_206 : Hp → Option (Int32 × Hp)} (hr_206 : ∀ {h : Hp}, rec_206 h = some r → G X d 210 206 [some (.ref 84)] [] h) {h : Hp} {s0 : Nat} (e : R_210_231 rec_206 s0 h = some r) : G X d 210 231 [some (.ref 84)] [.ref s0] h := by
  unfold R_210_231 at e
  have g := gd_s e; clear e; obtain ⟨⟨b0, o1⟩, e⟩ := g
  exact k_210_231 b0 o1 (hr_206 e)
noncomputable def R_210_217 (rec_206 : Hp → Option (Int32 × Hp)) (h : Hp) : Option (Int32 × Hp) := if 4 ≤ ((h 84 8) - (h 84 9)) then R_210_257 rec_206 84 h else R_210_231 rec_206 84 h
theorem r_210_217 {X : GX} {d : Nat} {r : Int32 × Hp} (hd : 3 ≤ d) (hq : RtX X none r.2) {rec_206 : Hp → Option (Int32 × Hp)} (hr_206 : ∀ {h : Hp}, rec_206 h = some r → G X d 210 206 [some (.ref 84)] [] h) {h : Hp} (e : R_210_217 rec_206 h = some r) : G X d 210 217 [some (.ref 84)] [] h := by
  unfold R_210_217 at e
  refine k_210_217 (fun c => ?_) (fun c => ?_)
  · rw [if_pos c] at e; exact r_210_257 hd hq hr_206 e
  · rw [if_neg c] at e; exact r_210_231 hd hq hr_206 e
noncomputable def R_210_214 (rec_206 : Hp → Option (Int32 × Hp)) (s0 : Int32) (h : Hp) : Option (Int32 × Hp) := if s0 = 0 then R_210_276 h else R_210_217 rec_206 h
theorem r_210_214 {X : GX} {d : Nat} {r : Int32 × Hp} (hd : 3 ≤ d) (hq : RtX X none r.2) {rec_206 : Hp → Option (Int32 × Hp)} (hr_206 : ∀ {h : Hp}, rec_206 h = some r → G X d 210 206 [some (.ref 84)] [] h) {h : Hp} {s0 : Int32} (e : R_210_214 rec_206 s0 h = some r) : G X d 210 214 [some (.ref 84)] [.int s0] h := by
  unfold R_210_214 at e
  refine k_210_214 (fun c => ?_) (fun c => ?_)
  · rw [if_pos c] at e; exact r_210_276 hd hq e
  · rw [if_neg c] at e; exact r_210_217 hd hq hr_206 e
noncomputable def R_210_206 (rec_206 : Hp → Option (Int32 × Hp)) (h : Hp) : Option (Int32 × Hp) := bndI (S_211 48 57 h) (R_210_214 rec_206)
theorem r_210_206 {X : GX} {d : Nat} {r : Int32 × Hp} (hd : 3 ≤ d) (hq : RtX X none r.2) {rec_206 : Hp → Option (Int32 × Hp)} (hr_206 : ∀ {h : Hp}, rec_206 h = some r → G X d 210 206 [some (.ref 84)] [] h) {h : Hp} (e : R_210_206 rec_206 h = some r) : G X d 210 206 [some (.ref 84)] [] h := by
  unfold R_210_206 at e
  obtain ⟨x, h2, e1, e2⟩ := bndI_s e
  refine k_210_206 (by omega) (t_211 e1) ?_
  rintro _ _ ⟨rfl, rfl⟩
  exact r_210_214 hd hq hr_206 e2
noncomputable def H_210_206 : Nat → Hp → Option (Int32 × Hp)
  | 0, _ => none
  | n + 1, h => R_210_206 (H_210_206 n) h
theorem h_210_206 {X : GX} {d : Nat} {r : Int32 × Hp} (hd : 3 ≤ d) (hq : RtX X none r.2) {n : Nat} {h : Hp} (e : H_210_206 n h = some r) : G X d 210 206 [some (.ref 84)] [] h := by
  induction n generalizing h with
  | zero => cases e
  | succ n ih => exact r_210_206 hd hq (fun e => ih e) e
noncomputable def R_210_201 (h : Hp) : Option (Int32 × Hp) := H_210_206 fuL ((wr h 84 10 2))
theorem r_210_201 {X : GX} {d : Nat} {r : Int32 × Hp} (hd : 3 ≤ d) (hq : RtX X none r.2) {h : Hp} (e : R_210_201 h = some r) : G X d 210 201 [some (.ref 84)] [] h := by
  unfold R_210_201 at e
  exact k_210_201 (h_210_206 hd hq e)
noncomputable def R_210_198 (s0 : Int32) (h : Hp) : Option (Int32 × Hp) := if s0 = 0 then R_210_306 h else R_210_201 h
theorem r_210_198 {X : GX} {d : Nat} {r : Int32 × Hp} (hd : 3 ≤ d) (hq : RtX X none r.2) {h : Hp} {s0 : Int32} (e : R_210_198 s0 h = some r) : G X d 210 198 [some (.ref 84)] [.int s0] h := by
  unfold R_210_198 at e
  refine k_210_198 (fun c => ?_) (fun c => ?_)
  · rw [if_pos c] at e; exact r_210_306 hd hq e
  · rw [if_neg c] at e; exact r_210_201 hd hq e
noncomputable def R_210_190 (h : Hp) : Option (Int32 × Hp) := bndI (S_211 48 57 h) (R_210_198)
theorem r_210_190 {X : GX} {d : Nat} {r : Int32 × Hp} (hd : 3 ≤ d) (hq : RtX X none r.2) {h : Hp} (e : R_210_190 h = some r) : G X d 210 190 [some (.ref 84)] [] h := by
  unfold R_210_190 at e
  obtain ⟨x, h2, e1, e2⟩ := bndI_s e
  refine k_210_190 (by omega) (t_211 e1) ?_
  rintro _ _ ⟨rfl, rfl⟩
  exact r_210_198 hd hq e2
noncomputable def R_210_180 (s0 : Nat) (h : Hp) : Option (Int32 × Hp) := gd (sh s0 = (1, 9)) (some (0, (wrL h s0 (rdL (h 84)))))
theorem r_210_180 {X : GX} {d : Nat} {r : Int32 × Hp} (hd : 3 ≤ d) (hq : RtX X none r.2) {h : Hp} {s0 : Nat} (e : R_210_180 s0 h = some r) : G X d 210 180 [some (.ref 84)] [.ref s0] h := by
  unfold R_210_180 at e
  have g := gd_s e; clear e; obtain ⟨o0, e⟩ := g
  rw [← Option.some.inj e] at hq
  exact k_210_180 o0 hq
noncomputable def R_210_174 (s0 : Nat) (h : Hp) : Option (Int32 × Hp) := gd (sh s0 = (1, 9)) (some (0, (wrL h s0 ((-1)))))
theorem r_210_174 {X : GX} {d : Nat} {r : Int32 × Hp} (hd : 3 ≤ d) (hq : RtX X none r.2) {h : Hp} {s0 : Nat} (e : R_210_174 s0 h = some r) : G X d 210 174 [none] [.ref s0] h := by
  unfold R_210_174 at e
  have g := gd_s e; clear e; obtain ⟨o0, e⟩ := g
  rw [← Option.some.inj e] at hq
  exact k_210_174 o0 hq
noncomputable def R_210_159 (h : Hp) : Option (Int32 × Hp) := if ((h 84 8) - (h 84 9)) ≤ 7 then R_210_180 84 h else R_210_174 84 h
theorem r_210_159 {X : GX} {d : Nat} {r : Int32 × Hp} (hd : 3 ≤ d) (hq : RtX X none r.2) {h : Hp} (e : R_210_159 h = some r) : G X d 210 159 [some (.ref 84)] [] h := by
  unfold R_210_159 at e
  refine k_210_159 (fun c => ?_) (fun c => ?_)
  · rw [if_pos c] at e; exact r_210_180 hd hq e
  · rw [if_neg c] at e; exact r_210_174 hd hq e
noncomputable def R_210_140 (rec_86 : Hp → Option (Int32 × Hp)) (s0 : Nat) (h : Hp) : Option (Int32 × Hp) := gd (sh s0 = (1, 9)) (rec_86 ((wr (wrL h s0 ((-1))) 84 8 (((wrL h s0 ((-1))) 84 8) + 1))))
theorem r_210_140 {X : GX} {d : Nat} {r : Int32 × Hp} (hd : 3 ≤ d) (hq : RtX X none r.2) {rec_86 : Hp → Option (Int32 × Hp)} (hr_86 : ∀ {h : Hp}, rec_86 h = some r → G X d 210 86 [some (.ref 84)] [] h) {h : Hp} {s0 : Nat} (e : R_210_140 rec_86 s0 h = some r) : G X d 210 140 [some (.ref 84)] [.ref s0] h := by
  unfold R_210_140 at e
  have g := gd_s e; clear e; obtain ⟨o0, e⟩ := g
  exact k_210_140 o0 (hr_86 e)
noncomputable def R_210_112 (rec_86 : Hp → Option (Int32 × Hp)) (s0 : Nat) (h : Hp) : Option (Int32 × Hp) := gd (IA 89 (h 84 8) ∧ sh s0 = (1, 9)) (rec_86 ((wr (wrL h s0 ((((27 * (rdL (h 84))) + (Int32.toInt64 (h 89 (Int32.toNatClampNeg (h 84 8))))) - 97) + 1)) 84 8 (((wrL h s0 ((((27 * (rdL (h 84))) + (Int32.toInt64 (h 89 (Int32.toNatClampNeg (h 84 8))))) - 97) + 1)) 84 8) + 1))))
theorem r_210_112 {X : GX} {d : Nat} {r : Int32 × Hp} (hd : 3 ≤ d) (hq : RtX X none r.2) {rec_86 : Hp → Option (Int32 × Hp)} (hr_86 : ∀ {h : Hp}, rec_86 h = some r → G X d 210 86 [some (.ref 84)] [] h) {h : Hp} {s0 : Nat} (e : R_210_112 rec_86 s0 h = some r) : G X d 210 112 [some (.ref 84)] [.ref s0] h := by
  unfold R_210_112 at e
  have g := gd_s e; clear e; obtain ⟨⟨b0, o1⟩, e⟩ := g
  exact k_210_112 b0 o1 (hr_86 e)
noncomputable def R_210_97 (rec_86 : Hp → Option (Int32 × Hp)) (h : Hp) : Option (Int32 × Hp) := if 7 ≤ ((h 84 8) - (h 84 9)) then R_210_140 rec_86 84 h else R_210_112 rec_86 84 h
theorem r_210_97 {X : GX} {d : Nat} {r : Int32 × Hp} (hd : 3 ≤ d) (hq : RtX X none r.2) {rec_86 : Hp → Option (Int32 × Hp)} (hr_86 : ∀ {h : Hp}, rec_86 h = some r → G X d 210 86 [some (.ref 84)] [] h) {h : Hp} (e : R_210_97 rec_86 h = some r) : G X d 210 97 [some (.ref 84)] [] h := by
  unfold R_210_97 at e
  refine k_210_97 (fun c => ?_) (fun c => ?_)
  · rw [if_pos c] at e; exact r_210_140 hd hq hr_86 e
  · rw [if_neg c] at e; exact r_210_112 hd hq hr_86 e
noncomputable def R_210_94 (rec_86 : Hp → Option (Int32 × Hp)) (s0 : Int32) (h : Hp) : Option (Int32 × Hp) := if s0 = 0 then R_210_159 h else R_210_97 rec_86 h
theorem r_210_94 {X : GX} {d : Nat} {r : Int32 × Hp} (hd : 3 ≤ d) (hq : RtX X none r.2) {rec_86 : Hp → Option (Int32 × Hp)} (hr_86 : ∀ {h : Hp}, rec_86 h = some r → G X d 210 86 [some (.ref 84)] [] h) {h : Hp} {s0 : Int32} (e : R_210_94 rec_86 s0 h = some r) : G X d 210 94 [some (.ref 84)] [.int s0] h := by
  unfold R_210_94 at e
  refine k_210_94 (fun c => ?_) (fun c => ?_)
  · rw [if_pos c] at e; exact r_210_159 hd hq e
  · rw [if_neg c] at e; exact r_210_97 hd hq hr_86 e
noncomputable def R_210_86 (rec_86 : Hp → Option (Int32 × Hp)) (h : Hp) : Option (Int32 × Hp) := bndI (S_211 97 122 h) (R_210_94 rec_86)
theorem r_210_86 {X : GX} {d : Nat} {r : Int32 × Hp} (hd : 3 ≤ d) (hq : RtX X none r.2) {rec_86 : Hp → Option (Int32 × Hp)} (hr_86 : ∀ {h : Hp}, rec_86 h = some r → G X d 210 86 [some (.ref 84)] [] h) {h : Hp} (e : R_210_86 rec_86 h = some r) : G X d 210 86 [some (.ref 84)] [] h := by
  unfold R_210_86 at e
  obtain ⟨x, h2, e1, e2⟩ := bndI_s e
  refine k_210_86 (by omega) (t_211 e1) ?_
  rintro _ _ ⟨rfl, rfl⟩
  exact r_210_94 hd hq hr_86 e2
noncomputable def H_210_86 : Nat → Hp → Option (Int32 × Hp)
  | 0, _ => none
  | n + 1, h => R_210_86 (H_210_86 n) h
theorem h_210_86 {X : GX} {d : Nat} {r : Int32 × Hp} (hd : 3 ≤ d) (hq : RtX X none r.2) {n : Nat} {h : Hp} (e : H_210_86 n h = some r) : G X d 210 86 [some (.ref 84)] [] h := by
  induction n generalizing h with
  | zero => cases e
  | succ n ih => exact r_210_86 hd hq (fun e => ih e) e
noncomputable def R_210_81 (h : Hp) : Option (Int32 × Hp) := H_210_86 fuL ((wr h 84 10 1))
theorem r_210_81 {X : GX} {d : Nat} {r : Int32 × Hp} (hd : 3 ≤ d) (hq : RtX X none r.2) {h : Hp} (e : R_210_81 h = some r) : G X d 210 81 [some (.ref 84)] [] h := by
  unfold R_210_81 at e
  exact k_210_81 (h_210_86 hd hq e)
noncomputable def R_210_78 (s0 : Int32) (h : Hp) : Option (Int32 × Hp) := if s0 = 0 then R_210_190 h else R_210_81 h
theorem r_210_78 {X : GX} {d : Nat} {r : Int32 × Hp} (hd : 3 ≤ d) (hq : RtX X none r.2) {h : Hp} {s0 : Int32} (e : R_210_78 s0 h = some r) : G X d 210 78 [some (.ref 84)] [.int s0] h := by
  unfold R_210_78 at e
  refine k_210_78 (fun c => ?_) (fun c => ?_)
  · rw [if_pos c] at e; exact r_210_190 hd hq e
  · rw [if_neg c] at e; exact r_210_81 hd hq e
noncomputable def R_210_70 (h : Hp) : Option (Int32 × Hp) := bndI (S_211 97 122 h) (R_210_78)
theorem r_210_70 {X : GX} {d : Nat} {r : Int32 × Hp} (hd : 3 ≤ d) (hq : RtX X none r.2) {h : Hp} (e : R_210_70 h = some r) : G X d 210 70 [some (.ref 84)] [] h := by
  unfold R_210_70 at e
  obtain ⟨x, h2, e1, e2⟩ := bndI_s e
  refine k_210_70 (by omega) (t_211 e1) ?_
  rintro _ _ ⟨rfl, rfl⟩
  exact r_210_78 hd hq e2
noncomputable def R_210_62 (h : Hp) : Option (Int32 × Hp) := some (0, (wr h 84 10 0))
theorem r_210_62 {X : GX} {d : Nat} {r : Int32 × Hp} (hd : 3 ≤ d) (hq : RtX X none r.2) {h : Hp} (e : R_210_62 h = some r) : G X d 210 62 [some (.ref 84)] [] h := by
  unfold R_210_62 at e
  rw [← Option.some.inj e] at hq
  exact k_210_62 hq
noncomputable def R_210_38 (h : Hp) : Option (Int32 × Hp) := if ((wrL (wr h 84 9 (h 84 8)) 84 0) 84 8) = ((wrL (wr h 84 9 (h 84 8)) 84 0) 84 7) then R_210_62 ((wrL (wr h 84 9 (h 84 8)) 84 0)) else R_210_70 ((wrL (wr h 84 9 (h 84 8)) 84 0))
theorem r_210_38 {X : GX} {d : Nat} {r : Int32 × Hp} (hd : 3 ≤ d) (hq : RtX X none r.2) {h : Hp} (e : R_210_38 h = some r) : G X d 210 38 [some (.ref 84)] [] h := by
  unfold R_210_38 at e
  refine k_210_38 (fun c => ?_) (fun c => ?_)
  · rw [if_neg c] at e; exact r_210_70 hd hq e
  · rw [if_pos c] at e; exact r_210_62 hd hq e
noncomputable def R_210_25 (rec_0 : Hp → Option (Int32 × Hp)) (h : Hp) : Option (Int32 × Hp) := rec_0 ((wr h 84 8 ((h 84 8) + 1)))
theorem r_210_25 {X : GX} {d : Nat} {r : Int32 × Hp} (hd : 3 ≤ d) (hq : RtX X none r.2) {rec_0 : Hp → Option (Int32 × Hp)} (hr_0 : ∀ {h : Hp}, rec_0 h = some r → G X d 210 0 [some (.ref 84)] [] h) {h : Hp} (e : R_210_25 rec_0 h = some r) : G X d 210 25 [some (.ref 84)] [] h := by
  unfold R_210_25 at e
  exact k_210_25 (hr_0 e)
noncomputable def R_210_11 (rec_0 : Hp → Option (Int32 × Hp)) (h : Hp) : Option (Int32 × Hp) := gd (IA 89 (h 84 8)) (if (h 89 (Int32.toNatClampNeg (h 84 8))) = 32 then R_210_25 rec_0 h else R_210_38 h)
theorem r_210_11 {X : GX} {d : Nat} {r : Int32 × Hp} (hd : 3 ≤ d) (hq : RtX X none r.2) {rec_0 : Hp → Option (Int32 × Hp)} (hr_0 : ∀ {h : Hp}, rec_0 h = some r → G X d 210 0 [some (.ref 84)] [] h) {h : Hp} (e : R_210_11 rec_0 h = some r) : G X d 210 11 [some (.ref 84)] [] h := by
  unfold R_210_11 at e
  have g := gd_s e; clear e; obtain ⟨b0, e⟩ := g
  refine k_210_11 b0 (fun c => ?_) (fun c => ?_)
  · rw [if_neg c] at e; exact r_210_38 hd hq e
  · rw [if_pos c] at e; exact r_210_25 hd hq hr_0 e
noncomputable def R_210_0 (rec_0 : Hp → Option (Int32 × Hp)) (h : Hp) : Option (Int32 × Hp) := if (h 84 7) ≤ (h 84 8) then R_210_38 h else R_210_11 rec_0 h
theorem r_210_0 {X : GX} {d : Nat} {r : Int32 × Hp} (hd : 3 ≤ d) (hq : RtX X none r.2) {rec_0 : Hp → Option (Int32 × Hp)} (hr_0 : ∀ {h : Hp}, rec_0 h = some r → G X d 210 0 [some (.ref 84)] [] h) {h : Hp} (e : R_210_0 rec_0 h = some r) : G X d 210 0 [some (.ref 84)] [] h := by
  unfold R_210_0 at e
  refine k_210_0 (fun c => ?_) (fun c => ?_)
  · rw [if_pos c] at e; exact r_210_38 hd hq e
  · rw [if_neg c] at e; exact r_210_11 hd hq hr_0 e
noncomputable def H_210_0 : Nat → Hp → Option (Int32 × Hp)
  | 0, _ => none
  | n + 1, h => R_210_0 (H_210_0 n) h
theorem h_210_0 {X : GX} {d : Nat} {r : Int32 × Hp} (hd : 3 ≤ d) (hq : RtX X none r.2) {n : Nat} {h : Hp} (e : H_210_0 n h = some r) : G X d 210 0 [some (.ref 84)] [] h := by
  induction n generalizing h with
  | zero => cases e
  | succ n ih => exact r_210_0 hd hq (fun e => ih e) e
noncomputable def S_210 (h : Hp) : Option (Int32 × Hp) := H_210_0 fuL h
set_option maxRecDepth 100000 in
theorem t_210 {h : Hp} {r : Int32 × Hp} (e : S_210 h = some r) : CV 3 210 [.ref 84] h (fun g => g = r.2) := by
  refine C.of mo_210 (Nat.le_of_ble_eq_true rfl) (fun X hq => ?_)
  exact h_210_0 (Nat.le_refl _) (hq _ _ ⟨rfl, rfl⟩) e
/-! 214 PlayedTruthModel.isWord(J)Z -/
noncomputable def R_214_28 (h : Hp) : Option (Int32 × Hp) := some (0, h)
theorem r_214_28 {X : GX} {d : Nat} {r : Int32 × Hp} (hd : 1 ≤ d) (hq : RtX X (some (.int r.1)) r.2) {h : Hp} (e : R_214_28 h = some r) : G X d 214 28 [none, none, none] [] h := by
  unfold R_214_28 at e
  rw [← Option.some.inj e] at hq
  exact k_214_28 hq
noncomputable def R_214_24 (h : Hp) : Option (Int32 × Hp) := some (1, h)
theorem r_214_24 {X : GX} {d : Nat} {r : Int32 × Hp} (hd : 1 ≤ d) (hq : RtX X (some (.int r.1)) r.2) {h : Hp} (e : R_214_24 h = some r) : G X d 214 24 [none, none, none] [] h := by
  unfold R_214_24 at e
  rw [← Option.some.inj e] at hq
  exact k_214_24 hq
noncomputable def R_214_17 (h : Hp) : Option (Int32 × Hp) := if (h 84 12) = 0 then R_214_24 h else R_214_28 h
theorem r_214_17 {X : GX} {d : Nat} {r : Int32 × Hp} (hd : 1 ≤ d) (hq : RtX X (some (.int r.1)) r.2) {h : Hp} (e : R_214_17 h = some r) : G X d 214 17 [some (.ref 84), none, none] [] h := by
  unfold R_214_17 at e
  refine k_214_17 (fun c => ?_) (fun c => ?_)
  · rw [if_neg c] at e; exact r_214_28 hd hq e
  · rw [if_pos c] at e; exact r_214_24 hd hq e
noncomputable def R_214_8 (v1 : Int64) (h : Hp) : Option (Int32 × Hp) := if (lg_cmp (rdL (h 84)) v1) = 0 then R_214_17 h else R_214_28 h
theorem r_214_8 {X : GX} {d : Nat} {r : Int32 × Hp} (hd : 1 ≤ d) (hq : RtX X (some (.int r.1)) r.2) {h : Hp} {v1 : Int64} (e : R_214_8 v1 h = some r) : G X d 214 8 [some (.ref 84), some (.long v1), none] [] h := by
  unfold R_214_8 at e
  refine k_214_8 (fun c => ?_) (fun c => ?_)
  · rw [if_neg c] at e; exact r_214_28 hd hq e
  · rw [if_pos c] at e; exact r_214_17 hd hq e
noncomputable def R_214_0 (v1 : Int64) (h : Hp) : Option (Int32 × Hp) := if (h 84 10) = 1 then R_214_8 v1 h else R_214_28 h
theorem r_214_0 {X : GX} {d : Nat} {r : Int32 × Hp} (hd : 1 ≤ d) (hq : RtX X (some (.int r.1)) r.2) {h : Hp} {v1 : Int64} (e : R_214_0 v1 h = some r) : G X d 214 0 [some (.ref 84), some (.long v1), none] [] h := by
  unfold R_214_0 at e
  refine k_214_0 (fun c => ?_) (fun c => ?_)
  · rw [if_neg c] at e; exact r_214_28 hd hq e
  · rw [if_pos c] at e; exact r_214_8 hd hq e
noncomputable def S_214 (v1 : Int64) (h : Hp) : Option (Int32 × Hp) := R_214_0 v1 h
set_option maxRecDepth 100000 in
theorem t_214 {v1 : Int64} {h : Hp} {r : Int32 × Hp} (e : S_214 v1 h = some r) : CI 1 214 [.ref 84, .long v1] h (fun x g => x = r.1 ∧ g = r.2) := by
  refine C.of mo_214 (Nat.le_of_ble_eq_true rfl) (fun X hq => ?_)
  exact r_214_0 (Nat.le_refl _) (hq _ _ ⟨_, rfl, rfl, rfl⟩) e
/-! 213 PlayedTruthModel.kindHere()I -/
noncomputable def R_213_84 (h : Hp) : Option (Int32 × Hp) := some (((-1)), h)
theorem r_213_84 {X : GX} {d : Nat} {r : Int32 × Hp} (hd : 2 ≤ d) (hq : RtX X (some (.int r.1)) r.2) {h : Hp} (e : R_213_84 h = some r) : G X d 213 84 [none] [] h := by
  unfold R_213_84 at e
  rw [← Option.some.inj e] at hq
  exact k_213_84 hq
noncomputable def R_213_80 (h : Hp) : Option (Int32 × Hp) := some (5, h)
theorem r_213_80 {X : GX} {d : Nat} {r : Int32 × Hp} (hd : 2 ≤ d) (hq : RtX X (some (.int r.1)) r.2) {h : Hp} (e : R_213_80 h = some r) : G X d 213 80 [none] [] h := by
  unfold R_213_80 at e
  rw [← Option.some.inj e] at hq
  exact k_213_80 hq
noncomputable def R_213_77 (s0 : Int32) (h : Hp) : Option (Int32 × Hp) := if s0 = 0 then R_213_84 h else R_213_80 h
theorem r_213_77 {X : GX} {d : Nat} {r : Int32 × Hp} (hd : 2 ≤ d) (hq : RtX X (some (.int r.1)) r.2) {h : Hp} {s0 : Int32} (e : R_213_77 s0 h = some r) : G X d 213 77 [none] [.int s0] h := by
  unfold R_213_77 at e
  refine k_213_77 (fun c => ?_) (fun c => ?_)
  · rw [if_pos c] at e; exact r_213_84 hd hq e
  · rw [if_neg c] at e; exact r_213_80 hd hq e
noncomputable def R_213_70 (h : Hp) : Option (Int32 × Hp) := bndI (S_214 6943085 h) (R_213_77)
theorem r_213_70 {X : GX} {d : Nat} {r : Int32 × Hp} (hd : 2 ≤ d) (hq : RtX X (some (.int r.1)) r.2) {h : Hp} (e : R_213_70 h = some r) : G X d 213 70 [some (.ref 84)] [] h := by
  unfold R_213_70 at e
  obtain ⟨x, h2, e1, e2⟩ := bndI_s e
  refine k_213_70 (by omega) (t_214 e1) ?_
  rintro _ _ ⟨rfl, rfl⟩
  exact r_213_77 hd hq e2
noncomputable def R_213_66 (h : Hp) : Option (Int32 × Hp) := some (4, h)
theorem r_213_66 {X : GX} {d : Nat} {r : Int32 × Hp} (hd : 2 ≤ d) (hq : RtX X (some (.int r.1)) r.2) {h : Hp} (e : R_213_66 h = some r) : G X d 213 66 [none] [] h := by
  unfold R_213_66 at e
  rw [← Option.some.inj e] at hq
  exact k_213_66 hq
noncomputable def R_213_63 (s0 : Int32) (h : Hp) : Option (Int32 × Hp) := if s0 = 0 then R_213_70 h else R_213_66 h
theorem r_213_63 {X : GX} {d : Nat} {r : Int32 × Hp} (hd : 2 ≤ d) (hq : RtX X (some (.int r.1)) r.2) {h : Hp} {s0 : Int32} (e : R_213_63 s0 h = some r) : G X d 213 63 [some (.ref 84)] [.int s0] h := by
  unfold R_213_63 at e
  refine k_213_63 (fun c => ?_) (fun c => ?_)
  · rw [if_pos c] at e; exact r_213_70 hd hq e
  · rw [if_neg c] at e; exact r_213_66 hd hq e
noncomputable def R_213_56 (h : Hp) : Option (Int32 × Hp) := bndI (S_214 1960177 h) (R_213_63)
theorem r_213_56 {X : GX} {d : Nat} {r : Int32 × Hp} (hd : 2 ≤ d) (hq : RtX X (some (.int r.1)) r.2) {h : Hp} (e : R_213_56 h = some r) : G X d 213 56 [some (.ref 84)] [] h := by
  unfold R_213_56 at e
  obtain ⟨x, h2, e1, e2⟩ := bndI_s e
  refine k_213_56 (by omega) (t_214 e1) ?_
  rintro _ _ ⟨rfl, rfl⟩
  exact r_213_63 hd hq e2
noncomputable def R_213_52 (h : Hp) : Option (Int32 × Hp) := some (3, h)
theorem r_213_52 {X : GX} {d : Nat} {r : Int32 × Hp} (hd : 2 ≤ d) (hq : RtX X (some (.int r.1)) r.2) {h : Hp} (e : R_213_52 h = some r) : G X d 213 52 [none] [] h := by
  unfold R_213_52 at e
  rw [← Option.some.inj e] at hq
  exact k_213_52 hq
noncomputable def R_213_49 (s0 : Int32) (h : Hp) : Option (Int32 × Hp) := if s0 = 0 then R_213_56 h else R_213_52 h
theorem r_213_49 {X : GX} {d : Nat} {r : Int32 × Hp} (hd : 2 ≤ d) (hq : RtX X (some (.int r.1)) r.2) {h : Hp} {s0 : Int32} (e : R_213_49 s0 h = some r) : G X d 213 49 [some (.ref 84)] [.int s0] h := by
  unfold R_213_49 at e
  refine k_213_49 (fun c => ?_) (fun c => ?_)
  · rw [if_pos c] at e; exact r_213_56 hd hq e
  · rw [if_neg c] at e; exact r_213_52 hd hq e
noncomputable def R_213_42 (h : Hp) : Option (Int32 × Hp) := bndI (S_214 284079062 h) (R_213_49)
theorem r_213_42 {X : GX} {d : Nat} {r : Int32 × Hp} (hd : 2 ≤ d) (hq : RtX X (some (.int r.1)) r.2) {h : Hp} (e : R_213_42 h = some r) : G X d 213 42 [some (.ref 84)] [] h := by
  unfold R_213_42 at e
  obtain ⟨x, h2, e1, e2⟩ := bndI_s e
  refine k_213_42 (by omega) (t_214 e1) ?_
  rintro _ _ ⟨rfl, rfl⟩
  exact r_213_49 hd hq e2
noncomputable def R_213_38 (h : Hp) : Option (Int32 × Hp) := some (2, h)
theorem r_213_38 {X : GX} {d : Nat} {r : Int32 × Hp} (hd : 2 ≤ d) (hq : RtX X (some (.int r.1)) r.2) {h : Hp} (e : R_213_38 h = some r) : G X d 213 38 [none] [] h := by
  unfold R_213_38 at e
  rw [← Option.some.inj e] at hq
  exact k_213_38 hq
noncomputable def R_213_35 (s0 : Int32) (h : Hp) : Option (Int32 × Hp) := if s0 = 0 then R_213_42 h else R_213_38 h
theorem r_213_35 {X : GX} {d : Nat} {r : Int32 × Hp} (hd : 2 ≤ d) (hq : RtX X (some (.int r.1)) r.2) {h : Hp} {s0 : Int32} (e : R_213_35 s0 h = some r) : G X d 213 35 [some (.ref 84)] [.int s0] h := by
  unfold R_213_35 at e
  refine k_213_35 (fun c => ?_) (fun c => ?_)
  · rw [if_pos c] at e; exact r_213_42 hd hq e
  · rw [if_neg c] at e; exact r_213_38 hd hq e
noncomputable def R_213_28 (h : Hp) : Option (Int32 × Hp) := bndI (S_214 94196 h) (R_213_35)
theorem r_213_28 {X : GX} {d : Nat} {r : Int32 × Hp} (hd : 2 ≤ d) (hq : RtX X (some (.int r.1)) r.2) {h : Hp} (e : R_213_28 h = some r) : G X d 213 28 [some (.ref 84)] [] h := by
  unfold R_213_28 at e
  obtain ⟨x, h2, e1, e2⟩ := bndI_s e
  refine k_213_28 (by omega) (t_214 e1) ?_
  rintro _ _ ⟨rfl, rfl⟩
  exact r_213_35 hd hq e2
noncomputable def R_213_24 (h : Hp) : Option (Int32 × Hp) := some (1, h)
theorem r_213_24 {X : GX} {d : Nat} {r : Int32 × Hp} (hd : 2 ≤ d) (hq : RtX X (some (.int r.1)) r.2) {h : Hp} (e : R_213_24 h = some r) : G X d 213 24 [none] [] h := by
  unfold R_213_24 at e
  rw [← Option.some.inj e] at hq
  exact k_213_24 hq
noncomputable def R_213_21 (s0 : Int32) (h : Hp) : Option (Int32 × Hp) := if s0 = 0 then R_213_28 h else R_213_24 h
theorem r_213_21 {X : GX} {d : Nat} {r : Int32 × Hp} (hd : 2 ≤ d) (hq : RtX X (some (.int r.1)) r.2) {h : Hp} {s0 : Int32} (e : R_213_21 s0 h = some r) : G X d 213 21 [some (.ref 84)] [.int s0] h := by
  unfold R_213_21 at e
  refine k_213_21 (fun c => ?_) (fun c => ?_)
  · rw [if_pos c] at e; exact r_213_28 hd hq e
  · rw [if_neg c] at e; exact r_213_24 hd hq e
noncomputable def R_213_14 (h : Hp) : Option (Int32 × Hp) := bndI (S_214 10989714 h) (R_213_21)
theorem r_213_14 {X : GX} {d : Nat} {r : Int32 × Hp} (hd : 2 ≤ d) (hq : RtX X (some (.int r.1)) r.2) {h : Hp} (e : R_213_14 h = some r) : G X d 213 14 [some (.ref 84)] [] h := by
  unfold R_213_14 at e
  obtain ⟨x, h2, e1, e2⟩ := bndI_s e
  refine k_213_14 (by omega) (t_214 e1) ?_
  rintro _ _ ⟨rfl, rfl⟩
  exact r_213_21 hd hq e2
noncomputable def R_213_10 (h : Hp) : Option (Int32 × Hp) := some (0, h)
theorem r_213_10 {X : GX} {d : Nat} {r : Int32 × Hp} (hd : 2 ≤ d) (hq : RtX X (some (.int r.1)) r.2) {h : Hp} (e : R_213_10 h = some r) : G X d 213 10 [none] [] h := by
  unfold R_213_10 at e
  rw [← Option.some.inj e] at hq
  exact k_213_10 hq
noncomputable def R_213_7 (s0 : Int32) (h : Hp) : Option (Int32 × Hp) := if s0 = 0 then R_213_14 h else R_213_10 h
theorem r_213_7 {X : GX} {d : Nat} {r : Int32 × Hp} (hd : 2 ≤ d) (hq : RtX X (some (.int r.1)) r.2) {h : Hp} {s0 : Int32} (e : R_213_7 s0 h = some r) : G X d 213 7 [some (.ref 84)] [.int s0] h := by
  unfold R_213_7 at e
  refine k_213_7 (fun c => ?_) (fun c => ?_)
  · rw [if_pos c] at e; exact r_213_14 hd hq e
  · rw [if_neg c] at e; exact r_213_10 hd hq e
noncomputable def R_213_0 (h : Hp) : Option (Int32 × Hp) := bndI (S_214 10160456 h) (R_213_7)
theorem r_213_0 {X : GX} {d : Nat} {r : Int32 × Hp} (hd : 2 ≤ d) (hq : RtX X (some (.int r.1)) r.2) {h : Hp} (e : R_213_0 h = some r) : G X d 213 0 [some (.ref 84)] [] h := by
  unfold R_213_0 at e
  obtain ⟨x, h2, e1, e2⟩ := bndI_s e
  refine k_213_0 (by omega) (t_214 e1) ?_
  rintro _ _ ⟨rfl, rfl⟩
  exact r_213_7 hd hq e2
noncomputable def S_213 (h : Hp) : Option (Int32 × Hp) := R_213_0 h
set_option maxRecDepth 100000 in
theorem t_213 {h : Hp} {r : Int32 × Hp} (e : S_213 h = some r) : CI 2 213 [.ref 84] h (fun x g => x = r.1 ∧ g = r.2) := by
  refine C.of mo_213 (Nat.le_of_ble_eq_true rfl) (fun X hq => ?_)
  exact r_213_0 (Nat.le_refl _) (hq _ _ ⟨_, rfl, rfl, rfl⟩) e
/-! 215 PlayedTruthModel.goesBy(Z)V -/
noncomputable def R_215_31 (h : Hp) : Option (Int32 × Hp) := some (0, h)
theorem r_215_31 {X : GX} {d : Nat} {r : Int32 × Hp} (hd : 4 ≤ d) (hq : RtX X none r.2) {h : Hp} (e : R_215_31 h = some r) : G X d 215 31 [none, none] [] h := by
  unfold R_215_31 at e
  rw [← Option.some.inj e] at hq
  exact k_215_31 hq
noncomputable def R_215_27 (h : Hp) : Option (Int32 × Hp) := bndV (S_210 h) (R_215_31)
theorem r_215_27 {X : GX} {d : Nat} {r : Int32 × Hp} (hd : 4 ≤ d) (hq : RtX X none r.2) {h : Hp} (e : R_215_27 h = some r) : G X d 215 27 [some (.ref 84), none] [] h := by
  unfold R_215_27 at e
  obtain ⟨x, h2, e1, e2⟩ := bndV_s e
  refine k_215_27 (by omega) (t_210 e1) ?_
  rintro _ rfl
  exact r_215_31 hd hq e2
noncomputable def R_215_12 (s0 : Nat) (h : Hp) : Option (Int32 × Hp) := gd (sh s0 = (1, 9)) (if ((wr h s0 12 1) 84 12) = 0 then R_215_27 ((wr h s0 12 1)) else R_215_31 ((wr h s0 12 1)))
theorem r_215_12 {X : GX} {d : Nat} {r : Int32 × Hp} (hd : 4 ≤ d) (hq : RtX X none r.2) {h : Hp} {s0 : Nat} (e : R_215_12 s0 h = some r) : G X d 215 12 [some (.ref 84), none] [.ref s0] h := by
  unfold R_215_12 at e
  have g := gd_s e; clear e; obtain ⟨o0, e⟩ := g
  refine k_215_12 o0 (fun c => ?_) (fun c => ?_)
  · rw [if_neg c] at e; exact r_215_31 hd hq e
  · rw [if_pos c] at e; exact r_215_27 hd hq e
noncomputable def R_215_16 (s0 : Nat) (h : Hp) : Option (Int32 × Hp) := gd (sh s0 = (1, 9)) (if ((wr h s0 12 0) 84 12) = 0 then R_215_27 ((wr h s0 12 0)) else R_215_31 ((wr h s0 12 0)))
theorem r_215_16 {X : GX} {d : Nat} {r : Int32 × Hp} (hd : 4 ≤ d) (hq : RtX X none r.2) {h : Hp} {s0 : Nat} (e : R_215_16 s0 h = some r) : G X d 215 16 [some (.ref 84), none] [.ref s0] h := by
  unfold R_215_16 at e
  have g := gd_s e; clear e; obtain ⟨o0, e⟩ := g
  refine k_215_16 o0 (fun c => ?_) (fun c => ?_)
  · rw [if_neg c] at e; exact r_215_31 hd hq e
  · rw [if_pos c] at e; exact r_215_27 hd hq e
noncomputable def R_215_8 (v1 : Int32) (s0 : Nat) (h : Hp) : Option (Int32 × Hp) := if v1 = 0 then R_215_12 s0 h else R_215_16 s0 h
theorem r_215_8 {X : GX} {d : Nat} {r : Int32 × Hp} (hd : 4 ≤ d) (hq : RtX X none r.2) {h : Hp} {v1 : Int32} {s0 : Nat} (e : R_215_8 v1 s0 h = some r) : G X d 215 8 [some (.ref 84), some (.int v1)] [.ref s0] h := by
  unfold R_215_8 at e
  refine k_215_8 (fun c => ?_) (fun c => ?_)
  · rw [if_neg c] at e; exact r_215_16 hd hq e
  · rw [if_pos c] at e; exact r_215_12 hd hq e
noncomputable def R_215_0 (v1 : Int32) (h : Hp) : Option (Int32 × Hp) := if (h 84 12) = 0 then R_215_8 v1 84 h else R_215_12 84 h
theorem r_215_0 {X : GX} {d : Nat} {r : Int32 × Hp} (hd : 4 ≤ d) (hq : RtX X none r.2) {h : Hp} {v1 : Int32} (e : R_215_0 v1 h = some r) : G X d 215 0 [some (.ref 84), some (.int v1)] [] h := by
  unfold R_215_0 at e
  refine k_215_0 (fun c => ?_) (fun c => ?_)
  · rw [if_neg c] at e; exact r_215_12 hd hq e
  · rw [if_pos c] at e; exact r_215_8 hd hq e
noncomputable def S_215 (v1 : Int32) (h : Hp) : Option (Int32 × Hp) := R_215_0 v1 h
set_option maxRecDepth 100000 in
theorem t_215 {v1 : Int32} {h : Hp} {r : Int32 × Hp} (e : S_215 v1 h = some r) : CV 4 215 [.ref 84, .int v1] h (fun g => g = r.2) := by
  refine C.of mo_215 (Nat.le_of_ble_eq_true rfl) (fun X hq => ?_)
  exact r_215_0 (Nat.le_refl _) (hq _ _ ⟨rfl, rfl⟩) e
/-! 219 PlayedTruthModel.isByte(C)Z -/
noncomputable def R_219_29 (h : Hp) : Option (Int32 × Hp) := some (0, h)
theorem r_219_29 {X : GX} {d : Nat} {r : Int32 × Hp} (hd : 1 ≤ d) (hq : RtX X (some (.int r.1)) r.2) {h : Hp} (e : R_219_29 h = some r) : G X d 219 29 [none, none] [] h := by
  unfold R_219_29 at e
  rw [← Option.some.inj e] at hq
  exact k_219_29 hq
noncomputable def R_219_25 (h : Hp) : Option (Int32 × Hp) := some (1, h)
theorem r_219_25 {X : GX} {d : Nat} {r : Int32 × Hp} (hd : 1 ≤ d) (hq : RtX X (some (.int r.1)) r.2) {h : Hp} (e : R_219_25 h = some r) : G X d 219 25 [none, none] [] h := by
  unfold R_219_25 at e
  rw [← Option.some.inj e] at hq
  exact k_219_25 hq
noncomputable def R_219_18 (h : Hp) : Option (Int32 × Hp) := if (h 84 12) = 0 then R_219_25 h else R_219_29 h
theorem r_219_18 {X : GX} {d : Nat} {r : Int32 × Hp} (hd : 1 ≤ d) (hq : RtX X (some (.int r.1)) r.2) {h : Hp} (e : R_219_18 h = some r) : G X d 219 18 [some (.ref 84), none] [] h := by
  unfold R_219_18 at e
  refine k_219_18 (fun c => ?_) (fun c => ?_)
  · rw [if_neg c] at e; exact r_219_29 hd hq e
  · rw [if_pos c] at e; exact r_219_25 hd hq e
noncomputable def R_219_8 (v1 : Int32) (h : Hp) : Option (Int32 × Hp) := if (lg_cmp (rdL (h 84)) (Int32.toInt64 v1)) = 0 then R_219_18 h else R_219_29 h
theorem r_219_8 {X : GX} {d : Nat} {r : Int32 × Hp} (hd : 1 ≤ d) (hq : RtX X (some (.int r.1)) r.2) {h : Hp} {v1 : Int32} (e : R_219_8 v1 h = some r) : G X d 219 8 [some (.ref 84), some (.int v1)] [] h := by
  unfold R_219_8 at e
  refine k_219_8 (fun c => ?_) (fun c => ?_)
  · rw [if_neg c] at e; exact r_219_29 hd hq e
  · rw [if_pos c] at e; exact r_219_18 hd hq e
noncomputable def R_219_0 (v1 : Int32) (h : Hp) : Option (Int32 × Hp) := if (h 84 10) = 3 then R_219_8 v1 h else R_219_29 h
theorem r_219_0 {X : GX} {d : Nat} {r : Int32 × Hp} (hd : 1 ≤ d) (hq : RtX X (some (.int r.1)) r.2) {h : Hp} {v1 : Int32} (e : R_219_0 v1 h = some r) : G X d 219 0 [some (.ref 84), some (.int v1)] [] h := by
  unfold R_219_0 at e
  refine k_219_0 (fun c => ?_) (fun c => ?_)
  · rw [if_neg c] at e; exact r_219_29 hd hq e
  · rw [if_pos c] at e; exact r_219_8 hd hq e
noncomputable def S_219 (v1 : Int32) (h : Hp) : Option (Int32 × Hp) := R_219_0 v1 h
set_option maxRecDepth 100000 in
theorem t_219 {v1 : Int32} {h : Hp} {r : Int32 × Hp} (e : S_219 v1 h = some r) : CI 1 219 [.ref 84, .int v1] h (fun x g => x = r.1 ∧ g = r.2) := by
  refine C.of mo_219 (Nat.le_of_ble_eq_true rfl) (fun X hq => ?_)
  exact r_219_0 (Nat.le_refl _) (hq _ _ ⟨_, rfl, rfl, rfl⟩) e
/-! 221 PlayedTruthModel.factHere()I -/
noncomputable def R_221_70 (h : Hp) : Option (Int32 × Hp) := some (((-1)), h)
theorem r_221_70 {X : GX} {d : Nat} {r : Int32 × Hp} (hd : 2 ≤ d) (hq : RtX X (some (.int r.1)) r.2) {h : Hp} (e : R_221_70 h = some r) : G X d 221 70 [none] [] h := by
  unfold R_221_70 at e
  rw [← Option.some.inj e] at hq
  exact k_221_70 hq
noncomputable def R_221_66 (h : Hp) : Option (Int32 × Hp) := some (4, h)
theorem r_221_66 {X : GX} {d : Nat} {r : Int32 × Hp} (hd : 2 ≤ d) (hq : RtX X (some (.int r.1)) r.2) {h : Hp} (e : R_221_66 h = some r) : G X d 221 66 [none] [] h := by
  unfold R_221_66 at e
  rw [← Option.some.inj e] at hq
  exact k_221_66 hq
noncomputable def R_221_63 (s0 : Int32) (h : Hp) : Option (Int32 × Hp) := if s0 = 0 then R_221_70 h else R_221_66 h
theorem r_221_63 {X : GX} {d : Nat} {r : Int32 × Hp} (hd : 2 ≤ d) (hq : RtX X (some (.int r.1)) r.2) {h : Hp} {s0 : Int32} (e : R_221_63 s0 h = some r) : G X d 221 63 [none] [.int s0] h := by
  unfold R_221_63 at e
  refine k_221_63 (fun c => ?_) (fun c => ?_)
  · rw [if_pos c] at e; exact r_221_70 hd hq e
  · rw [if_neg c] at e; exact r_221_66 hd hq e
noncomputable def R_221_56 (h : Hp) : Option (Int32 × Hp) := bndI (S_214 212302449 h) (R_221_63)
theorem r_221_56 {X : GX} {d : Nat} {r : Int32 × Hp} (hd : 2 ≤ d) (hq : RtX X (some (.int r.1)) r.2) {h : Hp} (e : R_221_56 h = some r) : G X d 221 56 [some (.ref 84)] [] h := by
  unfold R_221_56 at e
  obtain ⟨x, h2, e1, e2⟩ := bndI_s e
  refine k_221_56 (by omega) (t_214 e1) ?_
  rintro _ _ ⟨rfl, rfl⟩
  exact r_221_63 hd hq e2
noncomputable def R_221_52 (h : Hp) : Option (Int32 × Hp) := some (3, h)
theorem r_221_52 {X : GX} {d : Nat} {r : Int32 × Hp} (hd : 2 ≤ d) (hq : RtX X (some (.int r.1)) r.2) {h : Hp} (e : R_221_52 h = some r) : G X d 221 52 [none] [] h := by
  unfold R_221_52 at e
  rw [← Option.some.inj e] at hq
  exact k_221_52 hq
noncomputable def R_221_49 (s0 : Int32) (h : Hp) : Option (Int32 × Hp) := if s0 = 0 then R_221_56 h else R_221_52 h
theorem r_221_49 {X : GX} {d : Nat} {r : Int32 × Hp} (hd : 2 ≤ d) (hq : RtX X (some (.int r.1)) r.2) {h : Hp} {s0 : Int32} (e : R_221_49 s0 h = some r) : G X d 221 49 [some (.ref 84)] [.int s0] h := by
  unfold R_221_49 at e
  refine k_221_49 (fun c => ?_) (fun c => ?_)
  · rw [if_pos c] at e; exact r_221_56 hd hq e
  · rw [if_neg c] at e; exact r_221_52 hd hq e
noncomputable def R_221_42 (h : Hp) : Option (Int32 × Hp) := bndI (S_214 355278 h) (R_221_49)
theorem r_221_42 {X : GX} {d : Nat} {r : Int32 × Hp} (hd : 2 ≤ d) (hq : RtX X (some (.int r.1)) r.2) {h : Hp} (e : R_221_42 h = some r) : G X d 221 42 [some (.ref 84)] [] h := by
  unfold R_221_42 at e
  obtain ⟨x, h2, e1, e2⟩ := bndI_s e
  refine k_221_42 (by omega) (t_214 e1) ?_
  rintro _ _ ⟨rfl, rfl⟩
  exact r_221_49 hd hq e2
noncomputable def R_221_38 (h : Hp) : Option (Int32 × Hp) := some (2, h)
theorem r_221_38 {X : GX} {d : Nat} {r : Int32 × Hp} (hd : 2 ≤ d) (hq : RtX X (some (.int r.1)) r.2) {h : Hp} (e : R_221_38 h = some r) : G X d 221 38 [none] [] h := by
  unfold R_221_38 at e
  rw [← Option.some.inj e] at hq
  exact k_221_38 hq
noncomputable def R_221_35 (s0 : Int32) (h : Hp) : Option (Int32 × Hp) := if s0 = 0 then R_221_42 h else R_221_38 h
theorem r_221_35 {X : GX} {d : Nat} {r : Int32 × Hp} (hd : 2 ≤ d) (hq : RtX X (some (.int r.1)) r.2) {h : Hp} {s0 : Int32} (e : R_221_35 s0 h = some r) : G X d 221 35 [some (.ref 84)] [.int s0] h := by
  unfold R_221_35 at e
  refine k_221_35 (fun c => ?_) (fun c => ?_)
  · rw [if_pos c] at e; exact r_221_42 hd hq e
  · rw [if_neg c] at e; exact r_221_38 hd hq e
noncomputable def R_221_28 (h : Hp) : Option (Int32 × Hp) := bndI (S_214 239262010 h) (R_221_35)
theorem r_221_28 {X : GX} {d : Nat} {r : Int32 × Hp} (hd : 2 ≤ d) (hq : RtX X (some (.int r.1)) r.2) {h : Hp} (e : R_221_28 h = some r) : G X d 221 28 [some (.ref 84)] [] h := by
  unfold R_221_28 at e
  obtain ⟨x, h2, e1, e2⟩ := bndI_s e
  refine k_221_28 (by omega) (t_214 e1) ?_
  rintro _ _ ⟨rfl, rfl⟩
  exact r_221_35 hd hq e2
noncomputable def R_221_24 (h : Hp) : Option (Int32 × Hp) := some (1, h)
theorem r_221_24 {X : GX} {d : Nat} {r : Int32 × Hp} (hd : 2 ≤ d) (hq : RtX X (some (.int r.1)) r.2) {h : Hp} (e : R_221_24 h = some r) : G X d 221 24 [none] [] h := by
  unfold R_221_24 at e
  rw [← Option.some.inj e] at hq
  exact k_221_24 hq
noncomputable def R_221_21 (s0 : Int32) (h : Hp) : Option (Int32 × Hp) := if s0 = 0 then R_221_28 h else R_221_24 h
theorem r_221_21 {X : GX} {d : Nat} {r : Int32 × Hp} (hd : 2 ≤ d) (hq : RtX X (some (.int r.1)) r.2) {h : Hp} {s0 : Int32} (e : R_221_21 s0 h = some r) : G X d 221 21 [some (.ref 84)] [.int s0] h := by
  unfold R_221_21 at e
  refine k_221_21 (fun c => ?_) (fun c => ?_)
  · rw [if_pos c] at e; exact r_221_28 hd hq e
  · rw [if_neg c] at e; exact r_221_24 hd hq e
noncomputable def R_221_14 (h : Hp) : Option (Int32 × Hp) := bndI (S_214 10998971 h) (R_221_21)
theorem r_221_14 {X : GX} {d : Nat} {r : Int32 × Hp} (hd : 2 ≤ d) (hq : RtX X (some (.int r.1)) r.2) {h : Hp} (e : R_221_14 h = some r) : G X d 221 14 [some (.ref 84)] [] h := by
  unfold R_221_14 at e
  obtain ⟨x, h2, e1, e2⟩ := bndI_s e
  refine k_221_14 (by omega) (t_214 e1) ?_
  rintro _ _ ⟨rfl, rfl⟩
  exact r_221_21 hd hq e2
noncomputable def R_221_10 (h : Hp) : Option (Int32 × Hp) := some (0, h)
theorem r_221_10 {X : GX} {d : Nat} {r : Int32 × Hp} (hd : 2 ≤ d) (hq : RtX X (some (.int r.1)) r.2) {h : Hp} (e : R_221_10 h = some r) : G X d 221 10 [none] [] h := by
  unfold R_221_10 at e
  rw [← Option.some.inj e] at hq
  exact k_221_10 hq
noncomputable def R_221_7 (s0 : Int32) (h : Hp) : Option (Int32 × Hp) := if s0 = 0 then R_221_14 h else R_221_10 h
theorem r_221_7 {X : GX} {d : Nat} {r : Int32 × Hp} (hd : 2 ≤ d) (hq : RtX X (some (.int r.1)) r.2) {h : Hp} {s0 : Int32} (e : R_221_7 s0 h = some r) : G X d 221 7 [some (.ref 84)] [.int s0] h := by
  unfold R_221_7 at e
  refine k_221_7 (fun c => ?_) (fun c => ?_)
  · rw [if_pos c] at e; exact r_221_14 hd hq e
  · rw [if_neg c] at e; exact r_221_10 hd hq e
noncomputable def R_221_0 (h : Hp) : Option (Int32 × Hp) := bndI (S_214 7622660 h) (R_221_7)
theorem r_221_0 {X : GX} {d : Nat} {r : Int32 × Hp} (hd : 2 ≤ d) (hq : RtX X (some (.int r.1)) r.2) {h : Hp} (e : R_221_0 h = some r) : G X d 221 0 [some (.ref 84)] [] h := by
  unfold R_221_0 at e
  obtain ⟨x, h2, e1, e2⟩ := bndI_s e
  refine k_221_0 (by omega) (t_214 e1) ?_
  rintro _ _ ⟨rfl, rfl⟩
  exact r_221_7 hd hq e2
noncomputable def S_221 (h : Hp) : Option (Int32 × Hp) := R_221_0 h
set_option maxRecDepth 100000 in
theorem t_221 {h : Hp} {r : Int32 × Hp} (e : S_221 h = some r) : CI 2 221 [.ref 84] h (fun x g => x = r.1 ∧ g = r.2) := by
  refine C.of mo_221 (Nat.le_of_ble_eq_true rfl) (fun X hq => ?_)
  exact r_221_0 (Nat.le_refl _) (hq _ _ ⟨_, rfl, rfl, rfl⟩) e
/-! 222 PlayedTruthModel.lays(I)V -/
noncomputable def R_222_27 (h : Hp) : Option (Int32 × Hp) := some (0, h)
theorem r_222_27 {X : GX} {d : Nat} {r : Int32 × Hp} (hd : 1 ≤ d) (hq : RtX X none r.2) {h : Hp} (e : R_222_27 h = some r) : G X d 222 27 [none, none] [] h := by
  unfold R_222_27 at e
  rw [← Option.some.inj e] at hq
  exact k_222_27 hq
noncomputable def R_222_7 (v1 : Int32) (h : Hp) : Option (Int32 × Hp) := gd (IA 90 (h 84 15)) (some (0, (wr (wr h 90 (Int32.toNatClampNeg (h 84 15)) v1) 84 15 (((wr h 90 (Int32.toNatClampNeg (h 84 15)) v1) 84 15) + 1))))
theorem r_222_7 {X : GX} {d : Nat} {r : Int32 × Hp} (hd : 1 ≤ d) (hq : RtX X none r.2) {h : Hp} {v1 : Int32} (e : R_222_7 v1 h = some r) : G X d 222 7 [some (.ref 84), some (.int v1)] [] h := by
  unfold R_222_7 at e
  have g := gd_s e; clear e; obtain ⟨b0, e⟩ := g
  rw [← Option.some.inj e] at hq
  exact k_222_7 b0 hq
noncomputable def R_222_0 (v1 : Int32) (h : Hp) : Option (Int32 × Hp) := if (h 84 12) = 0 then R_222_7 v1 h else R_222_27 h
theorem r_222_0 {X : GX} {d : Nat} {r : Int32 × Hp} (hd : 1 ≤ d) (hq : RtX X none r.2) {h : Hp} {v1 : Int32} (e : R_222_0 v1 h = some r) : G X d 222 0 [some (.ref 84), some (.int v1)] [] h := by
  unfold R_222_0 at e
  refine k_222_0 (fun c => ?_) (fun c => ?_)
  · rw [if_neg c] at e; exact r_222_27 hd hq e
  · rw [if_pos c] at e; exact r_222_7 hd hq e
noncomputable def S_222 (v1 : Int32) (h : Hp) : Option (Int32 × Hp) := R_222_0 v1 h
set_option maxRecDepth 100000 in
theorem t_222 {v1 : Int32} {h : Hp} {r : Int32 × Hp} (e : S_222 v1 h = some r) : CV 1 222 [.ref 84, .int v1] h (fun g => g = r.2) := by
  refine C.of mo_222 (Nat.le_of_ble_eq_true rfl) (fun X hq => ?_)
  exact r_222_0 (Nat.le_refl _) (hq _ _ ⟨rfl, rfl⟩) e
/-! 220 PlayedTruthModel.valueHere()V -/
noncomputable def R_220_76 (h : Hp) : Option (Int32 × Hp) := some (0, h)
theorem r_220_76 {X : GX} {d : Nat} {r : Int32 × Hp} (hd : 5 ≤ d) (hq : RtX X none r.2) {h : Hp} (e : R_220_76 h = some r) : G X d 220 76 [none, none, none] [] h := by
  unfold R_220_76 at e
  rw [← Option.some.inj e] at hq
  exact k_220_76 hq
noncomputable def R_220_68 (s0 : Nat) (h : Hp) : Option (Int32 × Hp) := gd (sh s0 = (1, 9) ∧ s0 = 84) (bndV (S_215 1 h) (R_220_76))
theorem r_220_68 {X : GX} {d : Nat} {r : Int32 × Hp} (hd : 5 ≤ d) (hq : RtX X none r.2) {h : Hp} {s0 : Nat} (e : R_220_68 s0 h = some r) : G X d 220 68 [none, none, none] [.ref s0] h := by
  unfold R_220_68 at e
  have g := gd_s e; clear e; obtain ⟨⟨o0, q0⟩, e⟩ := g
  subst q0
  obtain ⟨x, h2, e1, e2⟩ := bndV_s e
  refine k_220_68 o0 (by omega) (t_215 e1) ?_
  rintro _ rfl
  exact r_220_76 hd hq e2
noncomputable def R_220_72 (s0 : Nat) (h : Hp) : Option (Int32 × Hp) := gd (sh s0 = (1, 9) ∧ s0 = 84) (bndV (S_215 0 h) (R_220_76))
theorem r_220_72 {X : GX} {d : Nat} {r : Int32 × Hp} (hd : 5 ≤ d) (hq : RtX X none r.2) {h : Hp} {s0 : Nat} (e : R_220_72 s0 h = some r) : G X d 220 72 [none, none, none] [.ref s0] h := by
  unfold R_220_72 at e
  have g := gd_s e; clear e; obtain ⟨⟨o0, q0⟩, e⟩ := g
  subst q0
  obtain ⟨x, h2, e1, e2⟩ := bndV_s e
  refine k_220_72 o0 (by omega) (t_215 e1) ?_
  rintro _ rfl
  exact r_220_76 hd hq e2
noncomputable def R_220_64 (v2 : Int32) (s0 : Nat) (h : Hp) : Option (Int32 × Hp) := if v2 = 0 then R_220_72 s0 h else R_220_68 s0 h
theorem r_220_64 {X : GX} {d : Nat} {r : Int32 × Hp} (hd : 5 ≤ d) (hq : RtX X none r.2) {h : Hp} {v2 : Int32} {s0 : Nat} (e : R_220_64 v2 s0 h = some r) : G X d 220 64 [none, none, some (.int v2)] [.ref s0] h := by
  unfold R_220_64 at e
  refine k_220_64 (fun c => ?_) (fun c => ?_)
  · rw [if_pos c] at e; exact r_220_72 hd hq e
  · rw [if_neg c] at e; exact r_220_68 hd hq e
noncomputable def R_220_59 (v1 : Int32) (v2 : Int32) (h : Hp) : Option (Int32 × Hp) := if 0 ≤ v1 then R_220_68 84 h else R_220_64 v2 84 h
theorem r_220_59 {X : GX} {d : Nat} {r : Int32 × Hp} (hd : 5 ≤ d) (hq : RtX X none r.2) {h : Hp} {v1 : Int32} {v2 : Int32} (e : R_220_59 v1 v2 h = some r) : G X d 220 59 [some (.ref 84), some (.int v1), some (.int v2)] [] h := by
  unfold R_220_59 at e
  refine k_220_59 (fun c => ?_) (fun c => ?_)
  · rw [if_pos c] at e; exact r_220_68 hd hq e
  · rw [if_neg c] at e; exact r_220_64 hd hq e
noncomputable def R_220_55 (v1 : Int32) (v2 : Int32) (s0 : Nat) (h : Hp) : Option (Int32 × Hp) := gd (sh s0 = (1, 9) ∧ s0 = 84) (bndV (S_222 0 h) (R_220_59 v1 v2))
theorem r_220_55 {X : GX} {d : Nat} {r : Int32 × Hp} (hd : 5 ≤ d) (hq : RtX X none r.2) {h : Hp} {v1 : Int32} {v2 : Int32} {s0 : Nat} (e : R_220_55 v1 v2 s0 h = some r) : G X d 220 55 [some (.ref 84), some (.int v1), some (.int v2)] [.ref s0] h := by
  unfold R_220_55 at e
  have g := gd_s e; clear e; obtain ⟨⟨o0, q0⟩, e⟩ := g
  subst q0
  obtain ⟨x, h2, e1, e2⟩ := bndV_s e
  refine k_220_55 o0 (by omega) (t_222 e1) ?_
  rintro _ rfl
  exact r_220_59 hd hq e2
noncomputable def R_220_47 (v1 : Int32) (v2 : Int32) (s0 : Nat) (h : Hp) : Option (Int32 × Hp) := gd (sh s0 = (1, 9) ∧ s0 = 84) (bndV (S_222 (Int64.toInt32 (rdL (h 84))) h) (R_220_59 v1 v2))
theorem r_220_47 {X : GX} {d : Nat} {r : Int32 × Hp} (hd : 5 ≤ d) (hq : RtX X none r.2) {h : Hp} {v1 : Int32} {v2 : Int32} {s0 : Nat} (e : R_220_47 v1 v2 s0 h = some r) : G X d 220 47 [some (.ref 84), some (.int v1), some (.int v2)] [.ref s0] h := by
  unfold R_220_47 at e
  have g := gd_s e; clear e; obtain ⟨⟨o0, q0⟩, e⟩ := g
  subst q0
  obtain ⟨x, h2, e1, e2⟩ := bndV_s e
  refine k_220_47 o0 (by omega) (t_222 e1) ?_
  rintro _ rfl
  exact r_220_59 hd hq e2
noncomputable def R_220_43 (v1 : Int32) (v2 : Int32) (s0 : Nat) (h : Hp) : Option (Int32 × Hp) := if v2 = 0 then R_220_55 v1 v2 s0 h else R_220_47 v1 v2 s0 h
theorem r_220_43 {X : GX} {d : Nat} {r : Int32 × Hp} (hd : 5 ≤ d) (hq : RtX X none r.2) {h : Hp} {v1 : Int32} {v2 : Int32} {s0 : Nat} (e : R_220_43 v1 v2 s0 h = some r) : G X d 220 43 [some (.ref 84), some (.int v1), some (.int v2)] [.ref s0] h := by
  unfold R_220_43 at e
  refine k_220_43 (fun c => ?_) (fun c => ?_)
  · rw [if_pos c] at e; exact r_220_55 hd hq e
  · rw [if_neg c] at e; exact r_220_47 hd hq e
noncomputable def R_220_35 (v1 : Int32) (v2 : Int32) (s0 : Nat) (h : Hp) : Option (Int32 × Hp) := gd (sh s0 = (1, 9) ∧ s0 = 84) (bndV (S_222 (10000 + v1) h) (R_220_59 v1 v2))
theorem r_220_35 {X : GX} {d : Nat} {r : Int32 × Hp} (hd : 5 ≤ d) (hq : RtX X none r.2) {h : Hp} {v1 : Int32} {v2 : Int32} {s0 : Nat} (e : R_220_35 v1 v2 s0 h = some r) : G X d 220 35 [some (.ref 84), some (.int v1), some (.int v2)] [.ref s0] h := by
  unfold R_220_35 at e
  have g := gd_s e; clear e; obtain ⟨⟨o0, q0⟩, e⟩ := g
  subst q0
  obtain ⟨x, h2, e1, e2⟩ := bndV_s e
  refine k_220_35 o0 (by omega) (t_222 e1) ?_
  rintro _ rfl
  exact r_220_59 hd hq e2
noncomputable def R_220_28 (v1 : Int32) (h : Hp) : Option (Int32 × Hp) := if v1 < 0 then R_220_43 v1 0 84 h else R_220_35 v1 0 84 h
theorem r_220_28 {X : GX} {d : Nat} {r : Int32 × Hp} (hd : 5 ≤ d) (hq : RtX X none r.2) {h : Hp} {v1 : Int32} (e : R_220_28 v1 h = some r) : G X d 220 28 [some (.ref 84), some (.int v1), none] [] h := by
  unfold R_220_28 at e
  refine k_220_28 (fun c => ?_) (fun c => ?_)
  · rw [if_pos c] at e; exact r_220_43 hd hq e
  · rw [if_neg c] at e; exact r_220_35 hd hq e
noncomputable def R_220_24 (v1 : Int32) (h : Hp) : Option (Int32 × Hp) := if v1 < 0 then R_220_43 v1 1 84 h else R_220_35 v1 1 84 h
theorem r_220_24 {X : GX} {d : Nat} {r : Int32 × Hp} (hd : 5 ≤ d) (hq : RtX X none r.2) {h : Hp} {v1 : Int32} (e : R_220_24 v1 h = some r) : G X d 220 24 [some (.ref 84), some (.int v1), none] [] h := by
  unfold R_220_24 at e
  refine k_220_24 (fun c => ?_) (fun c => ?_)
  · rw [if_pos c] at e; exact r_220_43 hd hq e
  · rw [if_neg c] at e; exact r_220_35 hd hq e
noncomputable def R_220_13 (v1 : Int32) (h : Hp) : Option (Int32 × Hp) := if 0 ≤ (lg_cmp (rdL (h 84)) 100000) then R_220_28 v1 h else R_220_24 v1 h
theorem r_220_13 {X : GX} {d : Nat} {r : Int32 × Hp} (hd : 5 ≤ d) (hq : RtX X none r.2) {h : Hp} {v1 : Int32} (e : R_220_13 v1 h = some r) : G X d 220 13 [some (.ref 84), some (.int v1), none] [] h := by
  unfold R_220_13 at e
  refine k_220_13 (fun c => ?_) (fun c => ?_)
  · rw [if_pos c] at e; exact r_220_28 hd hq e
  · rw [if_neg c] at e; exact r_220_24 hd hq e
noncomputable def R_220_4 (s0 : Int32) (h : Hp) : Option (Int32 × Hp) := if (h 84 10) = 2 then R_220_13 s0 h else R_220_28 s0 h
theorem r_220_4 {X : GX} {d : Nat} {r : Int32 × Hp} (hd : 5 ≤ d) (hq : RtX X none r.2) {h : Hp} {s0 : Int32} (e : R_220_4 s0 h = some r) : G X d 220 4 [some (.ref 84), none, none] [.int s0] h := by
  unfold R_220_4 at e
  refine k_220_4 (fun c => ?_) (fun c => ?_)
  · rw [if_neg c] at e; exact r_220_28 hd hq e
  · rw [if_pos c] at e; exact r_220_13 hd hq e
noncomputable def R_220_0 (h : Hp) : Option (Int32 × Hp) := bndI (S_221 h) (R_220_4)
theorem r_220_0 {X : GX} {d : Nat} {r : Int32 × Hp} (hd : 5 ≤ d) (hq : RtX X none r.2) {h : Hp} (e : R_220_0 h = some r) : G X d 220 0 [some (.ref 84), none, none] [] h := by
  unfold R_220_0 at e
  obtain ⟨x, h2, e1, e2⟩ := bndI_s e
  refine k_220_0 (by omega) (t_221 e1) ?_
  rintro _ _ ⟨rfl, rfl⟩
  exact r_220_4 hd hq e2
noncomputable def S_220 (h : Hp) : Option (Int32 × Hp) := R_220_0 h
set_option maxRecDepth 100000 in
theorem t_220 {h : Hp} {r : Int32 × Hp} (e : S_220 h = some r) : CV 5 220 [.ref 84] h (fun g => g = r.2) := by
  refine C.of mo_220 (Nat.le_of_ble_eq_true rfl) (fun X hq => ?_)
  exact r_220_0 (Nat.le_refl _) (hq _ _ ⟨rfl, rfl⟩) e
/-! 216 PlayedTruthModel.either()V -/
noncomputable def R_216_40 (c_216 : Hp → Option (Int32 × Hp)) (c_217 : Hp → Option (Int32 × Hp)) (c_218 : Hp → Option (Int32 × Hp)) (h : Hp) : Option (Int32 × Hp) := some (0, h)
theorem r_216_40 {X : GX} {d : Nat} {r : Int32 × Hp} {c_216 : Hp → Option (Int32 × Hp)} {c_217 : Hp → Option (Int32 × Hp)} {c_218 : Hp → Option (Int32 × Hp)} {dg : Nat} (hd : 6 ≤ d) (hgd : dg < d) (hc_216 : ∀ {h : Hp} {r : Int32 × Hp}, c_216 h = some r → CV dg 216 [.ref 84] h (fun g => g = r.2)) (hc_217 : ∀ {h : Hp} {r : Int32 × Hp}, c_217 h = some r → CV dg 217 [.ref 84] h (fun g => g = r.2)) (hc_218 : ∀ {h : Hp} {r : Int32 × Hp}, c_218 h = some r → CV dg 218 [.ref 84] h (fun g => g = r.2)) (hq : RtX X none r.2) {h : Hp} (e : R_216_40 c_216 c_217 c_218 h = some r) : G X d 216 40 [none] [] h := by
  unfold R_216_40 at e
  rw [← Option.some.inj e] at hq
  exact k_216_40 hq
noncomputable def R_216_37 (c_216 : Hp → Option (Int32 × Hp)) (c_217 : Hp → Option (Int32 × Hp)) (c_218 : Hp → Option (Int32 × Hp)) (rec_12 : Hp → Option (Int32 × Hp)) (h : Hp) : Option (Int32 × Hp) := rec_12 h
theorem r_216_37 {X : GX} {d : Nat} {r : Int32 × Hp} {c_216 : Hp → Option (Int32 × Hp)} {c_217 : Hp → Option (Int32 × Hp)} {c_218 : Hp → Option (Int32 × Hp)} {dg : Nat} (hd : 6 ≤ d) (hgd : dg < d) (hc_216 : ∀ {h : Hp} {r : Int32 × Hp}, c_216 h = some r → CV dg 216 [.ref 84] h (fun g => g = r.2)) (hc_217 : ∀ {h : Hp} {r : Int32 × Hp}, c_217 h = some r → CV dg 217 [.ref 84] h (fun g => g = r.2)) (hc_218 : ∀ {h : Hp} {r : Int32 × Hp}, c_218 h = some r → CV dg 218 [.ref 84] h (fun g => g = r.2)) (hq : RtX X none r.2) {rec_12 : Hp → Option (Int32 × Hp)} (hr_12 : ∀ {h : Hp}, rec_12 h = some r → G X d 216 12 [some (.ref 84)] [] h) {h : Hp} (e : R_216_37 c_216 c_217 c_218 rec_12 h = some r) : G X d 216 37 [some (.ref 84)] [] h := by
  unfold R_216_37 at e
  exact k_216_37 (hr_12 e)
noncomputable def R_216_30 (c_216 : Hp → Option (Int32 × Hp)) (c_217 : Hp → Option (Int32 × Hp)) (c_218 : Hp → Option (Int32 × Hp)) (rec_12 : Hp → Option (Int32 × Hp)) (h : Hp) : Option (Int32 × Hp) := bndV (S_222 20124 h) (R_216_37 c_216 c_217 c_218 rec_12)
theorem r_216_30 {X : GX} {d : Nat} {r : Int32 × Hp} {c_216 : Hp → Option (Int32 × Hp)} {c_217 : Hp → Option (Int32 × Hp)} {c_218 : Hp → Option (Int32 × Hp)} {dg : Nat} (hd : 6 ≤ d) (hgd : dg < d) (hc_216 : ∀ {h : Hp} {r : Int32 × Hp}, c_216 h = some r → CV dg 216 [.ref 84] h (fun g => g = r.2)) (hc_217 : ∀ {h : Hp} {r : Int32 × Hp}, c_217 h = some r → CV dg 217 [.ref 84] h (fun g => g = r.2)) (hc_218 : ∀ {h : Hp} {r : Int32 × Hp}, c_218 h = some r → CV dg 218 [.ref 84] h (fun g => g = r.2)) (hq : RtX X none r.2) {rec_12 : Hp → Option (Int32 × Hp)} (hr_12 : ∀ {h : Hp}, rec_12 h = some r → G X d 216 12 [some (.ref 84)] [] h) {h : Hp} (e : R_216_30 c_216 c_217 c_218 rec_12 h = some r) : G X d 216 30 [some (.ref 84)] [] h := by
  unfold R_216_30 at e
  obtain ⟨x, h2, e1, e2⟩ := bndV_s e
  refine k_216_30 (by omega) (t_222 e1) ?_
  rintro _ rfl
  exact r_216_37 hd hgd hc_216 hc_217 hc_218 hq hr_12 e2
noncomputable def R_216_26 (c_216 : Hp → Option (Int32 × Hp)) (c_217 : Hp → Option (Int32 × Hp)) (c_218 : Hp → Option (Int32 × Hp)) (rec_12 : Hp → Option (Int32 × Hp)) (h : Hp) : Option (Int32 × Hp) := bndV (c_217 h) (R_216_30 c_216 c_217 c_218 rec_12)
theorem r_216_26 {X : GX} {d : Nat} {r : Int32 × Hp} {c_216 : Hp → Option (Int32 × Hp)} {c_217 : Hp → Option (Int32 × Hp)} {c_218 : Hp → Option (Int32 × Hp)} {dg : Nat} (hd : 6 ≤ d) (hgd : dg < d) (hc_216 : ∀ {h : Hp} {r : Int32 × Hp}, c_216 h = some r → CV dg 216 [.ref 84] h (fun g => g = r.2)) (hc_217 : ∀ {h : Hp} {r : Int32 × Hp}, c_217 h = some r → CV dg 217 [.ref 84] h (fun g => g = r.2)) (hc_218 : ∀ {h : Hp} {r : Int32 × Hp}, c_218 h = some r → CV dg 218 [.ref 84] h (fun g => g = r.2)) (hq : RtX X none r.2) {rec_12 : Hp → Option (Int32 × Hp)} (hr_12 : ∀ {h : Hp}, rec_12 h = some r → G X d 216 12 [some (.ref 84)] [] h) {h : Hp} (e : R_216_26 c_216 c_217 c_218 rec_12 h = some r) : G X d 216 26 [some (.ref 84)] [] h := by
  unfold R_216_26 at e
  obtain ⟨x, h2, e1, e2⟩ := bndV_s e
  refine k_216_26 hgd (hc_217 e1) ?_
  rintro _ rfl
  exact r_216_30 hd hgd hc_216 hc_217 hc_218 hq hr_12 e2
noncomputable def R_216_22 (c_216 : Hp → Option (Int32 × Hp)) (c_217 : Hp → Option (Int32 × Hp)) (c_218 : Hp → Option (Int32 × Hp)) (rec_12 : Hp → Option (Int32 × Hp)) (h : Hp) : Option (Int32 × Hp) := bndV (S_210 h) (R_216_26 c_216 c_217 c_218 rec_12)
theorem r_216_22 {X : GX} {d : Nat} {r : Int32 × Hp} {c_216 : Hp → Option (Int32 × Hp)} {c_217 : Hp → Option (Int32 × Hp)} {c_218 : Hp → Option (Int32 × Hp)} {dg : Nat} (hd : 6 ≤ d) (hgd : dg < d) (hc_216 : ∀ {h : Hp} {r : Int32 × Hp}, c_216 h = some r → CV dg 216 [.ref 84] h (fun g => g = r.2)) (hc_217 : ∀ {h : Hp} {r : Int32 × Hp}, c_217 h = some r → CV dg 217 [.ref 84] h (fun g => g = r.2)) (hc_218 : ∀ {h : Hp} {r : Int32 × Hp}, c_218 h = some r → CV dg 218 [.ref 84] h (fun g => g = r.2)) (hq : RtX X none r.2) {rec_12 : Hp → Option (Int32 × Hp)} (hr_12 : ∀ {h : Hp}, rec_12 h = some r → G X d 216 12 [some (.ref 84)] [] h) {h : Hp} (e : R_216_22 c_216 c_217 c_218 rec_12 h = some r) : G X d 216 22 [some (.ref 84)] [] h := by
  unfold R_216_22 at e
  obtain ⟨x, h2, e1, e2⟩ := bndV_s e
  refine k_216_22 (by omega) (t_210 e1) ?_
  rintro _ rfl
  exact r_216_26 hd hgd hc_216 hc_217 hc_218 hq hr_12 e2
noncomputable def R_216_19 (c_216 : Hp → Option (Int32 × Hp)) (c_217 : Hp → Option (Int32 × Hp)) (c_218 : Hp → Option (Int32 × Hp)) (rec_12 : Hp → Option (Int32 × Hp)) (s0 : Int32) (h : Hp) : Option (Int32 × Hp) := if s0 = 0 then R_216_40 c_216 c_217 c_218 h else R_216_22 c_216 c_217 c_218 rec_12 h
theorem r_216_19 {X : GX} {d : Nat} {r : Int32 × Hp} {c_216 : Hp → Option (Int32 × Hp)} {c_217 : Hp → Option (Int32 × Hp)} {c_218 : Hp → Option (Int32 × Hp)} {dg : Nat} (hd : 6 ≤ d) (hgd : dg < d) (hc_216 : ∀ {h : Hp} {r : Int32 × Hp}, c_216 h = some r → CV dg 216 [.ref 84] h (fun g => g = r.2)) (hc_217 : ∀ {h : Hp} {r : Int32 × Hp}, c_217 h = some r → CV dg 217 [.ref 84] h (fun g => g = r.2)) (hc_218 : ∀ {h : Hp} {r : Int32 × Hp}, c_218 h = some r → CV dg 218 [.ref 84] h (fun g => g = r.2)) (hq : RtX X none r.2) {rec_12 : Hp → Option (Int32 × Hp)} (hr_12 : ∀ {h : Hp}, rec_12 h = some r → G X d 216 12 [some (.ref 84)] [] h) {h : Hp} {s0 : Int32} (e : R_216_19 c_216 c_217 c_218 rec_12 s0 h = some r) : G X d 216 19 [some (.ref 84)] [.int s0] h := by
  unfold R_216_19 at e
  refine k_216_19 (fun c => ?_) (fun c => ?_)
  · rw [if_pos c] at e; exact r_216_40 hd hgd hc_216 hc_217 hc_218 hq e
  · rw [if_neg c] at e; exact r_216_22 hd hgd hc_216 hc_217 hc_218 hq hr_12 e
noncomputable def R_216_12 (c_216 : Hp → Option (Int32 × Hp)) (c_217 : Hp → Option (Int32 × Hp)) (c_218 : Hp → Option (Int32 × Hp)) (rec_12 : Hp → Option (Int32 × Hp)) (h : Hp) : Option (Int32 × Hp) := bndI (S_214 423 h) (R_216_19 c_216 c_217 c_218 rec_12)
theorem r_216_12 {X : GX} {d : Nat} {r : Int32 × Hp} {c_216 : Hp → Option (Int32 × Hp)} {c_217 : Hp → Option (Int32 × Hp)} {c_218 : Hp → Option (Int32 × Hp)} {dg : Nat} (hd : 6 ≤ d) (hgd : dg < d) (hc_216 : ∀ {h : Hp} {r : Int32 × Hp}, c_216 h = some r → CV dg 216 [.ref 84] h (fun g => g = r.2)) (hc_217 : ∀ {h : Hp} {r : Int32 × Hp}, c_217 h = some r → CV dg 217 [.ref 84] h (fun g => g = r.2)) (hc_218 : ∀ {h : Hp} {r : Int32 × Hp}, c_218 h = some r → CV dg 218 [.ref 84] h (fun g => g = r.2)) (hq : RtX X none r.2) {rec_12 : Hp → Option (Int32 × Hp)} (hr_12 : ∀ {h : Hp}, rec_12 h = some r → G X d 216 12 [some (.ref 84)] [] h) {h : Hp} (e : R_216_12 c_216 c_217 c_218 rec_12 h = some r) : G X d 216 12 [some (.ref 84)] [] h := by
  unfold R_216_12 at e
  obtain ⟨x, h2, e1, e2⟩ := bndI_s e
  refine k_216_12 (by omega) (t_214 e1) ?_
  rintro _ _ ⟨rfl, rfl⟩
  exact r_216_19 hd hgd hc_216 hc_217 hc_218 hq hr_12 e2
noncomputable def H_216_12 (c_216 : Hp → Option (Int32 × Hp)) (c_217 : Hp → Option (Int32 × Hp)) (c_218 : Hp → Option (Int32 × Hp)) : Nat → Hp → Option (Int32 × Hp)
  | 0, _ => none
  | n + 1, h => R_216_12 c_216 c_217 c_218 (H_216_12 c_216 c_217 c_218 n) h
theorem h_216_12 {X : GX} {d : Nat} {r : Int32 × Hp} {c_216 : Hp → Option (Int32 × Hp)} {c_217 : Hp → Option (Int32 × Hp)} {c_218 : Hp → Option (Int32 × Hp)} {dg : Nat} (hd : 6 ≤ d) (hgd : dg < d) (hc_216 : ∀ {h : Hp} {r : Int32 × Hp}, c_216 h = some r → CV dg 216 [.ref 84] h (fun g => g = r.2)) (hc_217 : ∀ {h : Hp} {r : Int32 × Hp}, c_217 h = some r → CV dg 217 [.ref 84] h (fun g => g = r.2)) (hc_218 : ∀ {h : Hp} {r : Int32 × Hp}, c_218 h = some r → CV dg 218 [.ref 84] h (fun g => g = r.2)) (hq : RtX X none r.2) {n : Nat} {h : Hp} (e : H_216_12 c_216 c_217 c_218 n h = some r) : G X d 216 12 [some (.ref 84)] [] h := by
  induction n generalizing h with
  | zero => cases e
  | succ n ih => exact r_216_12 hd hgd hc_216 hc_217 hc_218 hq (fun e => ih e) e
noncomputable def R_216_8 (c_216 : Hp → Option (Int32 × Hp)) (c_217 : Hp → Option (Int32 × Hp)) (c_218 : Hp → Option (Int32 × Hp)) (h : Hp) : Option (Int32 × Hp) := bndV (c_217 h) (H_216_12 c_216 c_217 c_218 fuL)
theorem r_216_8 {X : GX} {d : Nat} {r : Int32 × Hp} {c_216 : Hp → Option (Int32 × Hp)} {c_217 : Hp → Option (Int32 × Hp)} {c_218 : Hp → Option (Int32 × Hp)} {dg : Nat} (hd : 6 ≤ d) (hgd : dg < d) (hc_216 : ∀ {h : Hp} {r : Int32 × Hp}, c_216 h = some r → CV dg 216 [.ref 84] h (fun g => g = r.2)) (hc_217 : ∀ {h : Hp} {r : Int32 × Hp}, c_217 h = some r → CV dg 217 [.ref 84] h (fun g => g = r.2)) (hc_218 : ∀ {h : Hp} {r : Int32 × Hp}, c_218 h = some r → CV dg 218 [.ref 84] h (fun g => g = r.2)) (hq : RtX X none r.2) {h : Hp} (e : R_216_8 c_216 c_217 c_218 h = some r) : G X d 216 8 [some (.ref 84)] [] h := by
  unfold R_216_8 at e
  obtain ⟨x, h2, e1, e2⟩ := bndV_s e
  refine k_216_8 hgd (hc_217 e1) ?_
  rintro _ rfl
  exact h_216_12 hd hgd hc_216 hc_217 hc_218 hq e2
noncomputable def R_216_7 (c_216 : Hp → Option (Int32 × Hp)) (c_217 : Hp → Option (Int32 × Hp)) (c_218 : Hp → Option (Int32 × Hp)) (h : Hp) : Option (Int32 × Hp) := some (0, h)
theorem r_216_7 {X : GX} {d : Nat} {r : Int32 × Hp} {c_216 : Hp → Option (Int32 × Hp)} {c_217 : Hp → Option (Int32 × Hp)} {c_218 : Hp → Option (Int32 × Hp)} {dg : Nat} (hd : 6 ≤ d) (hgd : dg < d) (hc_216 : ∀ {h : Hp} {r : Int32 × Hp}, c_216 h = some r → CV dg 216 [.ref 84] h (fun g => g = r.2)) (hc_217 : ∀ {h : Hp} {r : Int32 × Hp}, c_217 h = some r → CV dg 217 [.ref 84] h (fun g => g = r.2)) (hc_218 : ∀ {h : Hp} {r : Int32 × Hp}, c_218 h = some r → CV dg 218 [.ref 84] h (fun g => g = r.2)) (hq : RtX X none r.2) {h : Hp} (e : R_216_7 c_216 c_217 c_218 h = some r) : G X d 216 7 [none] [] h := by
  unfold R_216_7 at e
  rw [← Option.some.inj e] at hq
  exact k_216_7 hq
noncomputable def R_216_0 (c_216 : Hp → Option (Int32 × Hp)) (c_217 : Hp → Option (Int32 × Hp)) (c_218 : Hp → Option (Int32 × Hp)) (h : Hp) : Option (Int32 × Hp) := if (h 84 12) = 0 then R_216_8 c_216 c_217 c_218 h else R_216_7 c_216 c_217 c_218 h
theorem r_216_0 {X : GX} {d : Nat} {r : Int32 × Hp} {c_216 : Hp → Option (Int32 × Hp)} {c_217 : Hp → Option (Int32 × Hp)} {c_218 : Hp → Option (Int32 × Hp)} {dg : Nat} (hd : 6 ≤ d) (hgd : dg < d) (hc_216 : ∀ {h : Hp} {r : Int32 × Hp}, c_216 h = some r → CV dg 216 [.ref 84] h (fun g => g = r.2)) (hc_217 : ∀ {h : Hp} {r : Int32 × Hp}, c_217 h = some r → CV dg 217 [.ref 84] h (fun g => g = r.2)) (hc_218 : ∀ {h : Hp} {r : Int32 × Hp}, c_218 h = some r → CV dg 218 [.ref 84] h (fun g => g = r.2)) (hq : RtX X none r.2) {h : Hp} (e : R_216_0 c_216 c_217 c_218 h = some r) : G X d 216 0 [some (.ref 84)] [] h := by
  unfold R_216_0 at e
  refine k_216_0 (fun c => ?_) (fun c => ?_)
  · rw [if_pos c] at e; exact r_216_8 hd hgd hc_216 hc_217 hc_218 hq e
  · rw [if_neg c] at e; exact r_216_7 hd hgd hc_216 hc_217 hc_218 hq e
/-! 217 PlayedTruthModel.both()V -/
noncomputable def R_217_32 (c_216 : Hp → Option (Int32 × Hp)) (c_217 : Hp → Option (Int32 × Hp)) (c_218 : Hp → Option (Int32 × Hp)) (h : Hp) : Option (Int32 × Hp) := some (0, h)
theorem r_217_32 {X : GX} {d : Nat} {r : Int32 × Hp} {c_216 : Hp → Option (Int32 × Hp)} {c_217 : Hp → Option (Int32 × Hp)} {c_218 : Hp → Option (Int32 × Hp)} {dg : Nat} (hd : 6 ≤ d) (hgd : dg < d) (hc_216 : ∀ {h : Hp} {r : Int32 × Hp}, c_216 h = some r → CV dg 216 [.ref 84] h (fun g => g = r.2)) (hc_217 : ∀ {h : Hp} {r : Int32 × Hp}, c_217 h = some r → CV dg 217 [.ref 84] h (fun g => g = r.2)) (hc_218 : ∀ {h : Hp} {r : Int32 × Hp}, c_218 h = some r → CV dg 218 [.ref 84] h (fun g => g = r.2)) (hq : RtX X none r.2) {h : Hp} (e : R_217_32 c_216 c_217 c_218 h = some r) : G X d 217 32 [none] [] h := by
  unfold R_217_32 at e
  rw [← Option.some.inj e] at hq
  exact k_217_32 hq
noncomputable def R_217_29 (c_216 : Hp → Option (Int32 × Hp)) (c_217 : Hp → Option (Int32 × Hp)) (c_218 : Hp → Option (Int32 × Hp)) (rec_4 : Hp → Option (Int32 × Hp)) (h : Hp) : Option (Int32 × Hp) := rec_4 h
theorem r_217_29 {X : GX} {d : Nat} {r : Int32 × Hp} {c_216 : Hp → Option (Int32 × Hp)} {c_217 : Hp → Option (Int32 × Hp)} {c_218 : Hp → Option (Int32 × Hp)} {dg : Nat} (hd : 6 ≤ d) (hgd : dg < d) (hc_216 : ∀ {h : Hp} {r : Int32 × Hp}, c_216 h = some r → CV dg 216 [.ref 84] h (fun g => g = r.2)) (hc_217 : ∀ {h : Hp} {r : Int32 × Hp}, c_217 h = some r → CV dg 217 [.ref 84] h (fun g => g = r.2)) (hc_218 : ∀ {h : Hp} {r : Int32 × Hp}, c_218 h = some r → CV dg 218 [.ref 84] h (fun g => g = r.2)) (hq : RtX X none r.2) {rec_4 : Hp → Option (Int32 × Hp)} (hr_4 : ∀ {h : Hp}, rec_4 h = some r → G X d 217 4 [some (.ref 84)] [] h) {h : Hp} (e : R_217_29 c_216 c_217 c_218 rec_4 h = some r) : G X d 217 29 [some (.ref 84)] [] h := by
  unfold R_217_29 at e
  exact k_217_29 (hr_4 e)
noncomputable def R_217_22 (c_216 : Hp → Option (Int32 × Hp)) (c_217 : Hp → Option (Int32 × Hp)) (c_218 : Hp → Option (Int32 × Hp)) (rec_4 : Hp → Option (Int32 × Hp)) (h : Hp) : Option (Int32 × Hp) := bndV (S_222 20038 h) (R_217_29 c_216 c_217 c_218 rec_4)
theorem r_217_22 {X : GX} {d : Nat} {r : Int32 × Hp} {c_216 : Hp → Option (Int32 × Hp)} {c_217 : Hp → Option (Int32 × Hp)} {c_218 : Hp → Option (Int32 × Hp)} {dg : Nat} (hd : 6 ≤ d) (hgd : dg < d) (hc_216 : ∀ {h : Hp} {r : Int32 × Hp}, c_216 h = some r → CV dg 216 [.ref 84] h (fun g => g = r.2)) (hc_217 : ∀ {h : Hp} {r : Int32 × Hp}, c_217 h = some r → CV dg 217 [.ref 84] h (fun g => g = r.2)) (hc_218 : ∀ {h : Hp} {r : Int32 × Hp}, c_218 h = some r → CV dg 218 [.ref 84] h (fun g => g = r.2)) (hq : RtX X none r.2) {rec_4 : Hp → Option (Int32 × Hp)} (hr_4 : ∀ {h : Hp}, rec_4 h = some r → G X d 217 4 [some (.ref 84)] [] h) {h : Hp} (e : R_217_22 c_216 c_217 c_218 rec_4 h = some r) : G X d 217 22 [some (.ref 84)] [] h := by
  unfold R_217_22 at e
  obtain ⟨x, h2, e1, e2⟩ := bndV_s e
  refine k_217_22 (by omega) (t_222 e1) ?_
  rintro _ rfl
  exact r_217_29 hd hgd hc_216 hc_217 hc_218 hq hr_4 e2
noncomputable def R_217_18 (c_216 : Hp → Option (Int32 × Hp)) (c_217 : Hp → Option (Int32 × Hp)) (c_218 : Hp → Option (Int32 × Hp)) (rec_4 : Hp → Option (Int32 × Hp)) (h : Hp) : Option (Int32 × Hp) := bndV (c_218 h) (R_217_22 c_216 c_217 c_218 rec_4)
theorem r_217_18 {X : GX} {d : Nat} {r : Int32 × Hp} {c_216 : Hp → Option (Int32 × Hp)} {c_217 : Hp → Option (Int32 × Hp)} {c_218 : Hp → Option (Int32 × Hp)} {dg : Nat} (hd : 6 ≤ d) (hgd : dg < d) (hc_216 : ∀ {h : Hp} {r : Int32 × Hp}, c_216 h = some r → CV dg 216 [.ref 84] h (fun g => g = r.2)) (hc_217 : ∀ {h : Hp} {r : Int32 × Hp}, c_217 h = some r → CV dg 217 [.ref 84] h (fun g => g = r.2)) (hc_218 : ∀ {h : Hp} {r : Int32 × Hp}, c_218 h = some r → CV dg 218 [.ref 84] h (fun g => g = r.2)) (hq : RtX X none r.2) {rec_4 : Hp → Option (Int32 × Hp)} (hr_4 : ∀ {h : Hp}, rec_4 h = some r → G X d 217 4 [some (.ref 84)] [] h) {h : Hp} (e : R_217_18 c_216 c_217 c_218 rec_4 h = some r) : G X d 217 18 [some (.ref 84)] [] h := by
  unfold R_217_18 at e
  obtain ⟨x, h2, e1, e2⟩ := bndV_s e
  refine k_217_18 hgd (hc_218 e1) ?_
  rintro _ rfl
  exact r_217_22 hd hgd hc_216 hc_217 hc_218 hq hr_4 e2
noncomputable def R_217_14 (c_216 : Hp → Option (Int32 × Hp)) (c_217 : Hp → Option (Int32 × Hp)) (c_218 : Hp → Option (Int32 × Hp)) (rec_4 : Hp → Option (Int32 × Hp)) (h : Hp) : Option (Int32 × Hp) := bndV (S_210 h) (R_217_18 c_216 c_217 c_218 rec_4)
theorem r_217_14 {X : GX} {d : Nat} {r : Int32 × Hp} {c_216 : Hp → Option (Int32 × Hp)} {c_217 : Hp → Option (Int32 × Hp)} {c_218 : Hp → Option (Int32 × Hp)} {dg : Nat} (hd : 6 ≤ d) (hgd : dg < d) (hc_216 : ∀ {h : Hp} {r : Int32 × Hp}, c_216 h = some r → CV dg 216 [.ref 84] h (fun g => g = r.2)) (hc_217 : ∀ {h : Hp} {r : Int32 × Hp}, c_217 h = some r → CV dg 217 [.ref 84] h (fun g => g = r.2)) (hc_218 : ∀ {h : Hp} {r : Int32 × Hp}, c_218 h = some r → CV dg 218 [.ref 84] h (fun g => g = r.2)) (hq : RtX X none r.2) {rec_4 : Hp → Option (Int32 × Hp)} (hr_4 : ∀ {h : Hp}, rec_4 h = some r → G X d 217 4 [some (.ref 84)] [] h) {h : Hp} (e : R_217_14 c_216 c_217 c_218 rec_4 h = some r) : G X d 217 14 [some (.ref 84)] [] h := by
  unfold R_217_14 at e
  obtain ⟨x, h2, e1, e2⟩ := bndV_s e
  refine k_217_14 (by omega) (t_210 e1) ?_
  rintro _ rfl
  exact r_217_18 hd hgd hc_216 hc_217 hc_218 hq hr_4 e2
noncomputable def R_217_11 (c_216 : Hp → Option (Int32 × Hp)) (c_217 : Hp → Option (Int32 × Hp)) (c_218 : Hp → Option (Int32 × Hp)) (rec_4 : Hp → Option (Int32 × Hp)) (s0 : Int32) (h : Hp) : Option (Int32 × Hp) := if s0 = 0 then R_217_32 c_216 c_217 c_218 h else R_217_14 c_216 c_217 c_218 rec_4 h
theorem r_217_11 {X : GX} {d : Nat} {r : Int32 × Hp} {c_216 : Hp → Option (Int32 × Hp)} {c_217 : Hp → Option (Int32 × Hp)} {c_218 : Hp → Option (Int32 × Hp)} {dg : Nat} (hd : 6 ≤ d) (hgd : dg < d) (hc_216 : ∀ {h : Hp} {r : Int32 × Hp}, c_216 h = some r → CV dg 216 [.ref 84] h (fun g => g = r.2)) (hc_217 : ∀ {h : Hp} {r : Int32 × Hp}, c_217 h = some r → CV dg 217 [.ref 84] h (fun g => g = r.2)) (hc_218 : ∀ {h : Hp} {r : Int32 × Hp}, c_218 h = some r → CV dg 218 [.ref 84] h (fun g => g = r.2)) (hq : RtX X none r.2) {rec_4 : Hp → Option (Int32 × Hp)} (hr_4 : ∀ {h : Hp}, rec_4 h = some r → G X d 217 4 [some (.ref 84)] [] h) {h : Hp} {s0 : Int32} (e : R_217_11 c_216 c_217 c_218 rec_4 s0 h = some r) : G X d 217 11 [some (.ref 84)] [.int s0] h := by
  unfold R_217_11 at e
  refine k_217_11 (fun c => ?_) (fun c => ?_)
  · rw [if_pos c] at e; exact r_217_32 hd hgd hc_216 hc_217 hc_218 hq e
  · rw [if_neg c] at e; exact r_217_14 hd hgd hc_216 hc_217 hc_218 hq hr_4 e
noncomputable def R_217_4 (c_216 : Hp → Option (Int32 × Hp)) (c_217 : Hp → Option (Int32 × Hp)) (c_218 : Hp → Option (Int32 × Hp)) (rec_4 : Hp → Option (Int32 × Hp)) (h : Hp) : Option (Int32 × Hp) := bndI (S_214 1111 h) (R_217_11 c_216 c_217 c_218 rec_4)
theorem r_217_4 {X : GX} {d : Nat} {r : Int32 × Hp} {c_216 : Hp → Option (Int32 × Hp)} {c_217 : Hp → Option (Int32 × Hp)} {c_218 : Hp → Option (Int32 × Hp)} {dg : Nat} (hd : 6 ≤ d) (hgd : dg < d) (hc_216 : ∀ {h : Hp} {r : Int32 × Hp}, c_216 h = some r → CV dg 216 [.ref 84] h (fun g => g = r.2)) (hc_217 : ∀ {h : Hp} {r : Int32 × Hp}, c_217 h = some r → CV dg 217 [.ref 84] h (fun g => g = r.2)) (hc_218 : ∀ {h : Hp} {r : Int32 × Hp}, c_218 h = some r → CV dg 218 [.ref 84] h (fun g => g = r.2)) (hq : RtX X none r.2) {rec_4 : Hp → Option (Int32 × Hp)} (hr_4 : ∀ {h : Hp}, rec_4 h = some r → G X d 217 4 [some (.ref 84)] [] h) {h : Hp} (e : R_217_4 c_216 c_217 c_218 rec_4 h = some r) : G X d 217 4 [some (.ref 84)] [] h := by
  unfold R_217_4 at e
  obtain ⟨x, h2, e1, e2⟩ := bndI_s e
  refine k_217_4 (by omega) (t_214 e1) ?_
  rintro _ _ ⟨rfl, rfl⟩
  exact r_217_11 hd hgd hc_216 hc_217 hc_218 hq hr_4 e2
noncomputable def H_217_4 (c_216 : Hp → Option (Int32 × Hp)) (c_217 : Hp → Option (Int32 × Hp)) (c_218 : Hp → Option (Int32 × Hp)) : Nat → Hp → Option (Int32 × Hp)
  | 0, _ => none
  | n + 1, h => R_217_4 c_216 c_217 c_218 (H_217_4 c_216 c_217 c_218 n) h
theorem h_217_4 {X : GX} {d : Nat} {r : Int32 × Hp} {c_216 : Hp → Option (Int32 × Hp)} {c_217 : Hp → Option (Int32 × Hp)} {c_218 : Hp → Option (Int32 × Hp)} {dg : Nat} (hd : 6 ≤ d) (hgd : dg < d) (hc_216 : ∀ {h : Hp} {r : Int32 × Hp}, c_216 h = some r → CV dg 216 [.ref 84] h (fun g => g = r.2)) (hc_217 : ∀ {h : Hp} {r : Int32 × Hp}, c_217 h = some r → CV dg 217 [.ref 84] h (fun g => g = r.2)) (hc_218 : ∀ {h : Hp} {r : Int32 × Hp}, c_218 h = some r → CV dg 218 [.ref 84] h (fun g => g = r.2)) (hq : RtX X none r.2) {n : Nat} {h : Hp} (e : H_217_4 c_216 c_217 c_218 n h = some r) : G X d 217 4 [some (.ref 84)] [] h := by
  induction n generalizing h with
  | zero => cases e
  | succ n ih => exact r_217_4 hd hgd hc_216 hc_217 hc_218 hq (fun e => ih e) e
noncomputable def R_217_0 (c_216 : Hp → Option (Int32 × Hp)) (c_217 : Hp → Option (Int32 × Hp)) (c_218 : Hp → Option (Int32 × Hp)) (h : Hp) : Option (Int32 × Hp) := bndV (c_218 h) (H_217_4 c_216 c_217 c_218 fuL)
theorem r_217_0 {X : GX} {d : Nat} {r : Int32 × Hp} {c_216 : Hp → Option (Int32 × Hp)} {c_217 : Hp → Option (Int32 × Hp)} {c_218 : Hp → Option (Int32 × Hp)} {dg : Nat} (hd : 6 ≤ d) (hgd : dg < d) (hc_216 : ∀ {h : Hp} {r : Int32 × Hp}, c_216 h = some r → CV dg 216 [.ref 84] h (fun g => g = r.2)) (hc_217 : ∀ {h : Hp} {r : Int32 × Hp}, c_217 h = some r → CV dg 217 [.ref 84] h (fun g => g = r.2)) (hc_218 : ∀ {h : Hp} {r : Int32 × Hp}, c_218 h = some r → CV dg 218 [.ref 84] h (fun g => g = r.2)) (hq : RtX X none r.2) {h : Hp} (e : R_217_0 c_216 c_217 c_218 h = some r) : G X d 217 0 [some (.ref 84)] [] h := by
  unfold R_217_0 at e
  obtain ⟨x, h2, e1, e2⟩ := bndV_s e
  refine k_217_0 hgd (hc_218 e1) ?_
  rintro _ rfl
  exact h_217_4 hd hgd hc_216 hc_217 hc_218 hq e2
/-! 218 PlayedTruthModel.one()V -/
noncomputable def R_218_164 (c_216 : Hp → Option (Int32 × Hp)) (c_217 : Hp → Option (Int32 × Hp)) (c_218 : Hp → Option (Int32 × Hp)) (h : Hp) : Option (Int32 × Hp) := some (0, h)
theorem r_218_164 {X : GX} {d : Nat} {r : Int32 × Hp} {c_216 : Hp → Option (Int32 × Hp)} {c_217 : Hp → Option (Int32 × Hp)} {c_218 : Hp → Option (Int32 × Hp)} {dg : Nat} (hd : 6 ≤ d) (hgd : dg < d) (hc_216 : ∀ {h : Hp} {r : Int32 × Hp}, c_216 h = some r → CV dg 216 [.ref 84] h (fun g => g = r.2)) (hc_217 : ∀ {h : Hp} {r : Int32 × Hp}, c_217 h = some r → CV dg 217 [.ref 84] h (fun g => g = r.2)) (hc_218 : ∀ {h : Hp} {r : Int32 × Hp}, c_218 h = some r → CV dg 218 [.ref 84] h (fun g => g = r.2)) (hq : RtX X none r.2) {h : Hp} (e : R_218_164 c_216 c_217 c_218 h = some r) : G X d 218 164 [none, none, none] [] h := by
  unfold R_218_164 at e
  rw [← Option.some.inj e] at hq
  exact k_218_164 hq
noncomputable def R_218_158 (c_216 : Hp → Option (Int32 × Hp)) (c_217 : Hp → Option (Int32 × Hp)) (c_218 : Hp → Option (Int32 × Hp)) (rec_146 : Int32 → Int32 → Hp → Option (Int32 × Hp)) (v1 : Int32) (v2 : Int32) (h : Hp) : Option (Int32 × Hp) := rec_146 v1 (v2 + 1) h
theorem r_218_158 {X : GX} {d : Nat} {r : Int32 × Hp} {c_216 : Hp → Option (Int32 × Hp)} {c_217 : Hp → Option (Int32 × Hp)} {c_218 : Hp → Option (Int32 × Hp)} {dg : Nat} (hd : 6 ≤ d) (hgd : dg < d) (hc_216 : ∀ {h : Hp} {r : Int32 × Hp}, c_216 h = some r → CV dg 216 [.ref 84] h (fun g => g = r.2)) (hc_217 : ∀ {h : Hp} {r : Int32 × Hp}, c_217 h = some r → CV dg 217 [.ref 84] h (fun g => g = r.2)) (hc_218 : ∀ {h : Hp} {r : Int32 × Hp}, c_218 h = some r → CV dg 218 [.ref 84] h (fun g => g = r.2)) (hq : RtX X none r.2) {rec_146 : Int32 → Int32 → Hp → Option (Int32 × Hp)} (hr_146 : ∀ {v1 : Int32} {v2 : Int32} {h : Hp}, rec_146 v1 v2 h = some r → G X d 218 146 [some (.ref 84), some (.int v1), some (.int v2)] [] h) {h : Hp} {v1 : Int32} {v2 : Int32} (e : R_218_158 c_216 c_217 c_218 rec_146 v1 v2 h = some r) : G X d 218 158 [some (.ref 84), some (.int v1), some (.int v2)] [] h := by
  unfold R_218_158 at e
  exact k_218_158 (hr_146 e)
noncomputable def R_218_151 (c_216 : Hp → Option (Int32 × Hp)) (c_217 : Hp → Option (Int32 × Hp)) (c_218 : Hp → Option (Int32 × Hp)) (rec_146 : Int32 → Int32 → Hp → Option (Int32 × Hp)) (v1 : Int32) (v2 : Int32) (h : Hp) : Option (Int32 × Hp) := bndV (S_222 20033 h) (R_218_158 c_216 c_217 c_218 rec_146 v1 v2)
theorem r_218_151 {X : GX} {d : Nat} {r : Int32 × Hp} {c_216 : Hp → Option (Int32 × Hp)} {c_217 : Hp → Option (Int32 × Hp)} {c_218 : Hp → Option (Int32 × Hp)} {dg : Nat} (hd : 6 ≤ d) (hgd : dg < d) (hc_216 : ∀ {h : Hp} {r : Int32 × Hp}, c_216 h = some r → CV dg 216 [.ref 84] h (fun g => g = r.2)) (hc_217 : ∀ {h : Hp} {r : Int32 × Hp}, c_217 h = some r → CV dg 217 [.ref 84] h (fun g => g = r.2)) (hc_218 : ∀ {h : Hp} {r : Int32 × Hp}, c_218 h = some r → CV dg 218 [.ref 84] h (fun g => g = r.2)) (hq : RtX X none r.2) {rec_146 : Int32 → Int32 → Hp → Option (Int32 × Hp)} (hr_146 : ∀ {v1 : Int32} {v2 : Int32} {h : Hp}, rec_146 v1 v2 h = some r → G X d 218 146 [some (.ref 84), some (.int v1), some (.int v2)] [] h) {h : Hp} {v1 : Int32} {v2 : Int32} (e : R_218_151 c_216 c_217 c_218 rec_146 v1 v2 h = some r) : G X d 218 151 [some (.ref 84), some (.int v1), some (.int v2)] [] h := by
  unfold R_218_151 at e
  obtain ⟨x, h2, e1, e2⟩ := bndV_s e
  refine k_218_151 (by omega) (t_222 e1) ?_
  rintro _ rfl
  exact r_218_158 hd hgd hc_216 hc_217 hc_218 hq hr_146 e2
noncomputable def R_218_146 (c_216 : Hp → Option (Int32 × Hp)) (c_217 : Hp → Option (Int32 × Hp)) (c_218 : Hp → Option (Int32 × Hp)) (rec_146 : Int32 → Int32 → Hp → Option (Int32 × Hp)) (v1 : Int32) (v2 : Int32) (h : Hp) : Option (Int32 × Hp) := if v1 ≤ v2 then R_218_164 c_216 c_217 c_218 h else R_218_151 c_216 c_217 c_218 rec_146 v1 v2 h
theorem r_218_146 {X : GX} {d : Nat} {r : Int32 × Hp} {c_216 : Hp → Option (Int32 × Hp)} {c_217 : Hp → Option (Int32 × Hp)} {c_218 : Hp → Option (Int32 × Hp)} {dg : Nat} (hd : 6 ≤ d) (hgd : dg < d) (hc_216 : ∀ {h : Hp} {r : Int32 × Hp}, c_216 h = some r → CV dg 216 [.ref 84] h (fun g => g = r.2)) (hc_217 : ∀ {h : Hp} {r : Int32 × Hp}, c_217 h = some r → CV dg 217 [.ref 84] h (fun g => g = r.2)) (hc_218 : ∀ {h : Hp} {r : Int32 × Hp}, c_218 h = some r → CV dg 218 [.ref 84] h (fun g => g = r.2)) (hq : RtX X none r.2) {rec_146 : Int32 → Int32 → Hp → Option (Int32 × Hp)} (hr_146 : ∀ {v1 : Int32} {v2 : Int32} {h : Hp}, rec_146 v1 v2 h = some r → G X d 218 146 [some (.ref 84), some (.int v1), some (.int v2)] [] h) {h : Hp} {v1 : Int32} {v2 : Int32} (e : R_218_146 c_216 c_217 c_218 rec_146 v1 v2 h = some r) : G X d 218 146 [some (.ref 84), some (.int v1), some (.int v2)] [] h := by
  unfold R_218_146 at e
  refine k_218_146 (fun c => ?_) (fun c => ?_)
  · rw [if_pos c] at e; exact r_218_164 hd hgd hc_216 hc_217 hc_218 hq e
  · rw [if_neg c] at e; exact r_218_151 hd hgd hc_216 hc_217 hc_218 hq hr_146 e
noncomputable def H_218_146 (c_216 : Hp → Option (Int32 × Hp)) (c_217 : Hp → Option (Int32 × Hp)) (c_218 : Hp → Option (Int32 × Hp)) : Nat → Int32 → Int32 → Hp → Option (Int32 × Hp)
  | 0, _, _, _ => none
  | n + 1, v1, v2, h => R_218_146 c_216 c_217 c_218 (H_218_146 c_216 c_217 c_218 n) v1 v2 h
theorem h_218_146 {X : GX} {d : Nat} {r : Int32 × Hp} {c_216 : Hp → Option (Int32 × Hp)} {c_217 : Hp → Option (Int32 × Hp)} {c_218 : Hp → Option (Int32 × Hp)} {dg : Nat} (hd : 6 ≤ d) (hgd : dg < d) (hc_216 : ∀ {h : Hp} {r : Int32 × Hp}, c_216 h = some r → CV dg 216 [.ref 84] h (fun g => g = r.2)) (hc_217 : ∀ {h : Hp} {r : Int32 × Hp}, c_217 h = some r → CV dg 217 [.ref 84] h (fun g => g = r.2)) (hc_218 : ∀ {h : Hp} {r : Int32 × Hp}, c_218 h = some r → CV dg 218 [.ref 84] h (fun g => g = r.2)) (hq : RtX X none r.2) {n : Nat} {h : Hp} {v1 : Int32} {v2 : Int32} (e : H_218_146 c_216 c_217 c_218 n v1 v2 h = some r) : G X d 218 146 [some (.ref 84), some (.int v1), some (.int v2)] [] h := by
  induction n generalizing v1 v2 h with
  | zero => cases e
  | succ n ih => exact r_218_146 hd hgd hc_216 hc_217 hc_218 hq (fun e => ih e) e
noncomputable def R_218_144 (c_216 : Hp → Option (Int32 × Hp)) (c_217 : Hp → Option (Int32 × Hp)) (c_218 : Hp → Option (Int32 × Hp)) (v1 : Int32) (h : Hp) : Option (Int32 × Hp) := H_218_146 c_216 c_217 c_218 fuL v1 0 h
theorem r_218_144 {X : GX} {d : Nat} {r : Int32 × Hp} {c_216 : Hp → Option (Int32 × Hp)} {c_217 : Hp → Option (Int32 × Hp)} {c_218 : Hp → Option (Int32 × Hp)} {dg : Nat} (hd : 6 ≤ d) (hgd : dg < d) (hc_216 : ∀ {h : Hp} {r : Int32 × Hp}, c_216 h = some r → CV dg 216 [.ref 84] h (fun g => g = r.2)) (hc_217 : ∀ {h : Hp} {r : Int32 × Hp}, c_217 h = some r → CV dg 217 [.ref 84] h (fun g => g = r.2)) (hc_218 : ∀ {h : Hp} {r : Int32 × Hp}, c_218 h = some r → CV dg 218 [.ref 84] h (fun g => g = r.2)) (hq : RtX X none r.2) {h : Hp} {v1 : Int32} (e : R_218_144 c_216 c_217 c_218 v1 h = some r) : G X d 218 144 [some (.ref 84), some (.int v1), none] [] h := by
  unfold R_218_144 at e
  exact k_218_144 (h_218_146 hd hgd hc_216 hc_217 hc_218 hq e)
noncomputable def R_218_135 (c_216 : Hp → Option (Int32 × Hp)) (c_217 : Hp → Option (Int32 × Hp)) (c_218 : Hp → Option (Int32 × Hp)) (v1 : Int32) (v2 : Int32) (h : Hp) : Option (Int32 × Hp) := bndV (S_222 (20000 + v2) h) (R_218_144 c_216 c_217 c_218 v1)
theorem r_218_135 {X : GX} {d : Nat} {r : Int32 × Hp} {c_216 : Hp → Option (Int32 × Hp)} {c_217 : Hp → Option (Int32 × Hp)} {c_218 : Hp → Option (Int32 × Hp)} {dg : Nat} (hd : 6 ≤ d) (hgd : dg < d) (hc_216 : ∀ {h : Hp} {r : Int32 × Hp}, c_216 h = some r → CV dg 216 [.ref 84] h (fun g => g = r.2)) (hc_217 : ∀ {h : Hp} {r : Int32 × Hp}, c_217 h = some r → CV dg 217 [.ref 84] h (fun g => g = r.2)) (hc_218 : ∀ {h : Hp} {r : Int32 × Hp}, c_218 h = some r → CV dg 218 [.ref 84] h (fun g => g = r.2)) (hq : RtX X none r.2) {h : Hp} {v1 : Int32} {v2 : Int32} (e : R_218_135 c_216 c_217 c_218 v1 v2 h = some r) : G X d 218 135 [some (.ref 84), some (.int v1), some (.int v2)] [] h := by
  unfold R_218_135 at e
  obtain ⟨x, h2, e1, e2⟩ := bndV_s e
  refine k_218_135 (by omega) (t_222 e1) ?_
  rintro _ rfl
  exact r_218_144 hd hgd hc_216 hc_217 hc_218 hq e2
noncomputable def R_218_131 (c_216 : Hp → Option (Int32 × Hp)) (c_217 : Hp → Option (Int32 × Hp)) (c_218 : Hp → Option (Int32 × Hp)) (v1 : Int32) (v2 : Int32) (h : Hp) : Option (Int32 × Hp) := bndV (S_220 h) (R_218_135 c_216 c_217 c_218 v1 v2)
theorem r_218_131 {X : GX} {d : Nat} {r : Int32 × Hp} {c_216 : Hp → Option (Int32 × Hp)} {c_217 : Hp → Option (Int32 × Hp)} {c_218 : Hp → Option (Int32 × Hp)} {dg : Nat} (hd : 6 ≤ d) (hgd : dg < d) (hc_216 : ∀ {h : Hp} {r : Int32 × Hp}, c_216 h = some r → CV dg 216 [.ref 84] h (fun g => g = r.2)) (hc_217 : ∀ {h : Hp} {r : Int32 × Hp}, c_217 h = some r → CV dg 217 [.ref 84] h (fun g => g = r.2)) (hc_218 : ∀ {h : Hp} {r : Int32 × Hp}, c_218 h = some r → CV dg 218 [.ref 84] h (fun g => g = r.2)) (hq : RtX X none r.2) {h : Hp} {v1 : Int32} {v2 : Int32} (e : R_218_131 c_216 c_217 c_218 v1 v2 h = some r) : G X d 218 131 [some (.ref 84), some (.int v1), some (.int v2)] [] h := by
  unfold R_218_131 at e
  obtain ⟨x, h2, e1, e2⟩ := bndV_s e
  refine k_218_131 (by omega) (t_220 e1) ?_
  rintro _ rfl
  exact r_218_135 hd hgd hc_216 hc_217 hc_218 hq e2
noncomputable def R_218_123 (c_216 : Hp → Option (Int32 × Hp)) (c_217 : Hp → Option (Int32 × Hp)) (c_218 : Hp → Option (Int32 × Hp)) (v1 : Int32) (v2 : Int32) (s0 : Nat) (h : Hp) : Option (Int32 × Hp) := gd (sh s0 = (1, 9) ∧ s0 = 84) (bndV (S_215 1 h) (R_218_131 c_216 c_217 c_218 v1 v2))
theorem r_218_123 {X : GX} {d : Nat} {r : Int32 × Hp} {c_216 : Hp → Option (Int32 × Hp)} {c_217 : Hp → Option (Int32 × Hp)} {c_218 : Hp → Option (Int32 × Hp)} {dg : Nat} (hd : 6 ≤ d) (hgd : dg < d) (hc_216 : ∀ {h : Hp} {r : Int32 × Hp}, c_216 h = some r → CV dg 216 [.ref 84] h (fun g => g = r.2)) (hc_217 : ∀ {h : Hp} {r : Int32 × Hp}, c_217 h = some r → CV dg 217 [.ref 84] h (fun g => g = r.2)) (hc_218 : ∀ {h : Hp} {r : Int32 × Hp}, c_218 h = some r → CV dg 218 [.ref 84] h (fun g => g = r.2)) (hq : RtX X none r.2) {h : Hp} {v1 : Int32} {v2 : Int32} {s0 : Nat} (e : R_218_123 c_216 c_217 c_218 v1 v2 s0 h = some r) : G X d 218 123 [some (.ref 84), some (.int v1), some (.int v2)] [.ref s0] h := by
  unfold R_218_123 at e
  have g := gd_s e; clear e; obtain ⟨⟨o0, q0⟩, e⟩ := g
  subst q0
  obtain ⟨x, h2, e1, e2⟩ := bndV_s e
  refine k_218_123 o0 (by omega) (t_215 e1) ?_
  rintro _ rfl
  exact r_218_131 hd hgd hc_216 hc_217 hc_218 hq e2
noncomputable def R_218_127 (c_216 : Hp → Option (Int32 × Hp)) (c_217 : Hp → Option (Int32 × Hp)) (c_218 : Hp → Option (Int32 × Hp)) (v1 : Int32) (v2 : Int32) (s0 : Nat) (h : Hp) : Option (Int32 × Hp) := gd (sh s0 = (1, 9) ∧ s0 = 84) (bndV (S_215 0 h) (R_218_131 c_216 c_217 c_218 v1 v2))
theorem r_218_127 {X : GX} {d : Nat} {r : Int32 × Hp} {c_216 : Hp → Option (Int32 × Hp)} {c_217 : Hp → Option (Int32 × Hp)} {c_218 : Hp → Option (Int32 × Hp)} {dg : Nat} (hd : 6 ≤ d) (hgd : dg < d) (hc_216 : ∀ {h : Hp} {r : Int32 × Hp}, c_216 h = some r → CV dg 216 [.ref 84] h (fun g => g = r.2)) (hc_217 : ∀ {h : Hp} {r : Int32 × Hp}, c_217 h = some r → CV dg 217 [.ref 84] h (fun g => g = r.2)) (hc_218 : ∀ {h : Hp} {r : Int32 × Hp}, c_218 h = some r → CV dg 218 [.ref 84] h (fun g => g = r.2)) (hq : RtX X none r.2) {h : Hp} {v1 : Int32} {v2 : Int32} {s0 : Nat} (e : R_218_127 c_216 c_217 c_218 v1 v2 s0 h = some r) : G X d 218 127 [some (.ref 84), some (.int v1), some (.int v2)] [.ref s0] h := by
  unfold R_218_127 at e
  have g := gd_s e; clear e; obtain ⟨⟨o0, q0⟩, e⟩ := g
  subst q0
  obtain ⟨x, h2, e1, e2⟩ := bndV_s e
  refine k_218_127 o0 (by omega) (t_215 e1) ?_
  rintro _ rfl
  exact r_218_131 hd hgd hc_216 hc_217 hc_218 hq e2
noncomputable def R_218_120 (c_216 : Hp → Option (Int32 × Hp)) (c_217 : Hp → Option (Int32 × Hp)) (c_218 : Hp → Option (Int32 × Hp)) (v1 : Int32) (v2 : Int32) (s1 : Nat) (s0 : Int32) (h : Hp) : Option (Int32 × Hp) := if s0 = 0 then R_218_127 c_216 c_217 c_218 v1 v2 s1 h else R_218_123 c_216 c_217 c_218 v1 v2 s1 h
theorem r_218_120 {X : GX} {d : Nat} {r : Int32 × Hp} {c_216 : Hp → Option (Int32 × Hp)} {c_217 : Hp → Option (Int32 × Hp)} {c_218 : Hp → Option (Int32 × Hp)} {dg : Nat} (hd : 6 ≤ d) (hgd : dg < d) (hc_216 : ∀ {h : Hp} {r : Int32 × Hp}, c_216 h = some r → CV dg 216 [.ref 84] h (fun g => g = r.2)) (hc_217 : ∀ {h : Hp} {r : Int32 × Hp}, c_217 h = some r → CV dg 217 [.ref 84] h (fun g => g = r.2)) (hc_218 : ∀ {h : Hp} {r : Int32 × Hp}, c_218 h = some r → CV dg 218 [.ref 84] h (fun g => g = r.2)) (hq : RtX X none r.2) {h : Hp} {v1 : Int32} {v2 : Int32} {s1 : Nat} {s0 : Int32} (e : R_218_120 c_216 c_217 c_218 v1 v2 s1 s0 h = some r) : G X d 218 120 [some (.ref 84), some (.int v1), some (.int v2)] [.int s0, .ref s1] h := by
  unfold R_218_120 at e
  refine k_218_120 (fun c => ?_) (fun c => ?_)
  · rw [if_pos c] at e; exact r_218_127 hd hgd hc_216 hc_217 hc_218 hq e
  · rw [if_neg c] at e; exact r_218_123 hd hgd hc_216 hc_217 hc_218 hq e
noncomputable def R_218_114 (c_216 : Hp → Option (Int32 × Hp)) (c_217 : Hp → Option (Int32 × Hp)) (c_218 : Hp → Option (Int32 × Hp)) (v1 : Int32) (v2 : Int32) (s0 : Nat) (h : Hp) : Option (Int32 × Hp) := bndI (S_219 62 h) (R_218_120 c_216 c_217 c_218 v1 v2 s0)
theorem r_218_114 {X : GX} {d : Nat} {r : Int32 × Hp} {c_216 : Hp → Option (Int32 × Hp)} {c_217 : Hp → Option (Int32 × Hp)} {c_218 : Hp → Option (Int32 × Hp)} {dg : Nat} (hd : 6 ≤ d) (hgd : dg < d) (hc_216 : ∀ {h : Hp} {r : Int32 × Hp}, c_216 h = some r → CV dg 216 [.ref 84] h (fun g => g = r.2)) (hc_217 : ∀ {h : Hp} {r : Int32 × Hp}, c_217 h = some r → CV dg 217 [.ref 84] h (fun g => g = r.2)) (hc_218 : ∀ {h : Hp} {r : Int32 × Hp}, c_218 h = some r → CV dg 218 [.ref 84] h (fun g => g = r.2)) (hq : RtX X none r.2) {h : Hp} {v1 : Int32} {v2 : Int32} {s0 : Nat} (e : R_218_114 c_216 c_217 c_218 v1 v2 s0 h = some r) : G X d 218 114 [some (.ref 84), some (.int v1), some (.int v2)] [.ref s0] h := by
  unfold R_218_114 at e
  obtain ⟨x, h2, e1, e2⟩ := bndI_s e
  refine k_218_114 (by omega) (t_219 e1) ?_
  rintro _ _ ⟨rfl, rfl⟩
  exact r_218_120 hd hgd hc_216 hc_217 hc_218 hq e2
noncomputable def R_218_111 (c_216 : Hp → Option (Int32 × Hp)) (c_217 : Hp → Option (Int32 × Hp)) (c_218 : Hp → Option (Int32 × Hp)) (v1 : Int32) (v2 : Int32) (s1 : Nat) (s0 : Int32) (h : Hp) : Option (Int32 × Hp) := if s0 = 0 then R_218_114 c_216 c_217 c_218 v1 v2 s1 h else R_218_123 c_216 c_217 c_218 v1 v2 s1 h
theorem r_218_111 {X : GX} {d : Nat} {r : Int32 × Hp} {c_216 : Hp → Option (Int32 × Hp)} {c_217 : Hp → Option (Int32 × Hp)} {c_218 : Hp → Option (Int32 × Hp)} {dg : Nat} (hd : 6 ≤ d) (hgd : dg < d) (hc_216 : ∀ {h : Hp} {r : Int32 × Hp}, c_216 h = some r → CV dg 216 [.ref 84] h (fun g => g = r.2)) (hc_217 : ∀ {h : Hp} {r : Int32 × Hp}, c_217 h = some r → CV dg 217 [.ref 84] h (fun g => g = r.2)) (hc_218 : ∀ {h : Hp} {r : Int32 × Hp}, c_218 h = some r → CV dg 218 [.ref 84] h (fun g => g = r.2)) (hq : RtX X none r.2) {h : Hp} {v1 : Int32} {v2 : Int32} {s1 : Nat} {s0 : Int32} (e : R_218_111 c_216 c_217 c_218 v1 v2 s1 s0 h = some r) : G X d 218 111 [some (.ref 84), some (.int v1), some (.int v2)] [.int s0, .ref s1] h := by
  unfold R_218_111 at e
  refine k_218_111 (fun c => ?_) (fun c => ?_)
  · rw [if_neg c] at e; exact r_218_123 hd hgd hc_216 hc_217 hc_218 hq e
  · rw [if_pos c] at e; exact r_218_114 hd hgd hc_216 hc_217 hc_218 hq e
noncomputable def R_218_105 (c_216 : Hp → Option (Int32 × Hp)) (c_217 : Hp → Option (Int32 × Hp)) (c_218 : Hp → Option (Int32 × Hp)) (v1 : Int32) (v2 : Int32) (s0 : Nat) (h : Hp) : Option (Int32 × Hp) := bndI (S_219 61 h) (R_218_111 c_216 c_217 c_218 v1 v2 s0)
theorem r_218_105 {X : GX} {d : Nat} {r : Int32 × Hp} {c_216 : Hp → Option (Int32 × Hp)} {c_217 : Hp → Option (Int32 × Hp)} {c_218 : Hp → Option (Int32 × Hp)} {dg : Nat} (hd : 6 ≤ d) (hgd : dg < d) (hc_216 : ∀ {h : Hp} {r : Int32 × Hp}, c_216 h = some r → CV dg 216 [.ref 84] h (fun g => g = r.2)) (hc_217 : ∀ {h : Hp} {r : Int32 × Hp}, c_217 h = some r → CV dg 217 [.ref 84] h (fun g => g = r.2)) (hc_218 : ∀ {h : Hp} {r : Int32 × Hp}, c_218 h = some r → CV dg 218 [.ref 84] h (fun g => g = r.2)) (hq : RtX X none r.2) {h : Hp} {v1 : Int32} {v2 : Int32} {s0 : Nat} (e : R_218_105 c_216 c_217 c_218 v1 v2 s0 h = some r) : G X d 218 105 [some (.ref 84), some (.int v1), some (.int v2)] [.ref s0] h := by
  unfold R_218_105 at e
  obtain ⟨x, h2, e1, e2⟩ := bndI_s e
  refine k_218_105 (by omega) (t_219 e1) ?_
  rintro _ _ ⟨rfl, rfl⟩
  exact r_218_111 hd hgd hc_216 hc_217 hc_218 hq e2
noncomputable def R_218_102 (c_216 : Hp → Option (Int32 × Hp)) (c_217 : Hp → Option (Int32 × Hp)) (c_218 : Hp → Option (Int32 × Hp)) (v1 : Int32) (v2 : Int32) (s1 : Nat) (s0 : Int32) (h : Hp) : Option (Int32 × Hp) := if s0 = 0 then R_218_105 c_216 c_217 c_218 v1 v2 s1 h else R_218_123 c_216 c_217 c_218 v1 v2 s1 h
theorem r_218_102 {X : GX} {d : Nat} {r : Int32 × Hp} {c_216 : Hp → Option (Int32 × Hp)} {c_217 : Hp → Option (Int32 × Hp)} {c_218 : Hp → Option (Int32 × Hp)} {dg : Nat} (hd : 6 ≤ d) (hgd : dg < d) (hc_216 : ∀ {h : Hp} {r : Int32 × Hp}, c_216 h = some r → CV dg 216 [.ref 84] h (fun g => g = r.2)) (hc_217 : ∀ {h : Hp} {r : Int32 × Hp}, c_217 h = some r → CV dg 217 [.ref 84] h (fun g => g = r.2)) (hc_218 : ∀ {h : Hp} {r : Int32 × Hp}, c_218 h = some r → CV dg 218 [.ref 84] h (fun g => g = r.2)) (hq : RtX X none r.2) {h : Hp} {v1 : Int32} {v2 : Int32} {s1 : Nat} {s0 : Int32} (e : R_218_102 c_216 c_217 c_218 v1 v2 s1 s0 h = some r) : G X d 218 102 [some (.ref 84), some (.int v1), some (.int v2)] [.int s0, .ref s1] h := by
  unfold R_218_102 at e
  refine k_218_102 (fun c => ?_) (fun c => ?_)
  · rw [if_neg c] at e; exact r_218_123 hd hgd hc_216 hc_217 hc_218 hq e
  · rw [if_pos c] at e; exact r_218_105 hd hgd hc_216 hc_217 hc_218 hq e
noncomputable def R_218_89 (c_216 : Hp → Option (Int32 × Hp)) (c_217 : Hp → Option (Int32 × Hp)) (c_218 : Hp → Option (Int32 × Hp)) (v1 : Int32) (h : Hp) : Option (Int32 × Hp) := bndI (S_219 60 h) (R_218_102 c_216 c_217 c_218 v1 (Int64.toInt32 (rdL (h 84))) 84)
theorem r_218_89 {X : GX} {d : Nat} {r : Int32 × Hp} {c_216 : Hp → Option (Int32 × Hp)} {c_217 : Hp → Option (Int32 × Hp)} {c_218 : Hp → Option (Int32 × Hp)} {dg : Nat} (hd : 6 ≤ d) (hgd : dg < d) (hc_216 : ∀ {h : Hp} {r : Int32 × Hp}, c_216 h = some r → CV dg 216 [.ref 84] h (fun g => g = r.2)) (hc_217 : ∀ {h : Hp} {r : Int32 × Hp}, c_217 h = some r → CV dg 217 [.ref 84] h (fun g => g = r.2)) (hc_218 : ∀ {h : Hp} {r : Int32 × Hp}, c_218 h = some r → CV dg 218 [.ref 84] h (fun g => g = r.2)) (hq : RtX X none r.2) {h : Hp} {v1 : Int32} (e : R_218_89 c_216 c_217 c_218 v1 h = some r) : G X d 218 89 [some (.ref 84), some (.int v1), none] [] h := by
  unfold R_218_89 at e
  obtain ⟨x, h2, e1, e2⟩ := bndI_s e
  refine k_218_89 (by omega) (t_219 e1) ?_
  rintro _ _ ⟨rfl, rfl⟩
  exact r_218_102 hd hgd hc_216 hc_217 hc_218 hq e2
noncomputable def R_218_85 (c_216 : Hp → Option (Int32 × Hp)) (c_217 : Hp → Option (Int32 × Hp)) (c_218 : Hp → Option (Int32 × Hp)) (v1 : Int32) (h : Hp) : Option (Int32 × Hp) := bndV (S_220 h) (R_218_89 c_216 c_217 c_218 v1)
theorem r_218_85 {X : GX} {d : Nat} {r : Int32 × Hp} {c_216 : Hp → Option (Int32 × Hp)} {c_217 : Hp → Option (Int32 × Hp)} {c_218 : Hp → Option (Int32 × Hp)} {dg : Nat} (hd : 6 ≤ d) (hgd : dg < d) (hc_216 : ∀ {h : Hp} {r : Int32 × Hp}, c_216 h = some r → CV dg 216 [.ref 84] h (fun g => g = r.2)) (hc_217 : ∀ {h : Hp} {r : Int32 × Hp}, c_217 h = some r → CV dg 217 [.ref 84] h (fun g => g = r.2)) (hc_218 : ∀ {h : Hp} {r : Int32 × Hp}, c_218 h = some r → CV dg 218 [.ref 84] h (fun g => g = r.2)) (hq : RtX X none r.2) {h : Hp} {v1 : Int32} (e : R_218_85 c_216 c_217 c_218 v1 h = some r) : G X d 218 85 [some (.ref 84), some (.int v1), none] [] h := by
  unfold R_218_85 at e
  obtain ⟨x, h2, e1, e2⟩ := bndV_s e
  refine k_218_85 (by omega) (t_220 e1) ?_
  rintro _ rfl
  exact r_218_89 hd hgd hc_216 hc_217 hc_218 hq e2
noncomputable def R_218_72 (c_216 : Hp → Option (Int32 × Hp)) (c_217 : Hp → Option (Int32 × Hp)) (c_218 : Hp → Option (Int32 × Hp)) (v1 : Int32) (h : Hp) : Option (Int32 × Hp) := H_218_146 c_216 c_217 c_218 fuL v1 0 ((wr h 84 13 ((h 84 13) - 1)))
theorem r_218_72 {X : GX} {d : Nat} {r : Int32 × Hp} {c_216 : Hp → Option (Int32 × Hp)} {c_217 : Hp → Option (Int32 × Hp)} {c_218 : Hp → Option (Int32 × Hp)} {dg : Nat} (hd : 6 ≤ d) (hgd : dg < d) (hc_216 : ∀ {h : Hp} {r : Int32 × Hp}, c_216 h = some r → CV dg 216 [.ref 84] h (fun g => g = r.2)) (hc_217 : ∀ {h : Hp} {r : Int32 × Hp}, c_217 h = some r → CV dg 217 [.ref 84] h (fun g => g = r.2)) (hc_218 : ∀ {h : Hp} {r : Int32 × Hp}, c_218 h = some r → CV dg 218 [.ref 84] h (fun g => g = r.2)) (hq : RtX X none r.2) {h : Hp} {v1 : Int32} (e : R_218_72 c_216 c_217 c_218 v1 h = some r) : G X d 218 72 [some (.ref 84), some (.int v1), none] [] h := by
  unfold R_218_72 at e
  exact k_218_72 (h_218_146 hd hgd hc_216 hc_217 hc_218 hq e)
noncomputable def R_218_69 (c_216 : Hp → Option (Int32 × Hp)) (c_217 : Hp → Option (Int32 × Hp)) (c_218 : Hp → Option (Int32 × Hp)) (v1 : Int32) (s1 : Nat) (s0 : Int32) (h : Hp) : Option (Int32 × Hp) := gd (sh s1 = (1, 9) ∧ s1 = 84) (bndV (S_215 s0 h) (R_218_72 c_216 c_217 c_218 v1))
theorem r_218_69 {X : GX} {d : Nat} {r : Int32 × Hp} {c_216 : Hp → Option (Int32 × Hp)} {c_217 : Hp → Option (Int32 × Hp)} {c_218 : Hp → Option (Int32 × Hp)} {dg : Nat} (hd : 6 ≤ d) (hgd : dg < d) (hc_216 : ∀ {h : Hp} {r : Int32 × Hp}, c_216 h = some r → CV dg 216 [.ref 84] h (fun g => g = r.2)) (hc_217 : ∀ {h : Hp} {r : Int32 × Hp}, c_217 h = some r → CV dg 217 [.ref 84] h (fun g => g = r.2)) (hc_218 : ∀ {h : Hp} {r : Int32 × Hp}, c_218 h = some r → CV dg 218 [.ref 84] h (fun g => g = r.2)) (hq : RtX X none r.2) {h : Hp} {v1 : Int32} {s1 : Nat} {s0 : Int32} (e : R_218_69 c_216 c_217 c_218 v1 s1 s0 h = some r) : G X d 218 69 [some (.ref 84), some (.int v1), none] [.int s0, .ref s1] h := by
  unfold R_218_69 at e
  have g := gd_s e; clear e; obtain ⟨⟨o0, q0⟩, e⟩ := g
  subst q0
  obtain ⟨x, h2, e1, e2⟩ := bndV_s e
  refine k_218_69 o0 (by omega) (t_215 e1) ?_
  rintro _ rfl
  exact r_218_72 hd hgd hc_216 hc_217 hc_218 hq e2
noncomputable def R_218_62 (c_216 : Hp → Option (Int32 × Hp)) (c_217 : Hp → Option (Int32 × Hp)) (c_218 : Hp → Option (Int32 × Hp)) (v1 : Int32) (h : Hp) : Option (Int32 × Hp) := bndI (S_219 41 h) (R_218_69 c_216 c_217 c_218 v1 84)
theorem r_218_62 {X : GX} {d : Nat} {r : Int32 × Hp} {c_216 : Hp → Option (Int32 × Hp)} {c_217 : Hp → Option (Int32 × Hp)} {c_218 : Hp → Option (Int32 × Hp)} {dg : Nat} (hd : 6 ≤ d) (hgd : dg < d) (hc_216 : ∀ {h : Hp} {r : Int32 × Hp}, c_216 h = some r → CV dg 216 [.ref 84] h (fun g => g = r.2)) (hc_217 : ∀ {h : Hp} {r : Int32 × Hp}, c_217 h = some r → CV dg 217 [.ref 84] h (fun g => g = r.2)) (hc_218 : ∀ {h : Hp} {r : Int32 × Hp}, c_218 h = some r → CV dg 218 [.ref 84] h (fun g => g = r.2)) (hq : RtX X none r.2) {h : Hp} {v1 : Int32} (e : R_218_62 c_216 c_217 c_218 v1 h = some r) : G X d 218 62 [some (.ref 84), some (.int v1), none] [] h := by
  unfold R_218_62 at e
  obtain ⟨x, h2, e1, e2⟩ := bndI_s e
  refine k_218_62 (by omega) (t_219 e1) ?_
  rintro _ _ ⟨rfl, rfl⟩
  exact r_218_69 hd hgd hc_216 hc_217 hc_218 hq e2
noncomputable def R_218_48 (c_216 : Hp → Option (Int32 × Hp)) (c_217 : Hp → Option (Int32 × Hp)) (c_218 : Hp → Option (Int32 × Hp)) (v1 : Int32) (h : Hp) : Option (Int32 × Hp) := bndV (c_216 ((wr h 84 13 ((h 84 13) + 1)))) (R_218_62 c_216 c_217 c_218 v1)
theorem r_218_48 {X : GX} {d : Nat} {r : Int32 × Hp} {c_216 : Hp → Option (Int32 × Hp)} {c_217 : Hp → Option (Int32 × Hp)} {c_218 : Hp → Option (Int32 × Hp)} {dg : Nat} (hd : 6 ≤ d) (hgd : dg < d) (hc_216 : ∀ {h : Hp} {r : Int32 × Hp}, c_216 h = some r → CV dg 216 [.ref 84] h (fun g => g = r.2)) (hc_217 : ∀ {h : Hp} {r : Int32 × Hp}, c_217 h = some r → CV dg 217 [.ref 84] h (fun g => g = r.2)) (hc_218 : ∀ {h : Hp} {r : Int32 × Hp}, c_218 h = some r → CV dg 218 [.ref 84] h (fun g => g = r.2)) (hq : RtX X none r.2) {h : Hp} {v1 : Int32} (e : R_218_48 c_216 c_217 c_218 v1 h = some r) : G X d 218 48 [some (.ref 84), some (.int v1), none] [] h := by
  unfold R_218_48 at e
  obtain ⟨x, h2, e1, e2⟩ := bndV_s e
  refine k_218_48 hgd (hc_216 e1) ?_
  rintro _ rfl
  exact r_218_62 hd hgd hc_216 hc_217 hc_218 hq e2
noncomputable def R_218_44 (c_216 : Hp → Option (Int32 × Hp)) (c_217 : Hp → Option (Int32 × Hp)) (c_218 : Hp → Option (Int32 × Hp)) (v1 : Int32) (s0 : Nat) (h : Hp) : Option (Int32 × Hp) := gd (sh s0 = (1, 9) ∧ s0 = 84) (bndV (S_215 0 h) (R_218_48 c_216 c_217 c_218 v1))
theorem r_218_44 {X : GX} {d : Nat} {r : Int32 × Hp} {c_216 : Hp → Option (Int32 × Hp)} {c_217 : Hp → Option (Int32 × Hp)} {c_218 : Hp → Option (Int32 × Hp)} {dg : Nat} (hd : 6 ≤ d) (hgd : dg < d) (hc_216 : ∀ {h : Hp} {r : Int32 × Hp}, c_216 h = some r → CV dg 216 [.ref 84] h (fun g => g = r.2)) (hc_217 : ∀ {h : Hp} {r : Int32 × Hp}, c_217 h = some r → CV dg 217 [.ref 84] h (fun g => g = r.2)) (hc_218 : ∀ {h : Hp} {r : Int32 × Hp}, c_218 h = some r → CV dg 218 [.ref 84] h (fun g => g = r.2)) (hq : RtX X none r.2) {h : Hp} {v1 : Int32} {s0 : Nat} (e : R_218_44 c_216 c_217 c_218 v1 s0 h = some r) : G X d 218 44 [some (.ref 84), some (.int v1), none] [.ref s0] h := by
  unfold R_218_44 at e
  have g := gd_s e; clear e; obtain ⟨⟨o0, q0⟩, e⟩ := g
  subst q0
  obtain ⟨x, h2, e1, e2⟩ := bndV_s e
  refine k_218_44 o0 (by omega) (t_215 e1) ?_
  rintro _ rfl
  exact r_218_48 hd hgd hc_216 hc_217 hc_218 hq e2
noncomputable def R_218_40 (c_216 : Hp → Option (Int32 × Hp)) (c_217 : Hp → Option (Int32 × Hp)) (c_218 : Hp → Option (Int32 × Hp)) (v1 : Int32) (s0 : Nat) (h : Hp) : Option (Int32 × Hp) := gd (sh s0 = (1, 9) ∧ s0 = 84) (bndV (S_215 1 h) (R_218_48 c_216 c_217 c_218 v1))
theorem r_218_40 {X : GX} {d : Nat} {r : Int32 × Hp} {c_216 : Hp → Option (Int32 × Hp)} {c_217 : Hp → Option (Int32 × Hp)} {c_218 : Hp → Option (Int32 × Hp)} {dg : Nat} (hd : 6 ≤ d) (hgd : dg < d) (hc_216 : ∀ {h : Hp} {r : Int32 × Hp}, c_216 h = some r → CV dg 216 [.ref 84] h (fun g => g = r.2)) (hc_217 : ∀ {h : Hp} {r : Int32 × Hp}, c_217 h = some r → CV dg 217 [.ref 84] h (fun g => g = r.2)) (hc_218 : ∀ {h : Hp} {r : Int32 × Hp}, c_218 h = some r → CV dg 218 [.ref 84] h (fun g => g = r.2)) (hq : RtX X none r.2) {h : Hp} {v1 : Int32} {s0 : Nat} (e : R_218_40 c_216 c_217 c_218 v1 s0 h = some r) : G X d 218 40 [some (.ref 84), some (.int v1), none] [.ref s0] h := by
  unfold R_218_40 at e
  have g := gd_s e; clear e; obtain ⟨⟨o0, q0⟩, e⟩ := g
  subst q0
  obtain ⟨x, h2, e1, e2⟩ := bndV_s e
  refine k_218_40 o0 (by omega) (t_215 e1) ?_
  rintro _ rfl
  exact r_218_48 hd hgd hc_216 hc_217 hc_218 hq e2
noncomputable def R_218_31 (c_216 : Hp → Option (Int32 × Hp)) (c_217 : Hp → Option (Int32 × Hp)) (c_218 : Hp → Option (Int32 × Hp)) (v1 : Int32) (h : Hp) : Option (Int32 × Hp) := if 3 ≤ (h 84 13) then R_218_44 c_216 c_217 c_218 v1 84 h else R_218_40 c_216 c_217 c_218 v1 84 h
theorem r_218_31 {X : GX} {d : Nat} {r : Int32 × Hp} {c_216 : Hp → Option (Int32 × Hp)} {c_217 : Hp → Option (Int32 × Hp)} {c_218 : Hp → Option (Int32 × Hp)} {dg : Nat} (hd : 6 ≤ d) (hgd : dg < d) (hc_216 : ∀ {h : Hp} {r : Int32 × Hp}, c_216 h = some r → CV dg 216 [.ref 84] h (fun g => g = r.2)) (hc_217 : ∀ {h : Hp} {r : Int32 × Hp}, c_217 h = some r → CV dg 217 [.ref 84] h (fun g => g = r.2)) (hc_218 : ∀ {h : Hp} {r : Int32 × Hp}, c_218 h = some r → CV dg 218 [.ref 84] h (fun g => g = r.2)) (hq : RtX X none r.2) {h : Hp} {v1 : Int32} (e : R_218_31 c_216 c_217 c_218 v1 h = some r) : G X d 218 31 [some (.ref 84), some (.int v1), none] [] h := by
  unfold R_218_31 at e
  refine k_218_31 (fun c => ?_) (fun c => ?_)
  · rw [if_pos c] at e; exact r_218_44 hd hgd hc_216 hc_217 hc_218 hq e
  · rw [if_neg c] at e; exact r_218_40 hd hgd hc_216 hc_217 hc_218 hq e
noncomputable def R_218_28 (c_216 : Hp → Option (Int32 × Hp)) (c_217 : Hp → Option (Int32 × Hp)) (c_218 : Hp → Option (Int32 × Hp)) (v1 : Int32) (s0 : Int32) (h : Hp) : Option (Int32 × Hp) := if s0 = 0 then R_218_85 c_216 c_217 c_218 v1 h else R_218_31 c_216 c_217 c_218 v1 h
theorem r_218_28 {X : GX} {d : Nat} {r : Int32 × Hp} {c_216 : Hp → Option (Int32 × Hp)} {c_217 : Hp → Option (Int32 × Hp)} {c_218 : Hp → Option (Int32 × Hp)} {dg : Nat} (hd : 6 ≤ d) (hgd : dg < d) (hc_216 : ∀ {h : Hp} {r : Int32 × Hp}, c_216 h = some r → CV dg 216 [.ref 84] h (fun g => g = r.2)) (hc_217 : ∀ {h : Hp} {r : Int32 × Hp}, c_217 h = some r → CV dg 217 [.ref 84] h (fun g => g = r.2)) (hc_218 : ∀ {h : Hp} {r : Int32 × Hp}, c_218 h = some r → CV dg 218 [.ref 84] h (fun g => g = r.2)) (hq : RtX X none r.2) {h : Hp} {v1 : Int32} {s0 : Int32} (e : R_218_28 c_216 c_217 c_218 v1 s0 h = some r) : G X d 218 28 [some (.ref 84), some (.int v1), none] [.int s0] h := by
  unfold R_218_28 at e
  refine k_218_28 (fun c => ?_) (fun c => ?_)
  · rw [if_pos c] at e; exact r_218_85 hd hgd hc_216 hc_217 hc_218 hq e
  · rw [if_neg c] at e; exact r_218_31 hd hgd hc_216 hc_217 hc_218 hq e
noncomputable def R_218_22 (c_216 : Hp → Option (Int32 × Hp)) (c_217 : Hp → Option (Int32 × Hp)) (c_218 : Hp → Option (Int32 × Hp)) (v1 : Int32) (h : Hp) : Option (Int32 × Hp) := bndI (S_219 40 h) (R_218_28 c_216 c_217 c_218 v1)
theorem r_218_22 {X : GX} {d : Nat} {r : Int32 × Hp} {c_216 : Hp → Option (Int32 × Hp)} {c_217 : Hp → Option (Int32 × Hp)} {c_218 : Hp → Option (Int32 × Hp)} {dg : Nat} (hd : 6 ≤ d) (hgd : dg < d) (hc_216 : ∀ {h : Hp} {r : Int32 × Hp}, c_216 h = some r → CV dg 216 [.ref 84] h (fun g => g = r.2)) (hc_217 : ∀ {h : Hp} {r : Int32 × Hp}, c_217 h = some r → CV dg 217 [.ref 84] h (fun g => g = r.2)) (hc_218 : ∀ {h : Hp} {r : Int32 × Hp}, c_218 h = some r → CV dg 218 [.ref 84] h (fun g => g = r.2)) (hq : RtX X none r.2) {h : Hp} {v1 : Int32} (e : R_218_22 c_216 c_217 c_218 v1 h = some r) : G X d 218 22 [some (.ref 84), some (.int v1), none] [] h := by
  unfold R_218_22 at e
  obtain ⟨x, h2, e1, e2⟩ := bndI_s e
  refine k_218_22 (by omega) (t_219 e1) ?_
  rintro _ _ ⟨rfl, rfl⟩
  exact r_218_28 hd hgd hc_216 hc_217 hc_218 hq e2
noncomputable def R_218_19 (c_216 : Hp → Option (Int32 × Hp)) (c_217 : Hp → Option (Int32 × Hp)) (c_218 : Hp → Option (Int32 × Hp)) (rec_2 : Int32 → Hp → Option (Int32 × Hp)) (v1 : Int32) (h : Hp) : Option (Int32 × Hp) := rec_2 v1 h
theorem r_218_19 {X : GX} {d : Nat} {r : Int32 × Hp} {c_216 : Hp → Option (Int32 × Hp)} {c_217 : Hp → Option (Int32 × Hp)} {c_218 : Hp → Option (Int32 × Hp)} {dg : Nat} (hd : 6 ≤ d) (hgd : dg < d) (hc_216 : ∀ {h : Hp} {r : Int32 × Hp}, c_216 h = some r → CV dg 216 [.ref 84] h (fun g => g = r.2)) (hc_217 : ∀ {h : Hp} {r : Int32 × Hp}, c_217 h = some r → CV dg 217 [.ref 84] h (fun g => g = r.2)) (hc_218 : ∀ {h : Hp} {r : Int32 × Hp}, c_218 h = some r → CV dg 218 [.ref 84] h (fun g => g = r.2)) (hq : RtX X none r.2) {rec_2 : Int32 → Hp → Option (Int32 × Hp)} (hr_2 : ∀ {v1 : Int32} {h : Hp}, rec_2 v1 h = some r → G X d 218 2 [some (.ref 84), some (.int v1), none] [] h) {h : Hp} {v1 : Int32} (e : R_218_19 c_216 c_217 c_218 rec_2 v1 h = some r) : G X d 218 19 [some (.ref 84), some (.int v1), none] [] h := by
  unfold R_218_19 at e
  exact k_218_19 (hr_2 e)
noncomputable def R_218_12 (c_216 : Hp → Option (Int32 × Hp)) (c_217 : Hp → Option (Int32 × Hp)) (c_218 : Hp → Option (Int32 × Hp)) (rec_2 : Int32 → Hp → Option (Int32 × Hp)) (v1 : Int32) (h : Hp) : Option (Int32 × Hp) := bndV (S_210 h) (R_218_19 c_216 c_217 c_218 rec_2 (v1 + 1))
theorem r_218_12 {X : GX} {d : Nat} {r : Int32 × Hp} {c_216 : Hp → Option (Int32 × Hp)} {c_217 : Hp → Option (Int32 × Hp)} {c_218 : Hp → Option (Int32 × Hp)} {dg : Nat} (hd : 6 ≤ d) (hgd : dg < d) (hc_216 : ∀ {h : Hp} {r : Int32 × Hp}, c_216 h = some r → CV dg 216 [.ref 84] h (fun g => g = r.2)) (hc_217 : ∀ {h : Hp} {r : Int32 × Hp}, c_217 h = some r → CV dg 217 [.ref 84] h (fun g => g = r.2)) (hc_218 : ∀ {h : Hp} {r : Int32 × Hp}, c_218 h = some r → CV dg 218 [.ref 84] h (fun g => g = r.2)) (hq : RtX X none r.2) {rec_2 : Int32 → Hp → Option (Int32 × Hp)} (hr_2 : ∀ {v1 : Int32} {h : Hp}, rec_2 v1 h = some r → G X d 218 2 [some (.ref 84), some (.int v1), none] [] h) {h : Hp} {v1 : Int32} (e : R_218_12 c_216 c_217 c_218 rec_2 v1 h = some r) : G X d 218 12 [some (.ref 84), some (.int v1), none] [] h := by
  unfold R_218_12 at e
  obtain ⟨x, h2, e1, e2⟩ := bndV_s e
  refine k_218_12 (by omega) (t_210 e1) ?_
  rintro _ rfl
  exact r_218_19 hd hgd hc_216 hc_217 hc_218 hq hr_2 e2
noncomputable def R_218_9 (c_216 : Hp → Option (Int32 × Hp)) (c_217 : Hp → Option (Int32 × Hp)) (c_218 : Hp → Option (Int32 × Hp)) (rec_2 : Int32 → Hp → Option (Int32 × Hp)) (v1 : Int32) (s0 : Int32) (h : Hp) : Option (Int32 × Hp) := if s0 = 0 then R_218_22 c_216 c_217 c_218 v1 h else R_218_12 c_216 c_217 c_218 rec_2 v1 h
theorem r_218_9 {X : GX} {d : Nat} {r : Int32 × Hp} {c_216 : Hp → Option (Int32 × Hp)} {c_217 : Hp → Option (Int32 × Hp)} {c_218 : Hp → Option (Int32 × Hp)} {dg : Nat} (hd : 6 ≤ d) (hgd : dg < d) (hc_216 : ∀ {h : Hp} {r : Int32 × Hp}, c_216 h = some r → CV dg 216 [.ref 84] h (fun g => g = r.2)) (hc_217 : ∀ {h : Hp} {r : Int32 × Hp}, c_217 h = some r → CV dg 217 [.ref 84] h (fun g => g = r.2)) (hc_218 : ∀ {h : Hp} {r : Int32 × Hp}, c_218 h = some r → CV dg 218 [.ref 84] h (fun g => g = r.2)) (hq : RtX X none r.2) {rec_2 : Int32 → Hp → Option (Int32 × Hp)} (hr_2 : ∀ {v1 : Int32} {h : Hp}, rec_2 v1 h = some r → G X d 218 2 [some (.ref 84), some (.int v1), none] [] h) {h : Hp} {v1 : Int32} {s0 : Int32} (e : R_218_9 c_216 c_217 c_218 rec_2 v1 s0 h = some r) : G X d 218 9 [some (.ref 84), some (.int v1), none] [.int s0] h := by
  unfold R_218_9 at e
  refine k_218_9 (fun c => ?_) (fun c => ?_)
  · rw [if_pos c] at e; exact r_218_22 hd hgd hc_216 hc_217 hc_218 hq e
  · rw [if_neg c] at e; exact r_218_12 hd hgd hc_216 hc_217 hc_218 hq hr_2 e
noncomputable def R_218_2 (c_216 : Hp → Option (Int32 × Hp)) (c_217 : Hp → Option (Int32 × Hp)) (c_218 : Hp → Option (Int32 × Hp)) (rec_2 : Int32 → Hp → Option (Int32 × Hp)) (v1 : Int32) (h : Hp) : Option (Int32 × Hp) := bndI (S_214 10631 h) (R_218_9 c_216 c_217 c_218 rec_2 v1)
theorem r_218_2 {X : GX} {d : Nat} {r : Int32 × Hp} {c_216 : Hp → Option (Int32 × Hp)} {c_217 : Hp → Option (Int32 × Hp)} {c_218 : Hp → Option (Int32 × Hp)} {dg : Nat} (hd : 6 ≤ d) (hgd : dg < d) (hc_216 : ∀ {h : Hp} {r : Int32 × Hp}, c_216 h = some r → CV dg 216 [.ref 84] h (fun g => g = r.2)) (hc_217 : ∀ {h : Hp} {r : Int32 × Hp}, c_217 h = some r → CV dg 217 [.ref 84] h (fun g => g = r.2)) (hc_218 : ∀ {h : Hp} {r : Int32 × Hp}, c_218 h = some r → CV dg 218 [.ref 84] h (fun g => g = r.2)) (hq : RtX X none r.2) {rec_2 : Int32 → Hp → Option (Int32 × Hp)} (hr_2 : ∀ {v1 : Int32} {h : Hp}, rec_2 v1 h = some r → G X d 218 2 [some (.ref 84), some (.int v1), none] [] h) {h : Hp} {v1 : Int32} (e : R_218_2 c_216 c_217 c_218 rec_2 v1 h = some r) : G X d 218 2 [some (.ref 84), some (.int v1), none] [] h := by
  unfold R_218_2 at e
  obtain ⟨x, h2, e1, e2⟩ := bndI_s e
  refine k_218_2 (by omega) (t_214 e1) ?_
  rintro _ _ ⟨rfl, rfl⟩
  exact r_218_9 hd hgd hc_216 hc_217 hc_218 hq hr_2 e2
noncomputable def H_218_2 (c_216 : Hp → Option (Int32 × Hp)) (c_217 : Hp → Option (Int32 × Hp)) (c_218 : Hp → Option (Int32 × Hp)) : Nat → Int32 → Hp → Option (Int32 × Hp)
  | 0, _, _ => none
  | n + 1, v1, h => R_218_2 c_216 c_217 c_218 (H_218_2 c_216 c_217 c_218 n) v1 h
theorem h_218_2 {X : GX} {d : Nat} {r : Int32 × Hp} {c_216 : Hp → Option (Int32 × Hp)} {c_217 : Hp → Option (Int32 × Hp)} {c_218 : Hp → Option (Int32 × Hp)} {dg : Nat} (hd : 6 ≤ d) (hgd : dg < d) (hc_216 : ∀ {h : Hp} {r : Int32 × Hp}, c_216 h = some r → CV dg 216 [.ref 84] h (fun g => g = r.2)) (hc_217 : ∀ {h : Hp} {r : Int32 × Hp}, c_217 h = some r → CV dg 217 [.ref 84] h (fun g => g = r.2)) (hc_218 : ∀ {h : Hp} {r : Int32 × Hp}, c_218 h = some r → CV dg 218 [.ref 84] h (fun g => g = r.2)) (hq : RtX X none r.2) {n : Nat} {h : Hp} {v1 : Int32} (e : H_218_2 c_216 c_217 c_218 n v1 h = some r) : G X d 218 2 [some (.ref 84), some (.int v1), none] [] h := by
  induction n generalizing v1 h with
  | zero => cases e
  | succ n ih => exact r_218_2 hd hgd hc_216 hc_217 hc_218 hq (fun e => ih e) e
noncomputable def R_218_0 (c_216 : Hp → Option (Int32 × Hp)) (c_217 : Hp → Option (Int32 × Hp)) (c_218 : Hp → Option (Int32 × Hp)) (h : Hp) : Option (Int32 × Hp) := H_218_2 c_216 c_217 c_218 fuL 0 h
theorem r_218_0 {X : GX} {d : Nat} {r : Int32 × Hp} {c_216 : Hp → Option (Int32 × Hp)} {c_217 : Hp → Option (Int32 × Hp)} {c_218 : Hp → Option (Int32 × Hp)} {dg : Nat} (hd : 6 ≤ d) (hgd : dg < d) (hc_216 : ∀ {h : Hp} {r : Int32 × Hp}, c_216 h = some r → CV dg 216 [.ref 84] h (fun g => g = r.2)) (hc_217 : ∀ {h : Hp} {r : Int32 × Hp}, c_217 h = some r → CV dg 217 [.ref 84] h (fun g => g = r.2)) (hc_218 : ∀ {h : Hp} {r : Int32 × Hp}, c_218 h = some r → CV dg 218 [.ref 84] h (fun g => g = r.2)) (hq : RtX X none r.2) {h : Hp} (e : R_218_0 c_216 c_217 c_218 h = some r) : G X d 218 0 [some (.ref 84), none, none] [] h := by
  unfold R_218_0 at e
  exact k_218_0 (h_218_2 hd hgd hc_216 hc_217 hc_218 hq e)
noncomputable def SG_216 : Nat → (Hp → Option (Int32 × Hp)) × (Hp → Option (Int32 × Hp)) × (Hp → Option (Int32 × Hp))
  | 0 => (fun _ => none, fun _ => none, fun _ => none)
  | n + 1 => (fun h => R_216_0 (SG_216 n).1 (SG_216 n).2.1 (SG_216 n).2.2 h, fun h => R_217_0 (SG_216 n).1 (SG_216 n).2.1 (SG_216 n).2.2 h, fun h => R_218_0 (SG_216 n).1 (SG_216 n).2.1 (SG_216 n).2.2 h)
set_option maxRecDepth 100000 in
theorem tg_216 : ∀ n, (∀ {h : Hp} {r : Int32 × Hp}, (SG_216 n).1 h = some r → CV (6 + n) 216 [.ref 84] h (fun g => g = r.2)) ∧ (∀ {h : Hp} {r : Int32 × Hp}, (SG_216 n).2.1 h = some r → CV (6 + n) 217 [.ref 84] h (fun g => g = r.2)) ∧ (∀ {h : Hp} {r : Int32 × Hp}, (SG_216 n).2.2 h = some r → CV (6 + n) 218 [.ref 84] h (fun g => g = r.2)) := by
  intro n
  induction n with
  | zero => exact ⟨(fun e => by cases e), (fun e => by cases e), (fun e => by cases e)⟩
  | succ n ih =>
    obtain ⟨i216, i217, i218⟩ := ih
    refine ⟨fun {h} {r} e => ?_, fun {h} {r} e => ?_, fun {h} {r} e => ?_⟩
    · refine C.of mo_216 (Nat.le_of_ble_eq_true rfl) (fun X hq => ?_)
      exact r_216_0 (by omega) (show 6 + n < 6 + (n + 1) by omega) (fun e => i216 e) (fun e => i217 e) (fun e => i218 e) (hq _ _ ⟨rfl, rfl⟩) e
    · refine C.of mo_217 (Nat.le_of_ble_eq_true rfl) (fun X hq => ?_)
      exact r_217_0 (by omega) (show 6 + n < 6 + (n + 1) by omega) (fun e => i216 e) (fun e => i217 e) (fun e => i218 e) (hq _ _ ⟨rfl, rfl⟩) e
    · refine C.of mo_218 (Nat.le_of_ble_eq_true rfl) (fun X hq => ?_)
      exact r_218_0 (by omega) (show 6 + n < 6 + (n + 1) by omega) (fun e => i216 e) (fun e => i217 e) (fun e => i218 e) (hq _ _ ⟨rfl, rfl⟩) e
noncomputable def S_216 (h : Hp) : Option (Int32 × Hp) := (SG_216 60).1 h
theorem t_216 {h : Hp} {r : Int32 × Hp} (e : S_216 h = some r) : CV 66 216 [.ref 84] h (fun g => g = r.2) := (tg_216 60).1 e
noncomputable def S_217 (h : Hp) : Option (Int32 × Hp) := (SG_216 60).2.1 h
theorem t_217 {h : Hp} {r : Int32 × Hp} (e : S_217 h = some r) : CV 66 217 [.ref 84] h (fun g => g = r.2) := (tg_216 60).2.1 e
noncomputable def S_218 (h : Hp) : Option (Int32 × Hp) := (SG_216 60).2.2 h
theorem t_218 {h : Hp} {r : Int32 × Hp} (e : S_218 h = some r) : CV 66 218 [.ref 84] h (fun g => g = r.2) := (tg_216 60).2.2 e
/-! 223 PlayedTruthModel.doHere()I -/
noncomputable def R_223_42 (h : Hp) : Option (Int32 × Hp) := some (((-1)), h)
theorem r_223_42 {X : GX} {d : Nat} {r : Int32 × Hp} (hd : 2 ≤ d) (hq : RtX X (some (.int r.1)) r.2) {h : Hp} (e : R_223_42 h = some r) : G X d 223 42 [none] [] h := by
  unfold R_223_42 at e
  rw [← Option.some.inj e] at hq
  exact k_223_42 hq
noncomputable def R_223_38 (h : Hp) : Option (Int32 × Hp) := some (2, h)
theorem r_223_38 {X : GX} {d : Nat} {r : Int32 × Hp} (hd : 2 ≤ d) (hq : RtX X (some (.int r.1)) r.2) {h : Hp} (e : R_223_38 h = some r) : G X d 223 38 [none] [] h := by
  unfold R_223_38 at e
  rw [← Option.some.inj e] at hq
  exact k_223_38 hq
noncomputable def R_223_35 (s0 : Int32) (h : Hp) : Option (Int32 × Hp) := if s0 = 0 then R_223_42 h else R_223_38 h
theorem r_223_35 {X : GX} {d : Nat} {r : Int32 × Hp} (hd : 2 ≤ d) (hq : RtX X (some (.int r.1)) r.2) {h : Hp} {s0 : Int32} (e : R_223_35 s0 h = some r) : G X d 223 35 [none] [.int s0] h := by
  unfold R_223_35 at e
  refine k_223_35 (fun c => ?_) (fun c => ?_)
  · rw [if_pos c] at e; exact r_223_42 hd hq e
  · rw [if_neg c] at e; exact r_223_38 hd hq e
noncomputable def R_223_28 (h : Hp) : Option (Int32 × Hp) := bndI (S_214 407038 h) (R_223_35)
theorem r_223_28 {X : GX} {d : Nat} {r : Int32 × Hp} (hd : 2 ≤ d) (hq : RtX X (some (.int r.1)) r.2) {h : Hp} (e : R_223_28 h = some r) : G X d 223 28 [some (.ref 84)] [] h := by
  unfold R_223_28 at e
  obtain ⟨x, h2, e1, e2⟩ := bndI_s e
  refine k_223_28 (by omega) (t_214 e1) ?_
  rintro _ _ ⟨rfl, rfl⟩
  exact r_223_35 hd hq e2
noncomputable def R_223_24 (h : Hp) : Option (Int32 × Hp) := some (1, h)
theorem r_223_24 {X : GX} {d : Nat} {r : Int32 × Hp} (hd : 2 ≤ d) (hq : RtX X (some (.int r.1)) r.2) {h : Hp} (e : R_223_24 h = some r) : G X d 223 24 [none] [] h := by
  unfold R_223_24 at e
  rw [← Option.some.inj e] at hq
  exact k_223_24 hq
noncomputable def R_223_21 (s0 : Int32) (h : Hp) : Option (Int32 × Hp) := if s0 = 0 then R_223_28 h else R_223_24 h
theorem r_223_21 {X : GX} {d : Nat} {r : Int32 × Hp} (hd : 2 ≤ d) (hq : RtX X (some (.int r.1)) r.2) {h : Hp} {s0 : Int32} (e : R_223_21 s0 h = some r) : G X d 223 21 [some (.ref 84)] [.int s0] h := by
  unfold R_223_21 at e
  refine k_223_21 (fun c => ?_) (fun c => ?_)
  · rw [if_pos c] at e; exact r_223_28 hd hq e
  · rw [if_neg c] at e; exact r_223_24 hd hq e
noncomputable def R_223_14 (h : Hp) : Option (Int32 × Hp) := bndI (S_214 220309 h) (R_223_21)
theorem r_223_14 {X : GX} {d : Nat} {r : Int32 × Hp} (hd : 2 ≤ d) (hq : RtX X (some (.int r.1)) r.2) {h : Hp} (e : R_223_14 h = some r) : G X d 223 14 [some (.ref 84)] [] h := by
  unfold R_223_14 at e
  obtain ⟨x, h2, e1, e2⟩ := bndI_s e
  refine k_223_14 (by omega) (t_214 e1) ?_
  rintro _ _ ⟨rfl, rfl⟩
  exact r_223_21 hd hq e2
noncomputable def R_223_10 (h : Hp) : Option (Int32 × Hp) := some (0, h)
theorem r_223_10 {X : GX} {d : Nat} {r : Int32 × Hp} (hd : 2 ≤ d) (hq : RtX X (some (.int r.1)) r.2) {h : Hp} (e : R_223_10 h = some r) : G X d 223 10 [none] [] h := by
  unfold R_223_10 at e
  rw [← Option.some.inj e] at hq
  exact k_223_10 hq
noncomputable def R_223_7 (s0 : Int32) (h : Hp) : Option (Int32 × Hp) := if s0 = 0 then R_223_14 h else R_223_10 h
theorem r_223_7 {X : GX} {d : Nat} {r : Int32 × Hp} (hd : 2 ≤ d) (hq : RtX X (some (.int r.1)) r.2) {h : Hp} {s0 : Int32} (e : R_223_7 s0 h = some r) : G X d 223 7 [some (.ref 84)] [.int s0] h := by
  unfold R_223_7 at e
  refine k_223_7 (fun c => ?_) (fun c => ?_)
  · rw [if_pos c] at e; exact r_223_14 hd hq e
  · rw [if_neg c] at e; exact r_223_10 hd hq e
noncomputable def R_223_0 (h : Hp) : Option (Int32 × Hp) := bndI (S_214 259906 h) (R_223_7)
theorem r_223_0 {X : GX} {d : Nat} {r : Int32 × Hp} (hd : 2 ≤ d) (hq : RtX X (some (.int r.1)) r.2) {h : Hp} (e : R_223_0 h = some r) : G X d 223 0 [some (.ref 84)] [] h := by
  unfold R_223_0 at e
  obtain ⟨x, h2, e1, e2⟩ := bndI_s e
  refine k_223_0 (by omega) (t_214 e1) ?_
  rintro _ _ ⟨rfl, rfl⟩
  exact r_223_7 hd hq e2
noncomputable def S_223 (h : Hp) : Option (Int32 × Hp) := R_223_0 h
set_option maxRecDepth 100000 in
theorem t_223 {h : Hp} {r : Int32 × Hp} (e : S_223 h = some r) : CI 2 223 [.ref 84] h (fun x g => x = r.1 ∧ g = r.2) := by
  refine C.of mo_223 (Nat.le_of_ble_eq_true rfl) (fun X hq => ?_)
  exact r_223_0 (Nat.le_refl _) (hq _ _ ⟨_, rfl, rfl, rfl⟩) e
/-! 212 PlayedTruthModel.ruleHere()V -/
noncomputable def R_212_167 (h : Hp) : Option (Int32 × Hp) := some (0, h)
theorem r_212_167 {X : GX} {d : Nat} {r : Int32 × Hp} (hd : 67 ≤ d) (hq : RtX X none r.2) {h : Hp} (e : R_212_167 h = some r) : G X d 212 167 [none, none, none, none] [] h := by
  unfold R_212_167 at e
  rw [← Option.some.inj e] at hq
  exact k_212_167 hq
noncomputable def R_212_96 (v1 : Int32) (v2 : Int32) (v3 : Int32) (h : Hp) : Option (Int32 × Hp) := gd (IA 91 (4 * (h 84 17)) ∧ IA 91 ((4 * ((wr h 91 (Int32.toNatClampNeg (4 * (h 84 17))) v1) 84 17)) + 1) ∧ IA 91 ((4 * ((wr (wr h 91 (Int32.toNatClampNeg (4 * (h 84 17))) v1) 91 (Int32.toNatClampNeg ((4 * ((wr h 91 (Int32.toNatClampNeg (4 * (h 84 17))) v1) 84 17)) + 1)) v3) 84 17)) + 2) ∧ IA 91 ((4 * ((wr (wr (wr h 91 (Int32.toNatClampNeg (4 * (h 84 17))) v1) 91 (Int32.toNatClampNeg ((4 * ((wr h 91 (Int32.toNatClampNeg (4 * (h 84 17))) v1) 84 17)) + 1)) v3) 91 (Int32.toNatClampNeg ((4 * ((wr (wr h 91 (Int32.toNatClampNeg (4 * (h 84 17))) v1) 91 (Int32.toNatClampNeg ((4 * ((wr h 91 (Int32.toNatClampNeg (4 * (h 84 17))) v1) 84 17)) + 1)) v3) 84 17)) + 2)) v2) 84 17)) + 3)) (bndV (S_210 ((wr (wr (wr (wr (wr h 91 (Int32.toNatClampNeg (4 * (h 84 17))) v1) 91 (Int32.toNatClampNeg ((4 * ((wr h 91 (Int32.toNatClampNeg (4 * (h 84 17))) v1) 84 17)) + 1)) v3) 91 (Int32.toNatClampNeg ((4 * ((wr (wr h 91 (Int32.toNatClampNeg (4 * (h 84 17))) v1) 91 (Int32.toNatClampNeg ((4 * ((wr h 91 (Int32.toNatClampNeg (4 * (h 84 17))) v1) 84 17)) + 1)) v3) 84 17)) + 2)) v2) 91 (Int32.toNatClampNeg ((4 * ((wr (wr (wr h 91 (Int32.toNatClampNeg (4 * (h 84 17))) v1) 91 (Int32.toNatClampNeg ((4 * ((wr h 91 (Int32.toNatClampNeg (4 * (h 84 17))) v1) 84 17)) + 1)) v3) 91 (Int32.toNatClampNeg ((4 * ((wr (wr h 91 (Int32.toNatClampNeg (4 * (h 84 17))) v1) 91 (Int32.toNatClampNeg ((4 * ((wr h 91 (Int32.toNatClampNeg (4 * (h 84 17))) v1) 84 17)) + 1)) v3) 84 17)) + 2)) v2) 84 17)) + 3)) ((wr (wr (wr h 91 (Int32.toNatClampNeg (4 * (h 84 17))) v1) 91 (Int32.toNatClampNeg ((4 * ((wr h 91 (Int32.toNatClampNeg (4 * (h 84 17))) v1) 84 17)) + 1)) v3) 91 (Int32.toNatClampNeg ((4 * ((wr (wr h 91 (Int32.toNatClampNeg (4 * (h 84 17))) v1) 91 (Int32.toNatClampNeg ((4 * ((wr h 91 (Int32.toNatClampNeg (4 * (h 84 17))) v1) 84 17)) + 1)) v3) 84 17)) + 2)) v2) 84 15)) 84 17 (((wr (wr (wr (wr h 91 (Int32.toNatClampNeg (4 * (h 84 17))) v1) 91 (Int32.toNatClampNeg ((4 * ((wr h 91 (Int32.toNatClampNeg (4 * (h 84 17))) v1) 84 17)) + 1)) v3) 91 (Int32.toNatClampNeg ((4 * ((wr (wr h 91 (Int32.toNatClampNeg (4 * (h 84 17))) v1) 91 (Int32.toNatClampNeg ((4 * ((wr h 91 (Int32.toNatClampNeg (4 * (h 84 17))) v1) 84 17)) + 1)) v3) 84 17)) + 2)) v2) 91 (Int32.toNatClampNeg ((4 * ((wr (wr (wr h 91 (Int32.toNatClampNeg (4 * (h 84 17))) v1) 91 (Int32.toNatClampNeg ((4 * ((wr h 91 (Int32.toNatClampNeg (4 * (h 84 17))) v1) 84 17)) + 1)) v3) 91 (Int32.toNatClampNeg ((4 * ((wr (wr h 91 (Int32.toNatClampNeg (4 * (h 84 17))) v1) 91 (Int32.toNatClampNeg ((4 * ((wr h 91 (Int32.toNatClampNeg (4 * (h 84 17))) v1) 84 17)) + 1)) v3) 84 17)) + 2)) v2) 84 17)) + 3)) ((wr (wr (wr h 91 (Int32.toNatClampNeg (4 * (h 84 17))) v1) 91 (Int32.toNatClampNeg ((4 * ((wr h 91 (Int32.toNatClampNeg (4 * (h 84 17))) v1) 84 17)) + 1)) v3) 91 (Int32.toNatClampNeg ((4 * ((wr (wr h 91 (Int32.toNatClampNeg (4 * (h 84 17))) v1) 91 (Int32.toNatClampNeg ((4 * ((wr h 91 (Int32.toNatClampNeg (4 * (h 84 17))) v1) 84 17)) + 1)) v3) 84 17)) + 2)) v2) 84 15)) 84 17) + 1)))) (R_212_167))
set_option maxRecDepth 100000 in
theorem r_212_96 {X : GX} {d : Nat} {r : Int32 × Hp} (hd : 67 ≤ d) (hq : RtX X none r.2) {h : Hp} {v1 : Int32} {v2 : Int32} {v3 : Int32} (e : R_212_96 v1 v2 v3 h = some r) : G X d 212 96 [some (.ref 84), some (.int v1), some (.int v2), some (.int v3)] [] h := by
  unfold R_212_96 at e
  have g := gd_s e; clear e; obtain ⟨⟨b0, b1, b2, b3⟩, e⟩ := g
  obtain ⟨x, h2, e1, e2⟩ := bndV_s e
  refine k_212_96 b0 b1 b2 b3 (by omega) (t_210 e1) ?_
  rintro _ rfl
  exact r_212_167 hd hq e2
noncomputable def R_212_89 (v1 : Int32) (v2 : Int32) (v3 : Int32) (h : Hp) : Option (Int32 × Hp) := if (h 84 12) = 0 then R_212_96 v1 v2 v3 h else R_212_167 h
theorem r_212_89 {X : GX} {d : Nat} {r : Int32 × Hp} (hd : 67 ≤ d) (hq : RtX X none r.2) {h : Hp} {v1 : Int32} {v2 : Int32} {v3 : Int32} (e : R_212_89 v1 v2 v3 h = some r) : G X d 212 89 [some (.ref 84), some (.int v1), some (.int v2), some (.int v3)] [] h := by
  unfold R_212_89 at e
  refine k_212_89 (fun c => ?_) (fun c => ?_)
  · rw [if_neg c] at e; exact r_212_167 hd hq e
  · rw [if_pos c] at e; exact r_212_96 hd hq e
noncomputable def R_212_84 (v1 : Int32) (v2 : Int32) (v3 : Int32) (h : Hp) : Option (Int32 × Hp) := if ((wr h 84 12 1) 84 12) = 0 then R_212_96 v1 v2 v3 ((wr h 84 12 1)) else R_212_167 ((wr h 84 12 1))
theorem r_212_84 {X : GX} {d : Nat} {r : Int32 × Hp} (hd : 67 ≤ d) (hq : RtX X none r.2) {h : Hp} {v1 : Int32} {v2 : Int32} {v3 : Int32} (e : R_212_84 v1 v2 v3 h = some r) : G X d 212 84 [some (.ref 84), some (.int v1), some (.int v2), some (.int v3)] [] h := by
  unfold R_212_84 at e
  refine k_212_84 (fun c => ?_) (fun c => ?_)
  · rw [if_neg c] at e; exact r_212_167 hd hq e
  · rw [if_pos c] at e; exact r_212_96 hd hq e
noncomputable def R_212_81 (v1 : Int32) (v2 : Int32) (v3 : Int32) (s0 : Int32) (h : Hp) : Option (Int32 × Hp) := if s0 = 0 then R_212_84 v1 v2 v3 h else R_212_89 v1 v2 v3 h
theorem r_212_81 {X : GX} {d : Nat} {r : Int32 × Hp} (hd : 67 ≤ d) (hq : RtX X none r.2) {h : Hp} {v1 : Int32} {v2 : Int32} {v3 : Int32} {s0 : Int32} (e : R_212_81 v1 v2 v3 s0 h = some r) : G X d 212 81 [some (.ref 84), some (.int v1), some (.int v2), some (.int v3)] [.int s0] h := by
  unfold R_212_81 at e
  refine k_212_81 (fun c => ?_) (fun c => ?_)
  · rw [if_neg c] at e; exact r_212_89 hd hq e
  · rw [if_pos c] at e; exact r_212_84 hd hq e
noncomputable def R_212_75 (v1 : Int32) (v2 : Int32) (v3 : Int32) (h : Hp) : Option (Int32 × Hp) := bndI (S_219 59 h) (R_212_81 v1 v2 v3)
theorem r_212_75 {X : GX} {d : Nat} {r : Int32 × Hp} (hd : 67 ≤ d) (hq : RtX X none r.2) {h : Hp} {v1 : Int32} {v2 : Int32} {v3 : Int32} (e : R_212_75 v1 v2 v3 h = some r) : G X d 212 75 [some (.ref 84), some (.int v1), some (.int v2), some (.int v3)] [] h := by
  unfold R_212_75 at e
  obtain ⟨x, h2, e1, e2⟩ := bndI_s e
  refine k_212_75 (by omega) (t_219 e1) ?_
  rintro _ _ ⟨rfl, rfl⟩
  exact r_212_81 hd hq e2
noncomputable def R_212_68 (v1 : Int32) (v2 : Int32) (v3 : Int32) (h : Hp) : Option (Int32 × Hp) := if (h 84 12) = 0 then R_212_75 v1 v2 v3 h else R_212_89 v1 v2 v3 h
theorem r_212_68 {X : GX} {d : Nat} {r : Int32 × Hp} (hd : 67 ≤ d) (hq : RtX X none r.2) {h : Hp} {v1 : Int32} {v2 : Int32} {v3 : Int32} (e : R_212_68 v1 v2 v3 h = some r) : G X d 212 68 [some (.ref 84), some (.int v1), some (.int v2), some (.int v3)] [] h := by
  unfold R_212_68 at e
  refine k_212_68 (fun c => ?_) (fun c => ?_)
  · rw [if_neg c] at e; exact r_212_89 hd hq e
  · rw [if_pos c] at e; exact r_212_75 hd hq e
noncomputable def R_212_64 (v1 : Int32) (v2 : Int32) (v3 : Int32) (s0 : Nat) (h : Hp) : Option (Int32 × Hp) := gd (sh s0 = (1, 9) ∧ s0 = 84) (bndV (S_215 0 h) (R_212_68 v1 v2 v3))
theorem r_212_64 {X : GX} {d : Nat} {r : Int32 × Hp} (hd : 67 ≤ d) (hq : RtX X none r.2) {h : Hp} {v1 : Int32} {v2 : Int32} {v3 : Int32} {s0 : Nat} (e : R_212_64 v1 v2 v3 s0 h = some r) : G X d 212 64 [some (.ref 84), some (.int v1), some (.int v2), some (.int v3)] [.ref s0] h := by
  unfold R_212_64 at e
  have g := gd_s e; clear e; obtain ⟨⟨o0, q0⟩, e⟩ := g
  subst q0
  obtain ⟨x, h2, e1, e2⟩ := bndV_s e
  refine k_212_64 o0 (by omega) (t_215 e1) ?_
  rintro _ rfl
  exact r_212_68 hd hq e2
noncomputable def R_212_60 (v1 : Int32) (v2 : Int32) (v3 : Int32) (s0 : Nat) (h : Hp) : Option (Int32 × Hp) := gd (sh s0 = (1, 9) ∧ s0 = 84) (bndV (S_215 1 h) (R_212_68 v1 v2 v3))
theorem r_212_60 {X : GX} {d : Nat} {r : Int32 × Hp} (hd : 67 ≤ d) (hq : RtX X none r.2) {h : Hp} {v1 : Int32} {v2 : Int32} {v3 : Int32} {s0 : Nat} (e : R_212_60 v1 v2 v3 s0 h = some r) : G X d 212 60 [some (.ref 84), some (.int v1), some (.int v2), some (.int v3)] [.ref s0] h := by
  unfold R_212_60 at e
  have g := gd_s e; clear e; obtain ⟨⟨o0, q0⟩, e⟩ := g
  subst q0
  obtain ⟨x, h2, e1, e2⟩ := bndV_s e
  refine k_212_60 o0 (by omega) (t_215 e1) ?_
  rintro _ rfl
  exact r_212_68 hd hq e2
noncomputable def R_212_54 (v1 : Int32) (v2 : Int32) (s0 : Int32) (h : Hp) : Option (Int32 × Hp) := if s0 < 0 then R_212_64 v1 v2 s0 84 h else R_212_60 v1 v2 s0 84 h
theorem r_212_54 {X : GX} {d : Nat} {r : Int32 × Hp} (hd : 67 ≤ d) (hq : RtX X none r.2) {h : Hp} {v1 : Int32} {v2 : Int32} {s0 : Int32} (e : R_212_54 v1 v2 s0 h = some r) : G X d 212 54 [some (.ref 84), some (.int v1), some (.int v2), none] [.int s0] h := by
  unfold R_212_54 at e
  refine k_212_54 (fun c => ?_) (fun c => ?_)
  · rw [if_pos c] at e; exact r_212_64 hd hq e
  · rw [if_neg c] at e; exact r_212_60 hd hq e
noncomputable def R_212_50 (v1 : Int32) (v2 : Int32) (h : Hp) : Option (Int32 × Hp) := bndI (S_223 h) (R_212_54 v1 v2)
theorem r_212_50 {X : GX} {d : Nat} {r : Int32 × Hp} (hd : 67 ≤ d) (hq : RtX X none r.2) {h : Hp} {v1 : Int32} {v2 : Int32} (e : R_212_50 v1 v2 h = some r) : G X d 212 50 [some (.ref 84), some (.int v1), some (.int v2), none] [] h := by
  unfold R_212_50 at e
  obtain ⟨x, h2, e1, e2⟩ := bndI_s e
  refine k_212_50 (by omega) (t_223 e1) ?_
  rintro _ _ ⟨rfl, rfl⟩
  exact r_212_54 hd hq e2
noncomputable def R_212_46 (v1 : Int32) (v2 : Int32) (h : Hp) : Option (Int32 × Hp) := bndV (S_216 h) (R_212_50 v1 v2)
theorem r_212_46 {X : GX} {d : Nat} {r : Int32 × Hp} (hd : 67 ≤ d) (hq : RtX X none r.2) {h : Hp} {v1 : Int32} {v2 : Int32} (e : R_212_46 v1 v2 h = some r) : G X d 212 46 [some (.ref 84), some (.int v1), some (.int v2), none] [] h := by
  unfold R_212_46 at e
  obtain ⟨x, h2, e1, e2⟩ := bndV_s e
  refine k_212_46 (by omega) (t_216 e1) ?_
  rintro _ rfl
  exact r_212_50 hd hq e2
noncomputable def R_212_42 (v1 : Int32) (v2 : Int32) (h : Hp) : Option (Int32 × Hp) := bndV (S_210 h) (R_212_46 v1 v2)
theorem r_212_42 {X : GX} {d : Nat} {r : Int32 × Hp} (hd : 67 ≤ d) (hq : RtX X none r.2) {h : Hp} {v1 : Int32} {v2 : Int32} (e : R_212_42 v1 v2 h = some r) : G X d 212 42 [some (.ref 84), some (.int v1), some (.int v2), none] [] h := by
  unfold R_212_42 at e
  obtain ⟨x, h2, e1, e2⟩ := bndV_s e
  refine k_212_42 (by omega) (t_210 e1) ?_
  rintro _ rfl
  exact r_212_46 hd hq e2
noncomputable def R_212_39 (v1 : Int32) (v2 : Int32) (s0 : Int32) (h : Hp) : Option (Int32 × Hp) := if s0 = 0 then R_212_50 v1 v2 h else R_212_42 v1 v2 h
theorem r_212_39 {X : GX} {d : Nat} {r : Int32 × Hp} (hd : 67 ≤ d) (hq : RtX X none r.2) {h : Hp} {v1 : Int32} {v2 : Int32} {s0 : Int32} (e : R_212_39 v1 v2 s0 h = some r) : G X d 212 39 [some (.ref 84), some (.int v1), some (.int v2), none] [.int s0] h := by
  unfold R_212_39 at e
  refine k_212_39 (fun c => ?_) (fun c => ?_)
  · rw [if_pos c] at e; exact r_212_50 hd hq e
  · rw [if_neg c] at e; exact r_212_42 hd hq e
noncomputable def R_212_27 (v1 : Int32) (h : Hp) : Option (Int32 × Hp) := bndI (S_214 249 h) (R_212_39 v1 (h 84 15))
theorem r_212_27 {X : GX} {d : Nat} {r : Int32 × Hp} (hd : 67 ≤ d) (hq : RtX X none r.2) {h : Hp} {v1 : Int32} (e : R_212_27 v1 h = some r) : G X d 212 27 [some (.ref 84), some (.int v1), none, none] [] h := by
  unfold R_212_27 at e
  obtain ⟨x, h2, e1, e2⟩ := bndI_s e
  refine k_212_27 (by omega) (t_214 e1) ?_
  rintro _ _ ⟨rfl, rfl⟩
  exact r_212_39 hd hq e2
noncomputable def R_212_23 (v1 : Int32) (s0 : Nat) (h : Hp) : Option (Int32 × Hp) := gd (sh s0 = (1, 9) ∧ s0 = 84) (bndV (S_215 0 h) (R_212_27 v1))
theorem r_212_23 {X : GX} {d : Nat} {r : Int32 × Hp} (hd : 67 ≤ d) (hq : RtX X none r.2) {h : Hp} {v1 : Int32} {s0 : Nat} (e : R_212_23 v1 s0 h = some r) : G X d 212 23 [some (.ref 84), some (.int v1), none, none] [.ref s0] h := by
  unfold R_212_23 at e
  have g := gd_s e; clear e; obtain ⟨⟨o0, q0⟩, e⟩ := g
  subst q0
  obtain ⟨x, h2, e1, e2⟩ := bndV_s e
  refine k_212_23 o0 (by omega) (t_215 e1) ?_
  rintro _ rfl
  exact r_212_27 hd hq e2
noncomputable def R_212_19 (v1 : Int32) (s0 : Nat) (h : Hp) : Option (Int32 × Hp) := gd (sh s0 = (1, 9) ∧ s0 = 84) (bndV (S_215 1 h) (R_212_27 v1))
theorem r_212_19 {X : GX} {d : Nat} {r : Int32 × Hp} (hd : 67 ≤ d) (hq : RtX X none r.2) {h : Hp} {v1 : Int32} {s0 : Nat} (e : R_212_19 v1 s0 h = some r) : G X d 212 19 [some (.ref 84), some (.int v1), none, none] [.ref s0] h := by
  unfold R_212_19 at e
  have g := gd_s e; clear e; obtain ⟨⟨o0, q0⟩, e⟩ := g
  subst q0
  obtain ⟨x, h2, e1, e2⟩ := bndV_s e
  refine k_212_19 o0 (by omega) (t_215 e1) ?_
  rintro _ rfl
  exact r_212_27 hd hq e2
noncomputable def R_212_10 (v1 : Int32) (s0 : Nat) (h : Hp) : Option (Int32 × Hp) := if 8 ≤ (h 84 17) then R_212_23 v1 s0 h else R_212_19 v1 s0 h
theorem r_212_10 {X : GX} {d : Nat} {r : Int32 × Hp} (hd : 67 ≤ d) (hq : RtX X none r.2) {h : Hp} {v1 : Int32} {s0 : Nat} (e : R_212_10 v1 s0 h = some r) : G X d 212 10 [some (.ref 84), some (.int v1), none, none] [.ref s0] h := by
  unfold R_212_10 at e
  refine k_212_10 (fun c => ?_) (fun c => ?_)
  · rw [if_pos c] at e; exact r_212_23 hd hq e
  · rw [if_neg c] at e; exact r_212_19 hd hq e
noncomputable def R_212_4 (s0 : Int32) (h : Hp) : Option (Int32 × Hp) := if s0 < 0 then R_212_23 s0 84 h else R_212_10 s0 84 h
theorem r_212_4 {X : GX} {d : Nat} {r : Int32 × Hp} (hd : 67 ≤ d) (hq : RtX X none r.2) {h : Hp} {s0 : Int32} (e : R_212_4 s0 h = some r) : G X d 212 4 [some (.ref 84), none, none, none] [.int s0] h := by
  unfold R_212_4 at e
  refine k_212_4 (fun c => ?_) (fun c => ?_)
  · rw [if_pos c] at e; exact r_212_23 hd hq e
  · rw [if_neg c] at e; exact r_212_10 hd hq e
noncomputable def R_212_0 (h : Hp) : Option (Int32 × Hp) := bndI (S_213 h) (R_212_4)
theorem r_212_0 {X : GX} {d : Nat} {r : Int32 × Hp} (hd : 67 ≤ d) (hq : RtX X none r.2) {h : Hp} (e : R_212_0 h = some r) : G X d 212 0 [some (.ref 84), none, none, none] [] h := by
  unfold R_212_0 at e
  obtain ⟨x, h2, e1, e2⟩ := bndI_s e
  refine k_212_0 (by omega) (t_213 e1) ?_
  rintro _ _ ⟨rfl, rfl⟩
  exact r_212_4 hd hq e2
noncomputable def S_212 (h : Hp) : Option (Int32 × Hp) := R_212_0 h
set_option maxRecDepth 100000 in
theorem t_212 {h : Hp} {r : Int32 × Hp} (e : S_212 h = some r) : CV 67 212 [.ref 84] h (fun g => g = r.2) := by
  refine C.of mo_212 (Nat.le_of_ble_eq_true rfl) (fun X hq => ?_)
  exact r_212_0 (Nat.le_refl _) (hq _ _ ⟨rfl, rfl⟩) e
/-! 209 PlayedTruthModel.rules()I -/
noncomputable def R_209_140 (h : Hp) : Option (Int32 × Hp) := some ((h 84 17), h)
theorem r_209_140 {X : GX} {d : Nat} {r : Int32 × Hp} (hd : 68 ≤ d) (hq : RtX X (some (.int r.1)) r.2) {h : Hp} (e : R_209_140 h = some r) : G X d 209 140 [some (.ref 84), none] [] h := by
  unfold R_209_140 at e
  rw [← Option.some.inj e] at hq
  exact k_209_140 hq
noncomputable def R_209_119 (rec_111 : Int32 → Hp → Option (Int32 × Hp)) (v1 : Int32) (h : Hp) : Option (Int32 × Hp) := gd (IA 90 v1 ∧ IA 85 (121 + v1)) (rec_111 (v1 + 1) ((wr h 85 (Int32.toNatClampNeg (121 + v1)) (h 90 (Int32.toNatClampNeg v1)))))
theorem r_209_119 {X : GX} {d : Nat} {r : Int32 × Hp} (hd : 68 ≤ d) (hq : RtX X (some (.int r.1)) r.2) {rec_111 : Int32 → Hp → Option (Int32 × Hp)} (hr_111 : ∀ {v1 : Int32} {h : Hp}, rec_111 v1 h = some r → G X d 209 111 [some (.ref 84), some (.int v1)] [] h) {h : Hp} {v1 : Int32} (e : R_209_119 rec_111 v1 h = some r) : G X d 209 119 [some (.ref 84), some (.int v1)] [] h := by
  unfold R_209_119 at e
  have g := gd_s e; clear e; obtain ⟨⟨b0, b1⟩, e⟩ := g
  exact k_209_119 b0 b1 (hr_111 e)
noncomputable def R_209_111 (rec_111 : Int32 → Hp → Option (Int32 × Hp)) (v1 : Int32) (h : Hp) : Option (Int32 × Hp) := if (h 84 15) ≤ v1 then R_209_140 h else R_209_119 rec_111 v1 h
theorem r_209_111 {X : GX} {d : Nat} {r : Int32 × Hp} (hd : 68 ≤ d) (hq : RtX X (some (.int r.1)) r.2) {rec_111 : Int32 → Hp → Option (Int32 × Hp)} (hr_111 : ∀ {v1 : Int32} {h : Hp}, rec_111 v1 h = some r → G X d 209 111 [some (.ref 84), some (.int v1)] [] h) {h : Hp} {v1 : Int32} (e : R_209_111 rec_111 v1 h = some r) : G X d 209 111 [some (.ref 84), some (.int v1)] [] h := by
  unfold R_209_111 at e
  refine k_209_111 (fun c => ?_) (fun c => ?_)
  · rw [if_pos c] at e; exact r_209_140 hd hq e
  · rw [if_neg c] at e; exact r_209_119 hd hq hr_111 e
noncomputable def H_209_111 : Nat → Int32 → Hp → Option (Int32 × Hp)
  | 0, _, _ => none
  | n + 1, v1, h => R_209_111 (H_209_111 n) v1 h
theorem h_209_111 {X : GX} {d : Nat} {r : Int32 × Hp} (hd : 68 ≤ d) (hq : RtX X (some (.int r.1)) r.2) {n : Nat} {h : Hp} {v1 : Int32} (e : H_209_111 n v1 h = some r) : G X d 209 111 [some (.ref 84), some (.int v1)] [] h := by
  induction n generalizing v1 h with
  | zero => cases e
  | succ n ih => exact r_209_111 hd hq (fun e => ih e) e
noncomputable def R_209_109 (h : Hp) : Option (Int32 × Hp) := H_209_111 fuL 0 h
theorem r_209_109 {X : GX} {d : Nat} {r : Int32 × Hp} (hd : 68 ≤ d) (hq : RtX X (some (.int r.1)) r.2) {h : Hp} (e : R_209_109 h = some r) : G X d 209 109 [some (.ref 84), none] [] h := by
  unfold R_209_109 at e
  exact k_209_109 (h_209_111 hd hq e)
noncomputable def R_209_88 (rec_82 : Int32 → Hp → Option (Int32 × Hp)) (v1 : Int32) (h : Hp) : Option (Int32 × Hp) := gd (IA 91 v1 ∧ IA 85 (89 + v1)) (rec_82 (v1 + 1) ((wr h 85 (Int32.toNatClampNeg (89 + v1)) (h 91 (Int32.toNatClampNeg v1)))))
theorem r_209_88 {X : GX} {d : Nat} {r : Int32 × Hp} (hd : 68 ≤ d) (hq : RtX X (some (.int r.1)) r.2) {rec_82 : Int32 → Hp → Option (Int32 × Hp)} (hr_82 : ∀ {v1 : Int32} {h : Hp}, rec_82 v1 h = some r → G X d 209 82 [some (.ref 84), some (.int v1)] [] h) {h : Hp} {v1 : Int32} (e : R_209_88 rec_82 v1 h = some r) : G X d 209 88 [some (.ref 84), some (.int v1)] [] h := by
  unfold R_209_88 at e
  have g := gd_s e; clear e; obtain ⟨⟨b0, b1⟩, e⟩ := g
  exact k_209_88 b0 b1 (hr_82 e)
noncomputable def R_209_82 (rec_82 : Int32 → Hp → Option (Int32 × Hp)) (v1 : Int32) (h : Hp) : Option (Int32 × Hp) := if 32 ≤ v1 then R_209_109 h else R_209_88 rec_82 v1 h
theorem r_209_82 {X : GX} {d : Nat} {r : Int32 × Hp} (hd : 68 ≤ d) (hq : RtX X (some (.int r.1)) r.2) {rec_82 : Int32 → Hp → Option (Int32 × Hp)} (hr_82 : ∀ {v1 : Int32} {h : Hp}, rec_82 v1 h = some r → G X d 209 82 [some (.ref 84), some (.int v1)] [] h) {h : Hp} {v1 : Int32} (e : R_209_82 rec_82 v1 h = some r) : G X d 209 82 [some (.ref 84), some (.int v1)] [] h := by
  unfold R_209_82 at e
  refine k_209_82 (fun c => ?_) (fun c => ?_)
  · rw [if_pos c] at e; exact r_209_109 hd hq e
  · rw [if_neg c] at e; exact r_209_88 hd hq hr_82 e
noncomputable def H_209_82 : Nat → Int32 → Hp → Option (Int32 × Hp)
  | 0, _, _ => none
  | n + 1, v1, h => R_209_82 (H_209_82 n) v1 h
theorem h_209_82 {X : GX} {d : Nat} {r : Int32 × Hp} (hd : 68 ≤ d) (hq : RtX X (some (.int r.1)) r.2) {n : Nat} {h : Hp} {v1 : Int32} (e : H_209_82 n v1 h = some r) : G X d 209 82 [some (.ref 84), some (.int v1)] [] h := by
  induction n generalizing v1 h with
  | zero => cases e
  | succ n ih => exact r_209_82 hd hq (fun e => ih e) e
noncomputable def R_209_70 (h : Hp) : Option (Int32 × Hp) := gd (IA 85 5) (H_209_82 fuL 0 ((wr h 85 (Int32.toNatClampNeg 5) (h 84 17))))
theorem r_209_70 {X : GX} {d : Nat} {r : Int32 × Hp} (hd : 68 ≤ d) (hq : RtX X (some (.int r.1)) r.2) {h : Hp} (e : R_209_70 h = some r) : G X d 209 70 [some (.ref 84), none] [] h := by
  unfold R_209_70 at e
  have g := gd_s e; clear e; obtain ⟨b0, e⟩ := g
  exact k_209_70 b0 (h_209_82 hd hq e)
noncomputable def R_209_62 (h : Hp) : Option (Int32 × Hp) := some ((((-100)) - (h 84 9)), h)
theorem r_209_62 {X : GX} {d : Nat} {r : Int32 × Hp} (hd : 68 ≤ d) (hq : RtX X (some (.int r.1)) r.2) {h : Hp} (e : R_209_62 h = some r) : G X d 209 62 [some (.ref 84), none] [] h := by
  unfold R_209_62 at e
  rw [← Option.some.inj e] at hq
  exact k_209_62 hq
noncomputable def R_209_50 (h : Hp) : Option (Int32 × Hp) := if ((wr h 84 7 0) 84 12) = 0 then R_209_70 ((wr h 84 7 0)) else R_209_62 ((wr h 84 7 0))
theorem r_209_50 {X : GX} {d : Nat} {r : Int32 × Hp} (hd : 68 ≤ d) (hq : RtX X (some (.int r.1)) r.2) {h : Hp} (e : R_209_50 h = some r) : G X d 209 50 [some (.ref 84), none] [] h := by
  unfold R_209_50 at e
  refine k_209_50 (fun c => ?_) (fun c => ?_)
  · rw [if_pos c] at e; exact r_209_70 hd hq e
  · rw [if_neg c] at e; exact r_209_62 hd hq e
noncomputable def R_209_47 (rec_29 : Hp → Option (Int32 × Hp)) (h : Hp) : Option (Int32 × Hp) := rec_29 h
theorem r_209_47 {X : GX} {d : Nat} {r : Int32 × Hp} (hd : 68 ≤ d) (hq : RtX X (some (.int r.1)) r.2) {rec_29 : Hp → Option (Int32 × Hp)} (hr_29 : ∀ {h : Hp}, rec_29 h = some r → G X d 209 29 [some (.ref 84), none] [] h) {h : Hp} (e : R_209_47 rec_29 h = some r) : G X d 209 47 [some (.ref 84), none] [] h := by
  unfold R_209_47 at e
  exact k_209_47 (hr_29 e)
noncomputable def R_209_43 (rec_29 : Hp → Option (Int32 × Hp)) (h : Hp) : Option (Int32 × Hp) := bndV (S_212 h) (R_209_47 rec_29)
theorem r_209_43 {X : GX} {d : Nat} {r : Int32 × Hp} (hd : 68 ≤ d) (hq : RtX X (some (.int r.1)) r.2) {rec_29 : Hp → Option (Int32 × Hp)} (hr_29 : ∀ {h : Hp}, rec_29 h = some r → G X d 209 29 [some (.ref 84), none] [] h) {h : Hp} (e : R_209_43 rec_29 h = some r) : G X d 209 43 [some (.ref 84), none] [] h := by
  unfold R_209_43 at e
  obtain ⟨x, h2, e1, e2⟩ := bndV_s e
  refine k_209_43 (by omega) (t_212 e1) ?_
  rintro _ rfl
  exact r_209_47 hd hq hr_29 e2
noncomputable def R_209_36 (rec_29 : Hp → Option (Int32 × Hp)) (h : Hp) : Option (Int32 × Hp) := if (h 84 12) = 0 then R_209_43 rec_29 h else R_209_50 h
theorem r_209_36 {X : GX} {d : Nat} {r : Int32 × Hp} (hd : 68 ≤ d) (hq : RtX X (some (.int r.1)) r.2) {rec_29 : Hp → Option (Int32 × Hp)} (hr_29 : ∀ {h : Hp}, rec_29 h = some r → G X d 209 29 [some (.ref 84), none] [] h) {h : Hp} (e : R_209_36 rec_29 h = some r) : G X d 209 36 [some (.ref 84), none] [] h := by
  unfold R_209_36 at e
  refine k_209_36 (fun c => ?_) (fun c => ?_)
  · rw [if_neg c] at e; exact r_209_50 hd hq e
  · rw [if_pos c] at e; exact r_209_43 hd hq hr_29 e
noncomputable def R_209_29 (rec_29 : Hp → Option (Int32 × Hp)) (h : Hp) : Option (Int32 × Hp) := if (h 84 10) = 0 then R_209_50 h else R_209_36 rec_29 h
theorem r_209_29 {X : GX} {d : Nat} {r : Int32 × Hp} (hd : 68 ≤ d) (hq : RtX X (some (.int r.1)) r.2) {rec_29 : Hp → Option (Int32 × Hp)} (hr_29 : ∀ {h : Hp}, rec_29 h = some r → G X d 209 29 [some (.ref 84), none] [] h) {h : Hp} (e : R_209_29 rec_29 h = some r) : G X d 209 29 [some (.ref 84), none] [] h := by
  unfold R_209_29 at e
  refine k_209_29 (fun c => ?_) (fun c => ?_)
  · rw [if_pos c] at e; exact r_209_50 hd hq e
  · rw [if_neg c] at e; exact r_209_36 hd hq hr_29 e
noncomputable def H_209_29 : Nat → Hp → Option (Int32 × Hp)
  | 0, _ => none
  | n + 1, h => R_209_29 (H_209_29 n) h
theorem h_209_29 {X : GX} {d : Nat} {r : Int32 × Hp} (hd : 68 ≤ d) (hq : RtX X (some (.int r.1)) r.2) {n : Nat} {h : Hp} (e : H_209_29 n h = some r) : G X d 209 29 [some (.ref 84), none] [] h := by
  induction n generalizing h with
  | zero => cases e
  | succ n ih => exact r_209_29 hd hq (fun e => ih e) e
noncomputable def R_209_0 (h : Hp) : Option (Int32 × Hp) := bndV (S_210 ((wr (wr (wr (wr (wr h 84 8 0) 84 12 0) 84 13 0) 84 15 0) 84 17 0))) (H_209_29 fuL)
theorem r_209_0 {X : GX} {d : Nat} {r : Int32 × Hp} (hd : 68 ≤ d) (hq : RtX X (some (.int r.1)) r.2) {h : Hp} (e : R_209_0 h = some r) : G X d 209 0 [some (.ref 84), none] [] h := by
  unfold R_209_0 at e
  obtain ⟨x, h2, e1, e2⟩ := bndV_s e
  refine k_209_0 (by omega) (t_210 e1) ?_
  rintro _ rfl
  exact h_209_29 hd hq e2
noncomputable def S_209 (h : Hp) : Option (Int32 × Hp) := R_209_0 h
set_option maxRecDepth 100000 in
theorem t_209 {h : Hp} {r : Int32 × Hp} (e : S_209 h = some r) : CI 68 209 [.ref 84] h (fun x g => x = r.1 ∧ g = r.2) := by
  refine C.of mo_209 (Nat.le_of_ble_eq_true rfl) (fun X hq => ?_)
  exact r_209_0 (Nat.le_refl _) (hq _ _ ⟨_, rfl, rfl, rfl⟩) e
