/-! part 41.i: by program (wip/whole/sem.py) -/
/-! 278 PlayedTruthModel.item(III)I -/
noncomputable def R_278_19 (h : Hp) : Option (Int32 × Hp) := some (((-1)), h)
theorem r_278_19 {X : GX} {d : Nat} {r : Int32 × Hp} (hd : 3 ≤ d) (hq : RtX X (some (.int r.1)) r.2) {h : Hp} (e : R_278_19 h = some r) : G X d 278 19 [none, none, none, none] [] h := by
  unfold R_278_19 at e
  rw [← Option.some.inj e] at hq
  exact k_278_19 hq
noncomputable def R_278_80 (h : Hp) : Option (Int32 × Hp) := some (((-12)), h)
theorem r_278_80 {X : GX} {d : Nat} {r : Int32 × Hp} (hd : 3 ≤ d) (hq : RtX X (some (.int r.1)) r.2) {h : Hp} (e : R_278_80 h = some r) : G X d 278 80 [none, none, none, none] [] h := by
  unfold R_278_80 at e
  rw [← Option.some.inj e] at hq
  exact k_278_80 hq
noncomputable def R_278_66 (v1 : Int32) (v3 : Int32) (h : Hp) : Option (Int32 × Hp) := gd (IA 96 ((40 * v1) + v3)) (some ((h 96 (Int32.toNatClampNeg ((40 * v1) + v3))), h))
theorem r_278_66 {X : GX} {d : Nat} {r : Int32 × Hp} (hd : 3 ≤ d) (hq : RtX X (some (.int r.1)) r.2) {h : Hp} {v1 : Int32} {v3 : Int32} (e : R_278_66 v1 v3 h = some r) : G X d 278 66 [some (.ref 84), some (.int v1), none, some (.int v3)] [] h := by
  unfold R_278_66 at e
  have g := gd_s e; clear e; obtain ⟨b0, e⟩ := g
  rw [← Option.some.inj e] at hq
  exact k_278_66 b0 hq
noncomputable def R_278_63 (v1 : Int32) (v3 : Int32) (s0 : Int32) (h : Hp) : Option (Int32 × Hp) := if s0 = 0 then R_278_80 h else R_278_66 v1 v3 h
theorem r_278_63 {X : GX} {d : Nat} {r : Int32 × Hp} (hd : 3 ≤ d) (hq : RtX X (some (.int r.1)) r.2) {h : Hp} {v1 : Int32} {v3 : Int32} {s0 : Int32} (e : R_278_63 v1 v3 s0 h = some r) : G X d 278 63 [some (.ref 84), some (.int v1), none, some (.int v3)] [.int s0] h := by
  unfold R_278_63 at e
  refine k_278_63 (fun c => ?_) (fun c => ?_)
  · rw [if_pos c] at e; exact r_278_80 hd hq e
  · rw [if_neg c] at e; exact r_278_66 hd hq e
noncomputable def R_278_48 (v1 : Int32) (v3 : Int32) (h : Hp) : Option (Int32 × Hp) := gd (IA 95 v1) (bndI (S_177 (Int32.toInt64 v3) 0 (Int32.toInt64 ((h 95 (Int32.toNatClampNeg v1)) - 1)) h) (R_278_63 v1 v3))
theorem r_278_48 {X : GX} {d : Nat} {r : Int32 × Hp} (hd : 3 ≤ d) (hq : RtX X (some (.int r.1)) r.2) {h : Hp} {v1 : Int32} {v3 : Int32} (e : R_278_48 v1 v3 h = some r) : G X d 278 48 [some (.ref 84), some (.int v1), none, some (.int v3)] [] h := by
  unfold R_278_48 at e
  have g := gd_s e; clear e; obtain ⟨b0, e⟩ := g
  obtain ⟨x, h2, e1, e2⟩ := bndI_s e
  refine k_278_48 b0 (by omega) (t_177 e1) ?_
  rintro _ _ ⟨rfl, rfl⟩
  exact r_278_63 hd hq e2
noncomputable def R_278_45 (h : Hp) : Option (Int32 × Hp) := some (((-13)), h)
theorem r_278_45 {X : GX} {d : Nat} {r : Int32 × Hp} (hd : 3 ≤ d) (hq : RtX X (some (.int r.1)) r.2) {h : Hp} (e : R_278_45 h = some r) : G X d 278 45 [none, none, none, none] [] h := by
  unfold R_278_45 at e
  rw [← Option.some.inj e] at hq
  exact k_278_45 hq
noncomputable def R_278_33 (v1 : Int32) (v2 : Int32) (v3 : Int32) (h : Hp) : Option (Int32 × Hp) := gd (IA 94 v1) (if (h 94 (Int32.toNatClampNeg v1)) = (v2 + 1) then R_278_48 v1 v3 h else R_278_45 h)
theorem r_278_33 {X : GX} {d : Nat} {r : Int32 × Hp} (hd : 3 ≤ d) (hq : RtX X (some (.int r.1)) r.2) {h : Hp} {v1 : Int32} {v2 : Int32} {v3 : Int32} (e : R_278_33 v1 v2 v3 h = some r) : G X d 278 33 [some (.ref 84), some (.int v1), some (.int v2), some (.int v3)] [] h := by
  unfold R_278_33 at e
  have g := gd_s e; clear e; obtain ⟨b0, e⟩ := g
  refine k_278_33 b0 (fun c => ?_) (fun c => ?_)
  · rw [if_pos c] at e; exact r_278_48 hd hq e
  · rw [if_neg c] at e; exact r_278_45 hd hq e
noncomputable def R_278_30 (h : Hp) : Option (Int32 × Hp) := some (((-11)), h)
theorem r_278_30 {X : GX} {d : Nat} {r : Int32 × Hp} (hd : 3 ≤ d) (hq : RtX X (some (.int r.1)) r.2) {h : Hp} (e : R_278_30 h = some r) : G X d 278 30 [none, none, none, none] [] h := by
  unfold R_278_30 at e
  rw [← Option.some.inj e] at hq
  exact k_278_30 hq
noncomputable def R_278_21 (v1 : Int32) (v2 : Int32) (v3 : Int32) (h : Hp) : Option (Int32 × Hp) := gd (IA 94 v1) (if (h 94 (Int32.toNatClampNeg v1)) = 0 then R_278_30 h else R_278_33 v1 v2 v3 h)
theorem r_278_21 {X : GX} {d : Nat} {r : Int32 × Hp} (hd : 3 ≤ d) (hq : RtX X (some (.int r.1)) r.2) {h : Hp} {v1 : Int32} {v2 : Int32} {v3 : Int32} (e : R_278_21 v1 v2 v3 h = some r) : G X d 278 21 [some (.ref 84), some (.int v1), some (.int v2), some (.int v3)] [] h := by
  unfold R_278_21 at e
  have g := gd_s e; clear e; obtain ⟨b0, e⟩ := g
  refine k_278_21 b0 (fun c => ?_) (fun c => ?_)
  · rw [if_neg c] at e; exact r_278_33 hd hq e
  · rw [if_pos c] at e; exact r_278_30 hd hq e
noncomputable def R_278_16 (v1 : Int32) (v2 : Int32) (v3 : Int32) (s0 : Int32) (h : Hp) : Option (Int32 × Hp) := if s0 = 0 then R_278_19 h else R_278_21 v1 v2 v3 h
theorem r_278_16 {X : GX} {d : Nat} {r : Int32 × Hp} (hd : 3 ≤ d) (hq : RtX X (some (.int r.1)) r.2) {h : Hp} {v1 : Int32} {v2 : Int32} {v3 : Int32} {s0 : Int32} (e : R_278_16 v1 v2 v3 s0 h = some r) : G X d 278 16 [some (.ref 84), some (.int v1), some (.int v2), some (.int v3)] [.int s0] h := by
  unfold R_278_16 at e
  refine k_278_16 (fun c => ?_) (fun c => ?_)
  · rw [if_neg c] at e; exact r_278_21 hd hq e
  · rw [if_pos c] at e; exact r_278_19 hd hq e
noncomputable def R_278_7 (v1 : Int32) (v2 : Int32) (v3 : Int32) (h : Hp) : Option (Int32 × Hp) := bndI (S_177 (Int32.toInt64 v2) 0 4 h) (R_278_16 v1 v2 v3)
theorem r_278_7 {X : GX} {d : Nat} {r : Int32 × Hp} (hd : 3 ≤ d) (hq : RtX X (some (.int r.1)) r.2) {h : Hp} {v1 : Int32} {v2 : Int32} {v3 : Int32} (e : R_278_7 v1 v2 v3 h = some r) : G X d 278 7 [some (.ref 84), some (.int v1), some (.int v2), some (.int v3)] [] h := by
  unfold R_278_7 at e
  obtain ⟨x, h2, e1, e2⟩ := bndI_s e
  refine k_278_7 (by omega) (t_177 e1) ?_
  rintro _ _ ⟨rfl, rfl⟩
  exact r_278_16 hd hq e2
noncomputable def R_278_4 (v1 : Int32) (v2 : Int32) (v3 : Int32) (s0 : Int32) (h : Hp) : Option (Int32 × Hp) := if s0 = 0 then R_278_19 h else R_278_7 v1 v2 v3 h
theorem r_278_4 {X : GX} {d : Nat} {r : Int32 × Hp} (hd : 3 ≤ d) (hq : RtX X (some (.int r.1)) r.2) {h : Hp} {v1 : Int32} {v2 : Int32} {v3 : Int32} {s0 : Int32} (e : R_278_4 v1 v2 v3 s0 h = some r) : G X d 278 4 [some (.ref 84), some (.int v1), some (.int v2), some (.int v3)] [.int s0] h := by
  unfold R_278_4 at e
  refine k_278_4 (fun c => ?_) (fun c => ?_)
  · rw [if_pos c] at e; exact r_278_19 hd hq e
  · rw [if_neg c] at e; exact r_278_7 hd hq e
noncomputable def R_278_0 (v1 : Int32) (v2 : Int32) (v3 : Int32) (h : Hp) : Option (Int32 × Hp) := bndI (S_276 v1 h) (R_278_4 v1 v2 v3)
theorem r_278_0 {X : GX} {d : Nat} {r : Int32 × Hp} (hd : 3 ≤ d) (hq : RtX X (some (.int r.1)) r.2) {h : Hp} {v1 : Int32} {v2 : Int32} {v3 : Int32} (e : R_278_0 v1 v2 v3 h = some r) : G X d 278 0 [some (.ref 84), some (.int v1), some (.int v2), some (.int v3)] [] h := by
  unfold R_278_0 at e
  obtain ⟨x, h2, e1, e2⟩ := bndI_s e
  refine k_278_0 (by omega) (t_276 e1) ?_
  rintro _ _ ⟨rfl, rfl⟩
  exact r_278_4 hd hq e2
noncomputable def S_278 (v1 : Int32) (v2 : Int32) (v3 : Int32) (h : Hp) : Option (Int32 × Hp) := R_278_0 v1 v2 v3 h
set_option maxRecDepth 100000 in
theorem t_278 {v1 : Int32} {v2 : Int32} {v3 : Int32} {h : Hp} {r : Int32 × Hp} (e : S_278 v1 v2 v3 h = some r) : CI 3 278 [.ref 84, .int v1, .int v2, .int v3] h (fun x g => x = r.1 ∧ g = r.2) := by
  refine C.of mo_278 (Nat.le_of_ble_eq_true rfl) (fun X hq => ?_)
  exact r_278_0 (Nat.le_refl _) (hq _ _ ⟨_, rfl, rfl, rfl⟩) e
/-! 280 PlayedTruthModel.whyNoBytes(II)I -/
noncomputable def R_280_19 (h : Hp) : Option (Int32 × Hp) := some (((-1)), h)
theorem r_280_19 {X : GX} {d : Nat} {r : Int32 × Hp} (hd : 3 ≤ d) (hq : RtX X (some (.int r.1)) r.2) {h : Hp} (e : R_280_19 h = some r) : G X d 280 19 [none, none, none] [] h := by
  unfold R_280_19 at e
  rw [← Option.some.inj e] at hq
  exact k_280_19 hq
noncomputable def R_280_50 (h : Hp) : Option (Int32 × Hp) := some (0, h)
theorem r_280_50 {X : GX} {d : Nat} {r : Int32 × Hp} (hd : 3 ≤ d) (hq : RtX X (some (.int r.1)) r.2) {h : Hp} (e : R_280_50 h = some r) : G X d 280 50 [none, none, none] [] h := by
  unfold R_280_50 at e
  rw [← Option.some.inj e] at hq
  exact k_280_50 hq
noncomputable def R_280_45 (h : Hp) : Option (Int32 × Hp) := some (((-13)), h)
theorem r_280_45 {X : GX} {d : Nat} {r : Int32 × Hp} (hd : 3 ≤ d) (hq : RtX X (some (.int r.1)) r.2) {h : Hp} (e : R_280_45 h = some r) : G X d 280 45 [none, none, none] [] h := by
  unfold R_280_45 at e
  rw [← Option.some.inj e] at hq
  exact k_280_45 hq
noncomputable def R_280_35 (v1 : Int32) (h : Hp) : Option (Int32 × Hp) := gd (IA 94 v1) (if (h 94 (Int32.toNatClampNeg v1)) = 1 then R_280_50 h else R_280_45 h)
theorem r_280_35 {X : GX} {d : Nat} {r : Int32 × Hp} (hd : 3 ≤ d) (hq : RtX X (some (.int r.1)) r.2) {h : Hp} {v1 : Int32} (e : R_280_35 v1 h = some r) : G X d 280 35 [some (.ref 84), some (.int v1), none] [] h := by
  unfold R_280_35 at e
  have g := gd_s e; clear e; obtain ⟨b0, e⟩ := g
  refine k_280_35 b0 (fun c => ?_) (fun c => ?_)
  · rw [if_pos c] at e; exact r_280_50 hd hq e
  · rw [if_neg c] at e; exact r_280_45 hd hq e
noncomputable def R_280_30 (h : Hp) : Option (Int32 × Hp) := some (((-11)), h)
theorem r_280_30 {X : GX} {d : Nat} {r : Int32 × Hp} (hd : 3 ≤ d) (hq : RtX X (some (.int r.1)) r.2) {h : Hp} (e : R_280_30 h = some r) : G X d 280 30 [none, none, none] [] h := by
  unfold R_280_30 at e
  rw [← Option.some.inj e] at hq
  exact k_280_30 hq
noncomputable def R_280_21 (v1 : Int32) (h : Hp) : Option (Int32 × Hp) := gd (IA 94 v1) (if (h 94 (Int32.toNatClampNeg v1)) = 0 then R_280_30 h else R_280_35 v1 h)
theorem r_280_21 {X : GX} {d : Nat} {r : Int32 × Hp} (hd : 3 ≤ d) (hq : RtX X (some (.int r.1)) r.2) {h : Hp} {v1 : Int32} (e : R_280_21 v1 h = some r) : G X d 280 21 [some (.ref 84), some (.int v1), none] [] h := by
  unfold R_280_21 at e
  have g := gd_s e; clear e; obtain ⟨b0, e⟩ := g
  refine k_280_21 b0 (fun c => ?_) (fun c => ?_)
  · rw [if_neg c] at e; exact r_280_35 hd hq e
  · rw [if_pos c] at e; exact r_280_30 hd hq e
noncomputable def R_280_16 (v1 : Int32) (s0 : Int32) (h : Hp) : Option (Int32 × Hp) := if s0 = 0 then R_280_19 h else R_280_21 v1 h
theorem r_280_16 {X : GX} {d : Nat} {r : Int32 × Hp} (hd : 3 ≤ d) (hq : RtX X (some (.int r.1)) r.2) {h : Hp} {v1 : Int32} {s0 : Int32} (e : R_280_16 v1 s0 h = some r) : G X d 280 16 [some (.ref 84), some (.int v1), none] [.int s0] h := by
  unfold R_280_16 at e
  refine k_280_16 (fun c => ?_) (fun c => ?_)
  · rw [if_neg c] at e; exact r_280_21 hd hq e
  · rw [if_pos c] at e; exact r_280_19 hd hq e
noncomputable def R_280_7 (v1 : Int32) (v2 : Int32) (h : Hp) : Option (Int32 × Hp) := bndI (S_177 (Int32.toInt64 v2) 0 20 h) (R_280_16 v1)
theorem r_280_7 {X : GX} {d : Nat} {r : Int32 × Hp} (hd : 3 ≤ d) (hq : RtX X (some (.int r.1)) r.2) {h : Hp} {v1 : Int32} {v2 : Int32} (e : R_280_7 v1 v2 h = some r) : G X d 280 7 [some (.ref 84), some (.int v1), some (.int v2)] [] h := by
  unfold R_280_7 at e
  obtain ⟨x, h2, e1, e2⟩ := bndI_s e
  refine k_280_7 (by omega) (t_177 e1) ?_
  rintro _ _ ⟨rfl, rfl⟩
  exact r_280_16 hd hq e2
noncomputable def R_280_4 (v1 : Int32) (v2 : Int32) (s0 : Int32) (h : Hp) : Option (Int32 × Hp) := if s0 = 0 then R_280_19 h else R_280_7 v1 v2 h
theorem r_280_4 {X : GX} {d : Nat} {r : Int32 × Hp} (hd : 3 ≤ d) (hq : RtX X (some (.int r.1)) r.2) {h : Hp} {v1 : Int32} {v2 : Int32} {s0 : Int32} (e : R_280_4 v1 v2 s0 h = some r) : G X d 280 4 [some (.ref 84), some (.int v1), some (.int v2)] [.int s0] h := by
  unfold R_280_4 at e
  refine k_280_4 (fun c => ?_) (fun c => ?_)
  · rw [if_pos c] at e; exact r_280_19 hd hq e
  · rw [if_neg c] at e; exact r_280_7 hd hq e
noncomputable def R_280_0 (v1 : Int32) (v2 : Int32) (h : Hp) : Option (Int32 × Hp) := bndI (S_276 v1 h) (R_280_4 v1 v2)
theorem r_280_0 {X : GX} {d : Nat} {r : Int32 × Hp} (hd : 3 ≤ d) (hq : RtX X (some (.int r.1)) r.2) {h : Hp} {v1 : Int32} {v2 : Int32} (e : R_280_0 v1 v2 h = some r) : G X d 280 0 [some (.ref 84), some (.int v1), some (.int v2)] [] h := by
  unfold R_280_0 at e
  obtain ⟨x, h2, e1, e2⟩ := bndI_s e
  refine k_280_0 (by omega) (t_276 e1) ?_
  rintro _ _ ⟨rfl, rfl⟩
  exact r_280_4 hd hq e2
noncomputable def S_280 (v1 : Int32) (v2 : Int32) (h : Hp) : Option (Int32 × Hp) := R_280_0 v1 v2 h
set_option maxRecDepth 100000 in
theorem t_280 {v1 : Int32} {v2 : Int32} {h : Hp} {r : Int32 × Hp} (e : S_280 v1 v2 h = some r) : CI 3 280 [.ref 84, .int v1, .int v2] h (fun x g => x = r.1 ∧ g = r.2) := by
  refine C.of mo_280 (Nat.le_of_ble_eq_true rfl) (fun X hq => ?_)
  exact r_280_0 (Nat.le_refl _) (hq _ _ ⟨_, rfl, rfl, rfl⟩) e
/-! 279 PlayedTruthModel.goAll(III)I -/
noncomputable def R_279_114 (v5 : Int32) (h : Hp) : Option (Int32 × Hp) := some (v5, h)
theorem r_279_114 {X : GX} {d : Nat} {r : Int32 × Hp} (hd : 8 ≤ d) (hq : RtX X (some (.int r.1)) r.2) {h : Hp} {v5 : Int32} (e : R_279_114 v5 h = some r) : G X d 279 114 [none, none, none, none, none, some (.int v5), none, none] [] h := by
  unfold R_279_114 at e
  rw [← Option.some.inj e] at hq
  exact k_279_114 hq
noncomputable def R_279_104 (rec_22 : Int32 → Int32 → Int32 → Int32 → Int32 → Hp → Option (Int32 × Hp)) (v1 : Int32) (v2 : Int32) (v3 : Int32) (v6 : Int32) (s0 : Int32) (h : Hp) : Option (Int32 × Hp) := rec_22 v1 v2 v3 (s0 + 0) (v6 + 1) h
theorem r_279_104 {X : GX} {d : Nat} {r : Int32 × Hp} (hd : 8 ≤ d) (hq : RtX X (some (.int r.1)) r.2) {rec_22 : Int32 → Int32 → Int32 → Int32 → Int32 → Hp → Option (Int32 × Hp)} (hr_22 : ∀ {v1 : Int32} {v2 : Int32} {v3 : Int32} {v5 : Int32} {v6 : Int32} {h : Hp}, rec_22 v1 v2 v3 v5 v6 h = some r → G X d 279 22 [some (.ref 84), some (.int v1), some (.int v2), some (.int v3), none, some (.int v5), some (.int v6), none] [] h) {h : Hp} {v1 : Int32} {v2 : Int32} {v3 : Int32} {v6 : Int32} {s0 : Int32} (e : R_279_104 rec_22 v1 v2 v3 v6 s0 h = some r) : G X d 279 104 [some (.ref 84), some (.int v1), some (.int v2), some (.int v3), none, none, some (.int v6), none] [.int s0] h := by
  unfold R_279_104 at e
  exact k_279_104 (hr_22 e)
noncomputable def R_279_101 (rec_22 : Int32 → Int32 → Int32 → Int32 → Int32 → Hp → Option (Int32 × Hp)) (v1 : Int32) (v2 : Int32) (v3 : Int32) (v6 : Int32) (s1 : Int32) (s0 : Int32) (h : Hp) : Option (Int32 × Hp) := rec_22 v1 v2 v3 (s1 + s0) (v6 + 1) h
theorem r_279_101 {X : GX} {d : Nat} {r : Int32 × Hp} (hd : 8 ≤ d) (hq : RtX X (some (.int r.1)) r.2) {rec_22 : Int32 → Int32 → Int32 → Int32 → Int32 → Hp → Option (Int32 × Hp)} (hr_22 : ∀ {v1 : Int32} {v2 : Int32} {v3 : Int32} {v5 : Int32} {v6 : Int32} {h : Hp}, rec_22 v1 v2 v3 v5 v6 h = some r → G X d 279 22 [some (.ref 84), some (.int v1), some (.int v2), some (.int v3), none, some (.int v5), some (.int v6), none] [] h) {h : Hp} {v1 : Int32} {v2 : Int32} {v3 : Int32} {v6 : Int32} {s1 : Int32} {s0 : Int32} (e : R_279_101 rec_22 v1 v2 v3 v6 s1 s0 h = some r) : G X d 279 101 [some (.ref 84), some (.int v1), some (.int v2), some (.int v3), none, none, some (.int v6), none] [.int s0, .int s1] h := by
  unfold R_279_101 at e
  exact k_279_101 (hr_22 e)
noncomputable def R_279_95 (rec_22 : Int32 → Int32 → Int32 → Int32 → Int32 → Hp → Option (Int32 × Hp)) (v1 : Int32) (v2 : Int32) (v3 : Int32) (v6 : Int32) (v7 : Int32) (s0 : Int32) (h : Hp) : Option (Int32 × Hp) := bndI (S_226 v7 h) (R_279_101 rec_22 v1 v2 v3 v6 s0)
theorem r_279_95 {X : GX} {d : Nat} {r : Int32 × Hp} (hd : 8 ≤ d) (hq : RtX X (some (.int r.1)) r.2) {rec_22 : Int32 → Int32 → Int32 → Int32 → Int32 → Hp → Option (Int32 × Hp)} (hr_22 : ∀ {v1 : Int32} {v2 : Int32} {v3 : Int32} {v5 : Int32} {v6 : Int32} {h : Hp}, rec_22 v1 v2 v3 v5 v6 h = some r → G X d 279 22 [some (.ref 84), some (.int v1), some (.int v2), some (.int v3), none, some (.int v5), some (.int v6), none] [] h) {h : Hp} {v1 : Int32} {v2 : Int32} {v3 : Int32} {v6 : Int32} {v7 : Int32} {s0 : Int32} (e : R_279_95 rec_22 v1 v2 v3 v6 v7 s0 h = some r) : G X d 279 95 [some (.ref 84), some (.int v1), some (.int v2), some (.int v3), none, none, some (.int v6), some (.int v7)] [.int s0] h := by
  unfold R_279_95 at e
  obtain ⟨x, h2, e1, e2⟩ := bndI_s e
  refine k_279_95 (by omega) (t_226 e1) ?_
  rintro _ _ ⟨rfl, rfl⟩
  exact r_279_101 hd hq hr_22 e2
noncomputable def R_279_92 (rec_22 : Int32 → Int32 → Int32 → Int32 → Int32 → Hp → Option (Int32 × Hp)) (v1 : Int32) (v2 : Int32) (v3 : Int32) (v6 : Int32) (v7 : Int32) (s1 : Int32) (s0 : Int32) (h : Hp) : Option (Int32 × Hp) := if s0 = 0 then R_279_95 rec_22 v1 v2 v3 v6 v7 s1 h else R_279_104 rec_22 v1 v2 v3 v6 s1 h
theorem r_279_92 {X : GX} {d : Nat} {r : Int32 × Hp} (hd : 8 ≤ d) (hq : RtX X (some (.int r.1)) r.2) {rec_22 : Int32 → Int32 → Int32 → Int32 → Int32 → Hp → Option (Int32 × Hp)} (hr_22 : ∀ {v1 : Int32} {v2 : Int32} {v3 : Int32} {v5 : Int32} {v6 : Int32} {h : Hp}, rec_22 v1 v2 v3 v5 v6 h = some r → G X d 279 22 [some (.ref 84), some (.int v1), some (.int v2), some (.int v3), none, some (.int v5), some (.int v6), none] [] h) {h : Hp} {v1 : Int32} {v2 : Int32} {v3 : Int32} {v6 : Int32} {v7 : Int32} {s1 : Int32} {s0 : Int32} (e : R_279_92 rec_22 v1 v2 v3 v6 v7 s1 s0 h = some r) : G X d 279 92 [some (.ref 84), some (.int v1), some (.int v2), some (.int v3), none, none, some (.int v6), some (.int v7)] [.int s0, .int s1] h := by
  unfold R_279_92 at e
  refine k_279_92 (fun c => ?_) (fun c => ?_)
  · rw [if_neg c] at e; exact r_279_104 hd hq hr_22 e
  · rw [if_pos c] at e; exact r_279_95 hd hq hr_22 e
noncomputable def R_279_88 (rec_22 : Int32 → Int32 → Int32 → Int32 → Int32 → Hp → Option (Int32 × Hp)) (v1 : Int32) (v2 : Int32) (v3 : Int32) (v6 : Int32) (v7 : Int32) (s0 : Int32) (h : Hp) : Option (Int32 × Hp) := bndI (S_205 h) (R_279_92 rec_22 v1 v2 v3 v6 v7 s0)
theorem r_279_88 {X : GX} {d : Nat} {r : Int32 × Hp} (hd : 8 ≤ d) (hq : RtX X (some (.int r.1)) r.2) {rec_22 : Int32 → Int32 → Int32 → Int32 → Int32 → Hp → Option (Int32 × Hp)} (hr_22 : ∀ {v1 : Int32} {v2 : Int32} {v3 : Int32} {v5 : Int32} {v6 : Int32} {h : Hp}, rec_22 v1 v2 v3 v5 v6 h = some r → G X d 279 22 [some (.ref 84), some (.int v1), some (.int v2), some (.int v3), none, some (.int v5), some (.int v6), none] [] h) {h : Hp} {v1 : Int32} {v2 : Int32} {v3 : Int32} {v6 : Int32} {v7 : Int32} {s0 : Int32} (e : R_279_88 rec_22 v1 v2 v3 v6 v7 s0 h = some r) : G X d 279 88 [some (.ref 84), some (.int v1), some (.int v2), some (.int v3), none, none, some (.int v6), some (.int v7)] [.int s0] h := by
  unfold R_279_88 at e
  obtain ⟨x, h2, e1, e2⟩ := bndI_s e
  refine k_279_88 (by omega) (t_205 e1) ?_
  rintro _ _ ⟨rfl, rfl⟩
  exact r_279_92 hd hq hr_22 e2
noncomputable def R_279_85 (rec_22 : Int32 → Int32 → Int32 → Int32 → Int32 → Hp → Option (Int32 × Hp)) (v1 : Int32) (v2 : Int32) (v3 : Int32) (v6 : Int32) (v7 : Int32) (s1 : Int32) (s0 : Int32) (h : Hp) : Option (Int32 × Hp) := if s0 = 0 then R_279_104 rec_22 v1 v2 v3 v6 s1 h else R_279_88 rec_22 v1 v2 v3 v6 v7 s1 h
theorem r_279_85 {X : GX} {d : Nat} {r : Int32 × Hp} (hd : 8 ≤ d) (hq : RtX X (some (.int r.1)) r.2) {rec_22 : Int32 → Int32 → Int32 → Int32 → Int32 → Hp → Option (Int32 × Hp)} (hr_22 : ∀ {v1 : Int32} {v2 : Int32} {v3 : Int32} {v5 : Int32} {v6 : Int32} {h : Hp}, rec_22 v1 v2 v3 v5 v6 h = some r → G X d 279 22 [some (.ref 84), some (.int v1), some (.int v2), some (.int v3), none, some (.int v5), some (.int v6), none] [] h) {h : Hp} {v1 : Int32} {v2 : Int32} {v3 : Int32} {v6 : Int32} {v7 : Int32} {s1 : Int32} {s0 : Int32} (e : R_279_85 rec_22 v1 v2 v3 v6 v7 s1 s0 h = some r) : G X d 279 85 [some (.ref 84), some (.int v1), some (.int v2), some (.int v3), none, none, some (.int v6), some (.int v7)] [.int s0, .int s1] h := by
  unfold R_279_85 at e
  refine k_279_85 (fun c => ?_) (fun c => ?_)
  · rw [if_pos c] at e; exact r_279_104 hd hq hr_22 e
  · rw [if_neg c] at e; exact r_279_88 hd hq hr_22 e
noncomputable def R_279_53 (rec_22 : Int32 → Int32 → Int32 → Int32 → Int32 → Hp → Option (Int32 × Hp)) (v1 : Int32) (v2 : Int32) (v3 : Int32) (v5 : Int32) (v6 : Int32) (h : Hp) : Option (Int32 × Hp) := gd (IA 96 (((40 * v1) + v2) + v6) ∧ IA 85 0) (bndI (S_177 (Int32.toInt64 (h 96 (Int32.toNatClampNeg (((40 * v1) + v2) + v6)))) 0 (Int32.toInt64 (h 85 (Int32.toNatClampNeg 0))) h) (R_279_85 rec_22 v1 v2 v3 v6 (h 96 (Int32.toNatClampNeg (((40 * v1) + v2) + v6))) v5))
theorem r_279_53 {X : GX} {d : Nat} {r : Int32 × Hp} (hd : 8 ≤ d) (hq : RtX X (some (.int r.1)) r.2) {rec_22 : Int32 → Int32 → Int32 → Int32 → Int32 → Hp → Option (Int32 × Hp)} (hr_22 : ∀ {v1 : Int32} {v2 : Int32} {v3 : Int32} {v5 : Int32} {v6 : Int32} {h : Hp}, rec_22 v1 v2 v3 v5 v6 h = some r → G X d 279 22 [some (.ref 84), some (.int v1), some (.int v2), some (.int v3), none, some (.int v5), some (.int v6), none] [] h) {h : Hp} {v1 : Int32} {v2 : Int32} {v3 : Int32} {v5 : Int32} {v6 : Int32} (e : R_279_53 rec_22 v1 v2 v3 v5 v6 h = some r) : G X d 279 53 [some (.ref 84), some (.int v1), some (.int v2), some (.int v3), none, some (.int v5), some (.int v6), none] [] h := by
  unfold R_279_53 at e
  have g := gd_s e; clear e; obtain ⟨⟨b0, b1⟩, e⟩ := g
  obtain ⟨x, h2, e1, e2⟩ := bndI_s e
  refine k_279_53 b0 b1 (by omega) (t_177 e1) ?_
  rintro _ _ ⟨rfl, rfl⟩
  exact r_279_85 hd hq hr_22 e2
noncomputable def R_279_50 (h : Hp) : Option (Int32 × Hp) := some (((-12)), h)
theorem r_279_50 {X : GX} {d : Nat} {r : Int32 × Hp} (hd : 8 ≤ d) (hq : RtX X (some (.int r.1)) r.2) {h : Hp} (e : R_279_50 h = some r) : G X d 279 50 [none, none, none, none, none, none, none, none] [] h := by
  unfold R_279_50 at e
  rw [← Option.some.inj e] at hq
  exact k_279_50 hq
noncomputable def R_279_47 (rec_22 : Int32 → Int32 → Int32 → Int32 → Int32 → Hp → Option (Int32 × Hp)) (v1 : Int32) (v2 : Int32) (v3 : Int32) (v5 : Int32) (v6 : Int32) (s0 : Int32) (h : Hp) : Option (Int32 × Hp) := if s0 = 0 then R_279_50 h else R_279_53 rec_22 v1 v2 v3 v5 v6 h
theorem r_279_47 {X : GX} {d : Nat} {r : Int32 × Hp} (hd : 8 ≤ d) (hq : RtX X (some (.int r.1)) r.2) {rec_22 : Int32 → Int32 → Int32 → Int32 → Int32 → Hp → Option (Int32 × Hp)} (hr_22 : ∀ {v1 : Int32} {v2 : Int32} {v3 : Int32} {v5 : Int32} {v6 : Int32} {h : Hp}, rec_22 v1 v2 v3 v5 v6 h = some r → G X d 279 22 [some (.ref 84), some (.int v1), some (.int v2), some (.int v3), none, some (.int v5), some (.int v6), none] [] h) {h : Hp} {v1 : Int32} {v2 : Int32} {v3 : Int32} {v5 : Int32} {v6 : Int32} {s0 : Int32} (e : R_279_47 rec_22 v1 v2 v3 v5 v6 s0 h = some r) : G X d 279 47 [some (.ref 84), some (.int v1), some (.int v2), some (.int v3), none, some (.int v5), some (.int v6), none] [.int s0] h := by
  unfold R_279_47 at e
  refine k_279_47 (fun c => ?_) (fun c => ?_)
  · rw [if_neg c] at e; exact r_279_53 hd hq hr_22 e
  · rw [if_pos c] at e; exact r_279_50 hd hq e
noncomputable def R_279_28 (rec_22 : Int32 → Int32 → Int32 → Int32 → Int32 → Hp → Option (Int32 × Hp)) (v1 : Int32) (v2 : Int32) (v3 : Int32) (v5 : Int32) (v6 : Int32) (h : Hp) : Option (Int32 × Hp) := gd (IA 95 v1) (bndI (S_177 ((Int32.toInt64 v2) + (Int32.toInt64 v6)) 0 (Int32.toInt64 ((h 95 (Int32.toNatClampNeg v1)) - 1)) h) (R_279_47 rec_22 v1 v2 v3 v5 v6))
theorem r_279_28 {X : GX} {d : Nat} {r : Int32 × Hp} (hd : 8 ≤ d) (hq : RtX X (some (.int r.1)) r.2) {rec_22 : Int32 → Int32 → Int32 → Int32 → Int32 → Hp → Option (Int32 × Hp)} (hr_22 : ∀ {v1 : Int32} {v2 : Int32} {v3 : Int32} {v5 : Int32} {v6 : Int32} {h : Hp}, rec_22 v1 v2 v3 v5 v6 h = some r → G X d 279 22 [some (.ref 84), some (.int v1), some (.int v2), some (.int v3), none, some (.int v5), some (.int v6), none] [] h) {h : Hp} {v1 : Int32} {v2 : Int32} {v3 : Int32} {v5 : Int32} {v6 : Int32} (e : R_279_28 rec_22 v1 v2 v3 v5 v6 h = some r) : G X d 279 28 [some (.ref 84), some (.int v1), some (.int v2), some (.int v3), none, some (.int v5), some (.int v6), none] [] h := by
  unfold R_279_28 at e
  have g := gd_s e; clear e; obtain ⟨b0, e⟩ := g
  obtain ⟨x, h2, e1, e2⟩ := bndI_s e
  refine k_279_28 b0 (by omega) (t_177 e1) ?_
  rintro _ _ ⟨rfl, rfl⟩
  exact r_279_47 hd hq hr_22 e2
noncomputable def R_279_22 (rec_22 : Int32 → Int32 → Int32 → Int32 → Int32 → Hp → Option (Int32 × Hp)) (v1 : Int32) (v2 : Int32) (v3 : Int32) (v5 : Int32) (v6 : Int32) (h : Hp) : Option (Int32 × Hp) := if v3 ≤ v6 then R_279_114 v5 h else R_279_28 rec_22 v1 v2 v3 v5 v6 h
theorem r_279_22 {X : GX} {d : Nat} {r : Int32 × Hp} (hd : 8 ≤ d) (hq : RtX X (some (.int r.1)) r.2) {rec_22 : Int32 → Int32 → Int32 → Int32 → Int32 → Hp → Option (Int32 × Hp)} (hr_22 : ∀ {v1 : Int32} {v2 : Int32} {v3 : Int32} {v5 : Int32} {v6 : Int32} {h : Hp}, rec_22 v1 v2 v3 v5 v6 h = some r → G X d 279 22 [some (.ref 84), some (.int v1), some (.int v2), some (.int v3), none, some (.int v5), some (.int v6), none] [] h) {h : Hp} {v1 : Int32} {v2 : Int32} {v3 : Int32} {v5 : Int32} {v6 : Int32} (e : R_279_22 rec_22 v1 v2 v3 v5 v6 h = some r) : G X d 279 22 [some (.ref 84), some (.int v1), some (.int v2), some (.int v3), none, some (.int v5), some (.int v6), none] [] h := by
  unfold R_279_22 at e
  refine k_279_22 (fun c => ?_) (fun c => ?_)
  · rw [if_pos c] at e; exact r_279_114 hd hq e
  · rw [if_neg c] at e; exact r_279_28 hd hq hr_22 e
noncomputable def H_279_22 : Nat → Int32 → Int32 → Int32 → Int32 → Int32 → Hp → Option (Int32 × Hp)
  | 0, _, _, _, _, _, _ => none
  | n + 1, v1, v2, v3, v5, v6, h => R_279_22 (H_279_22 n) v1 v2 v3 v5 v6 h
theorem h_279_22 {X : GX} {d : Nat} {r : Int32 × Hp} (hd : 8 ≤ d) (hq : RtX X (some (.int r.1)) r.2) {n : Nat} {h : Hp} {v1 : Int32} {v2 : Int32} {v3 : Int32} {v5 : Int32} {v6 : Int32} (e : H_279_22 n v1 v2 v3 v5 v6 h = some r) : G X d 279 22 [some (.ref 84), some (.int v1), some (.int v2), some (.int v3), none, some (.int v5), some (.int v6), none] [] h := by
  induction n generalizing v1 v2 v3 v5 v6 h with
  | zero => cases e
  | succ n ih => exact r_279_22 hd hq (fun e => ih e) e
noncomputable def R_279_16 (v1 : Int32) (v2 : Int32) (v3 : Int32) (h : Hp) : Option (Int32 × Hp) := H_279_22 fuL v1 v2 v3 0 0 h
theorem r_279_16 {X : GX} {d : Nat} {r : Int32 × Hp} (hd : 8 ≤ d) (hq : RtX X (some (.int r.1)) r.2) {h : Hp} {v1 : Int32} {v2 : Int32} {v3 : Int32} (e : R_279_16 v1 v2 v3 h = some r) : G X d 279 16 [some (.ref 84), some (.int v1), some (.int v2), some (.int v3), none, none, none, none] [] h := by
  unfold R_279_16 at e
  exact k_279_16 (h_279_22 hd hq e)
noncomputable def R_279_13 (v4 : Int32) (h : Hp) : Option (Int32 × Hp) := some (v4, h)
theorem r_279_13 {X : GX} {d : Nat} {r : Int32 × Hp} (hd : 8 ≤ d) (hq : RtX X (some (.int r.1)) r.2) {h : Hp} {v4 : Int32} (e : R_279_13 v4 h = some r) : G X d 279 13 [none, none, none, none, some (.int v4), none, none, none] [] h := by
  unfold R_279_13 at e
  rw [← Option.some.inj e] at hq
  exact k_279_13 hq
noncomputable def R_279_6 (v1 : Int32) (v2 : Int32) (v3 : Int32) (s0 : Int32) (h : Hp) : Option (Int32 × Hp) := if 0 ≤ s0 then R_279_16 v1 v2 v3 h else R_279_13 s0 h
theorem r_279_6 {X : GX} {d : Nat} {r : Int32 × Hp} (hd : 8 ≤ d) (hq : RtX X (some (.int r.1)) r.2) {h : Hp} {v1 : Int32} {v2 : Int32} {v3 : Int32} {s0 : Int32} (e : R_279_6 v1 v2 v3 s0 h = some r) : G X d 279 6 [some (.ref 84), some (.int v1), some (.int v2), some (.int v3), none, none, none, none] [.int s0] h := by
  unfold R_279_6 at e
  refine k_279_6 (fun c => ?_) (fun c => ?_)
  · rw [if_pos c] at e; exact r_279_16 hd hq e
  · rw [if_neg c] at e; exact r_279_13 hd hq e
noncomputable def R_279_0 (v1 : Int32) (v2 : Int32) (v3 : Int32) (h : Hp) : Option (Int32 × Hp) := bndI (S_280 v1 v3 h) (R_279_6 v1 v2 v3)
theorem r_279_0 {X : GX} {d : Nat} {r : Int32 × Hp} (hd : 8 ≤ d) (hq : RtX X (some (.int r.1)) r.2) {h : Hp} {v1 : Int32} {v2 : Int32} {v3 : Int32} (e : R_279_0 v1 v2 v3 h = some r) : G X d 279 0 [some (.ref 84), some (.int v1), some (.int v2), some (.int v3), none, none, none, none] [] h := by
  unfold R_279_0 at e
  obtain ⟨x, h2, e1, e2⟩ := bndI_s e
  refine k_279_0 (by omega) (t_280 e1) ?_
  rintro _ _ ⟨rfl, rfl⟩
  exact r_279_6 hd hq e2
noncomputable def S_279 (v1 : Int32) (v2 : Int32) (v3 : Int32) (h : Hp) : Option (Int32 × Hp) := R_279_0 v1 v2 v3 h
set_option maxRecDepth 100000 in
theorem t_279 {v1 : Int32} {v2 : Int32} {v3 : Int32} {h : Hp} {r : Int32 × Hp} (e : S_279 v1 v2 v3 h = some r) : CI 8 279 [.ref 84, .int v1, .int v2, .int v3] h (fun x g => x = r.1 ∧ g = r.2) := by
  refine C.of mo_279 (Nat.le_of_ble_eq_true rfl) (fun X hq => ?_)
  exact r_279_0 (Nat.le_refl _) (hq _ _ ⟨_, rfl, rfl, rfl⟩) e
/-! 281 PlayedTruthModel.wouldBe(III)I -/
noncomputable def R_281_142 (v5 : Int32) (h : Hp) : Option (Int32 × Hp) := some (v5, h)
theorem r_281_142 {X : GX} {d : Nat} {r : Int32 × Hp} (hd : 8 ≤ d) (hq : RtX X (some (.int r.1)) r.2) {h : Hp} {v5 : Int32} (e : R_281_142 v5 h = some r) : G X d 281 142 [none, none, none, none, none, some (.int v5), none] [] h := by
  unfold R_281_142 at e
  rw [← Option.some.inj e] at hq
  exact k_281_142 hq
noncomputable def R_281_138 (v5 : Int32) (h : Hp) : Option (Int32 × Hp) := bndV (S_231 h) (R_281_142 v5)
theorem r_281_138 {X : GX} {d : Nat} {r : Int32 × Hp} (hd : 8 ≤ d) (hq : RtX X (some (.int r.1)) r.2) {h : Hp} {v5 : Int32} (e : R_281_138 v5 h = some r) : G X d 281 138 [some (.ref 84), none, none, none, none, some (.int v5), none] [] h := by
  unfold R_281_138 at e
  obtain ⟨x, h2, e1, e2⟩ := bndV_s e
  refine k_281_138 (by omega) (t_231 e1) ?_
  rintro _ rfl
  exact r_281_142 hd hq e2
noncomputable def R_281_102 (rec_26 : Int32 → Int32 → Int32 → Int32 → Int32 → Hp → Option (Int32 × Hp)) (v1 : Int32) (v2 : Int32) (v3 : Int32) (v6 : Int32) (h : Hp) : Option (Int32 × Hp) := rec_26 v1 v2 v3 ((-4)) (v6 + 1) h
theorem r_281_102 {X : GX} {d : Nat} {r : Int32 × Hp} (hd : 8 ≤ d) (hq : RtX X (some (.int r.1)) r.2) {rec_26 : Int32 → Int32 → Int32 → Int32 → Int32 → Hp → Option (Int32 × Hp)} (hr_26 : ∀ {v1 : Int32} {v2 : Int32} {v3 : Int32} {v5 : Int32} {v6 : Int32} {h : Hp}, rec_26 v1 v2 v3 v5 v6 h = some r → G X d 281 26 [some (.ref 84), some (.int v1), some (.int v2), some (.int v3), none, some (.int v5), some (.int v6)] [] h) {h : Hp} {v1 : Int32} {v2 : Int32} {v3 : Int32} {v6 : Int32} (e : R_281_102 rec_26 v1 v2 v3 v6 h = some r) : G X d 281 102 [some (.ref 84), some (.int v1), some (.int v2), some (.int v3), none, none, some (.int v6)] [] h := by
  unfold R_281_102 at e
  exact k_281_102 (hr_26 e)
noncomputable def R_281_129 (rec_26 : Int32 → Int32 → Int32 → Int32 → Int32 → Hp → Option (Int32 × Hp)) (v1 : Int32) (v2 : Int32) (v3 : Int32) (v6 : Int32) (s1 : Int32) (s0 : Int32) (h : Hp) : Option (Int32 × Hp) := rec_26 v1 v2 v3 (s1 + s0) (v6 + 1) h
theorem r_281_129 {X : GX} {d : Nat} {r : Int32 × Hp} (hd : 8 ≤ d) (hq : RtX X (some (.int r.1)) r.2) {rec_26 : Int32 → Int32 → Int32 → Int32 → Int32 → Hp → Option (Int32 × Hp)} (hr_26 : ∀ {v1 : Int32} {v2 : Int32} {v3 : Int32} {v5 : Int32} {v6 : Int32} {h : Hp}, rec_26 v1 v2 v3 v5 v6 h = some r → G X d 281 26 [some (.ref 84), some (.int v1), some (.int v2), some (.int v3), none, some (.int v5), some (.int v6)] [] h) {h : Hp} {v1 : Int32} {v2 : Int32} {v3 : Int32} {v6 : Int32} {s1 : Int32} {s0 : Int32} (e : R_281_129 rec_26 v1 v2 v3 v6 s1 s0 h = some r) : G X d 281 129 [some (.ref 84), some (.int v1), some (.int v2), some (.int v3), none, none, some (.int v6)] [.int s0, .int s1] h := by
  unfold R_281_129 at e
  exact k_281_129 (hr_26 e)
noncomputable def R_281_109 (rec_26 : Int32 → Int32 → Int32 → Int32 → Int32 → Hp → Option (Int32 × Hp)) (v1 : Int32) (v2 : Int32) (v3 : Int32) (v5 : Int32) (v6 : Int32) (h : Hp) : Option (Int32 × Hp) := gd (IA 96 (((40 * v1) + v2) + v6)) (bndI (S_226 (h 96 (Int32.toNatClampNeg (((40 * v1) + v2) + v6))) h) (R_281_129 rec_26 v1 v2 v3 v6 v5))
theorem r_281_109 {X : GX} {d : Nat} {r : Int32 × Hp} (hd : 8 ≤ d) (hq : RtX X (some (.int r.1)) r.2) {rec_26 : Int32 → Int32 → Int32 → Int32 → Int32 → Hp → Option (Int32 × Hp)} (hr_26 : ∀ {v1 : Int32} {v2 : Int32} {v3 : Int32} {v5 : Int32} {v6 : Int32} {h : Hp}, rec_26 v1 v2 v3 v5 v6 h = some r → G X d 281 26 [some (.ref 84), some (.int v1), some (.int v2), some (.int v3), none, some (.int v5), some (.int v6)] [] h) {h : Hp} {v1 : Int32} {v2 : Int32} {v3 : Int32} {v5 : Int32} {v6 : Int32} (e : R_281_109 rec_26 v1 v2 v3 v5 v6 h = some r) : G X d 281 109 [some (.ref 84), some (.int v1), some (.int v2), some (.int v3), none, some (.int v5), some (.int v6)] [] h := by
  unfold R_281_109 at e
  have g := gd_s e; clear e; obtain ⟨b0, e⟩ := g
  obtain ⟨x, h2, e1, e2⟩ := bndI_s e
  refine k_281_109 b0 (by omega) (t_226 e1) ?_
  rintro _ _ ⟨rfl, rfl⟩
  exact r_281_129 hd hq hr_26 e2
noncomputable def R_281_99 (rec_26 : Int32 → Int32 → Int32 → Int32 → Int32 → Hp → Option (Int32 × Hp)) (v1 : Int32) (v2 : Int32) (v3 : Int32) (v5 : Int32) (v6 : Int32) (s0 : Int32) (h : Hp) : Option (Int32 × Hp) := if s0 = 0 then R_281_109 rec_26 v1 v2 v3 v5 v6 h else R_281_102 rec_26 v1 v2 v3 v6 h
theorem r_281_99 {X : GX} {d : Nat} {r : Int32 × Hp} (hd : 8 ≤ d) (hq : RtX X (some (.int r.1)) r.2) {rec_26 : Int32 → Int32 → Int32 → Int32 → Int32 → Hp → Option (Int32 × Hp)} (hr_26 : ∀ {v1 : Int32} {v2 : Int32} {v3 : Int32} {v5 : Int32} {v6 : Int32} {h : Hp}, rec_26 v1 v2 v3 v5 v6 h = some r → G X d 281 26 [some (.ref 84), some (.int v1), some (.int v2), some (.int v3), none, some (.int v5), some (.int v6)] [] h) {h : Hp} {v1 : Int32} {v2 : Int32} {v3 : Int32} {v5 : Int32} {v6 : Int32} {s0 : Int32} (e : R_281_99 rec_26 v1 v2 v3 v5 v6 s0 h = some r) : G X d 281 99 [some (.ref 84), some (.int v1), some (.int v2), some (.int v3), none, some (.int v5), some (.int v6)] [.int s0] h := by
  unfold R_281_99 at e
  refine k_281_99 (fun c => ?_) (fun c => ?_)
  · rw [if_pos c] at e; exact r_281_109 hd hq hr_26 e
  · rw [if_neg c] at e; exact r_281_102 hd hq hr_26 e
noncomputable def R_281_95 (rec_26 : Int32 → Int32 → Int32 → Int32 → Int32 → Hp → Option (Int32 × Hp)) (v1 : Int32) (v2 : Int32) (v3 : Int32) (v5 : Int32) (v6 : Int32) (h : Hp) : Option (Int32 × Hp) := bndI (S_205 h) (R_281_99 rec_26 v1 v2 v3 v5 v6)
theorem r_281_95 {X : GX} {d : Nat} {r : Int32 × Hp} (hd : 8 ≤ d) (hq : RtX X (some (.int r.1)) r.2) {rec_26 : Int32 → Int32 → Int32 → Int32 → Int32 → Hp → Option (Int32 × Hp)} (hr_26 : ∀ {v1 : Int32} {v2 : Int32} {v3 : Int32} {v5 : Int32} {v6 : Int32} {h : Hp}, rec_26 v1 v2 v3 v5 v6 h = some r → G X d 281 26 [some (.ref 84), some (.int v1), some (.int v2), some (.int v3), none, some (.int v5), some (.int v6)] [] h) {h : Hp} {v1 : Int32} {v2 : Int32} {v3 : Int32} {v5 : Int32} {v6 : Int32} (e : R_281_95 rec_26 v1 v2 v3 v5 v6 h = some r) : G X d 281 95 [some (.ref 84), some (.int v1), some (.int v2), some (.int v3), none, some (.int v5), some (.int v6)] [] h := by
  unfold R_281_95 at e
  obtain ⟨x, h2, e1, e2⟩ := bndI_s e
  refine k_281_95 (by omega) (t_205 e1) ?_
  rintro _ _ ⟨rfl, rfl⟩
  exact r_281_99 hd hq hr_26 e2
noncomputable def R_281_92 (rec_26 : Int32 → Int32 → Int32 → Int32 → Int32 → Hp → Option (Int32 × Hp)) (v1 : Int32) (v2 : Int32) (v3 : Int32) (v5 : Int32) (v6 : Int32) (s0 : Int32) (h : Hp) : Option (Int32 × Hp) := if s0 = 0 then R_281_102 rec_26 v1 v2 v3 v6 h else R_281_95 rec_26 v1 v2 v3 v5 v6 h
theorem r_281_92 {X : GX} {d : Nat} {r : Int32 × Hp} (hd : 8 ≤ d) (hq : RtX X (some (.int r.1)) r.2) {rec_26 : Int32 → Int32 → Int32 → Int32 → Int32 → Hp → Option (Int32 × Hp)} (hr_26 : ∀ {v1 : Int32} {v2 : Int32} {v3 : Int32} {v5 : Int32} {v6 : Int32} {h : Hp}, rec_26 v1 v2 v3 v5 v6 h = some r → G X d 281 26 [some (.ref 84), some (.int v1), some (.int v2), some (.int v3), none, some (.int v5), some (.int v6)] [] h) {h : Hp} {v1 : Int32} {v2 : Int32} {v3 : Int32} {v5 : Int32} {v6 : Int32} {s0 : Int32} (e : R_281_92 rec_26 v1 v2 v3 v5 v6 s0 h = some r) : G X d 281 92 [some (.ref 84), some (.int v1), some (.int v2), some (.int v3), none, some (.int v5), some (.int v6)] [.int s0] h := by
  unfold R_281_92 at e
  refine k_281_92 (fun c => ?_) (fun c => ?_)
  · rw [if_pos c] at e; exact r_281_102 hd hq hr_26 e
  · rw [if_neg c] at e; exact r_281_95 hd hq hr_26 e
noncomputable def R_281_66 (rec_26 : Int32 → Int32 → Int32 → Int32 → Int32 → Hp → Option (Int32 × Hp)) (v1 : Int32) (v2 : Int32) (v3 : Int32) (v5 : Int32) (v6 : Int32) (h : Hp) : Option (Int32 × Hp) := gd (IA 96 (((40 * v1) + v2) + v6) ∧ IA 85 0) (bndI (S_177 (Int32.toInt64 (h 96 (Int32.toNatClampNeg (((40 * v1) + v2) + v6)))) 0 (Int32.toInt64 (h 85 (Int32.toNatClampNeg 0))) h) (R_281_92 rec_26 v1 v2 v3 v5 v6))
theorem r_281_66 {X : GX} {d : Nat} {r : Int32 × Hp} (hd : 8 ≤ d) (hq : RtX X (some (.int r.1)) r.2) {rec_26 : Int32 → Int32 → Int32 → Int32 → Int32 → Hp → Option (Int32 × Hp)} (hr_26 : ∀ {v1 : Int32} {v2 : Int32} {v3 : Int32} {v5 : Int32} {v6 : Int32} {h : Hp}, rec_26 v1 v2 v3 v5 v6 h = some r → G X d 281 26 [some (.ref 84), some (.int v1), some (.int v2), some (.int v3), none, some (.int v5), some (.int v6)] [] h) {h : Hp} {v1 : Int32} {v2 : Int32} {v3 : Int32} {v5 : Int32} {v6 : Int32} (e : R_281_66 rec_26 v1 v2 v3 v5 v6 h = some r) : G X d 281 66 [some (.ref 84), some (.int v1), some (.int v2), some (.int v3), none, some (.int v5), some (.int v6)] [] h := by
  unfold R_281_66 at e
  have g := gd_s e; clear e; obtain ⟨⟨b0, b1⟩, e⟩ := g
  obtain ⟨x, h2, e1, e2⟩ := bndI_s e
  refine k_281_66 b0 b1 (by omega) (t_177 e1) ?_
  rintro _ _ ⟨rfl, rfl⟩
  exact r_281_92 hd hq hr_26 e2
noncomputable def R_281_59 (rec_26 : Int32 → Int32 → Int32 → Int32 → Int32 → Hp → Option (Int32 × Hp)) (v1 : Int32) (v2 : Int32) (v3 : Int32) (v6 : Int32) (h : Hp) : Option (Int32 × Hp) := rec_26 v1 v2 v3 ((-12)) (v6 + 1) h
theorem r_281_59 {X : GX} {d : Nat} {r : Int32 × Hp} (hd : 8 ≤ d) (hq : RtX X (some (.int r.1)) r.2) {rec_26 : Int32 → Int32 → Int32 → Int32 → Int32 → Hp → Option (Int32 × Hp)} (hr_26 : ∀ {v1 : Int32} {v2 : Int32} {v3 : Int32} {v5 : Int32} {v6 : Int32} {h : Hp}, rec_26 v1 v2 v3 v5 v6 h = some r → G X d 281 26 [some (.ref 84), some (.int v1), some (.int v2), some (.int v3), none, some (.int v5), some (.int v6)] [] h) {h : Hp} {v1 : Int32} {v2 : Int32} {v3 : Int32} {v6 : Int32} (e : R_281_59 rec_26 v1 v2 v3 v6 h = some r) : G X d 281 59 [some (.ref 84), some (.int v1), some (.int v2), some (.int v3), none, none, some (.int v6)] [] h := by
  unfold R_281_59 at e
  exact k_281_59 (hr_26 e)
noncomputable def R_281_56 (rec_26 : Int32 → Int32 → Int32 → Int32 → Int32 → Hp → Option (Int32 × Hp)) (v1 : Int32) (v2 : Int32) (v3 : Int32) (v5 : Int32) (v6 : Int32) (s0 : Int32) (h : Hp) : Option (Int32 × Hp) := if s0 = 0 then R_281_59 rec_26 v1 v2 v3 v6 h else R_281_66 rec_26 v1 v2 v3 v5 v6 h
theorem r_281_56 {X : GX} {d : Nat} {r : Int32 × Hp} (hd : 8 ≤ d) (hq : RtX X (some (.int r.1)) r.2) {rec_26 : Int32 → Int32 → Int32 → Int32 → Int32 → Hp → Option (Int32 × Hp)} (hr_26 : ∀ {v1 : Int32} {v2 : Int32} {v3 : Int32} {v5 : Int32} {v6 : Int32} {h : Hp}, rec_26 v1 v2 v3 v5 v6 h = some r → G X d 281 26 [some (.ref 84), some (.int v1), some (.int v2), some (.int v3), none, some (.int v5), some (.int v6)] [] h) {h : Hp} {v1 : Int32} {v2 : Int32} {v3 : Int32} {v5 : Int32} {v6 : Int32} {s0 : Int32} (e : R_281_56 rec_26 v1 v2 v3 v5 v6 s0 h = some r) : G X d 281 56 [some (.ref 84), some (.int v1), some (.int v2), some (.int v3), none, some (.int v5), some (.int v6)] [.int s0] h := by
  unfold R_281_56 at e
  refine k_281_56 (fun c => ?_) (fun c => ?_)
  · rw [if_neg c] at e; exact r_281_66 hd hq hr_26 e
  · rw [if_pos c] at e; exact r_281_59 hd hq hr_26 e
noncomputable def R_281_37 (rec_26 : Int32 → Int32 → Int32 → Int32 → Int32 → Hp → Option (Int32 × Hp)) (v1 : Int32) (v2 : Int32) (v3 : Int32) (v5 : Int32) (v6 : Int32) (h : Hp) : Option (Int32 × Hp) := gd (IA 95 v1) (bndI (S_177 ((Int32.toInt64 v2) + (Int32.toInt64 v6)) 0 (Int32.toInt64 ((h 95 (Int32.toNatClampNeg v1)) - 1)) h) (R_281_56 rec_26 v1 v2 v3 v5 v6))
theorem r_281_37 {X : GX} {d : Nat} {r : Int32 × Hp} (hd : 8 ≤ d) (hq : RtX X (some (.int r.1)) r.2) {rec_26 : Int32 → Int32 → Int32 → Int32 → Int32 → Hp → Option (Int32 × Hp)} (hr_26 : ∀ {v1 : Int32} {v2 : Int32} {v3 : Int32} {v5 : Int32} {v6 : Int32} {h : Hp}, rec_26 v1 v2 v3 v5 v6 h = some r → G X d 281 26 [some (.ref 84), some (.int v1), some (.int v2), some (.int v3), none, some (.int v5), some (.int v6)] [] h) {h : Hp} {v1 : Int32} {v2 : Int32} {v3 : Int32} {v5 : Int32} {v6 : Int32} (e : R_281_37 rec_26 v1 v2 v3 v5 v6 h = some r) : G X d 281 37 [some (.ref 84), some (.int v1), some (.int v2), some (.int v3), none, some (.int v5), some (.int v6)] [] h := by
  unfold R_281_37 at e
  have g := gd_s e; clear e; obtain ⟨b0, e⟩ := g
  obtain ⟨x, h2, e1, e2⟩ := bndI_s e
  refine k_281_37 b0 (by omega) (t_177 e1) ?_
  rintro _ _ ⟨rfl, rfl⟩
  exact r_281_56 hd hq hr_26 e2
noncomputable def R_281_32 (rec_26 : Int32 → Int32 → Int32 → Int32 → Int32 → Hp → Option (Int32 × Hp)) (v1 : Int32) (v2 : Int32) (v3 : Int32) (v5 : Int32) (v6 : Int32) (h : Hp) : Option (Int32 × Hp) := if v5 < 0 then R_281_138 v5 h else R_281_37 rec_26 v1 v2 v3 v5 v6 h
theorem r_281_32 {X : GX} {d : Nat} {r : Int32 × Hp} (hd : 8 ≤ d) (hq : RtX X (some (.int r.1)) r.2) {rec_26 : Int32 → Int32 → Int32 → Int32 → Int32 → Hp → Option (Int32 × Hp)} (hr_26 : ∀ {v1 : Int32} {v2 : Int32} {v3 : Int32} {v5 : Int32} {v6 : Int32} {h : Hp}, rec_26 v1 v2 v3 v5 v6 h = some r → G X d 281 26 [some (.ref 84), some (.int v1), some (.int v2), some (.int v3), none, some (.int v5), some (.int v6)] [] h) {h : Hp} {v1 : Int32} {v2 : Int32} {v3 : Int32} {v5 : Int32} {v6 : Int32} (e : R_281_32 rec_26 v1 v2 v3 v5 v6 h = some r) : G X d 281 32 [some (.ref 84), some (.int v1), some (.int v2), some (.int v3), none, some (.int v5), some (.int v6)] [] h := by
  unfold R_281_32 at e
  refine k_281_32 (fun c => ?_) (fun c => ?_)
  · rw [if_pos c] at e; exact r_281_138 hd hq e
  · rw [if_neg c] at e; exact r_281_37 hd hq hr_26 e
noncomputable def R_281_26 (rec_26 : Int32 → Int32 → Int32 → Int32 → Int32 → Hp → Option (Int32 × Hp)) (v1 : Int32) (v2 : Int32) (v3 : Int32) (v5 : Int32) (v6 : Int32) (h : Hp) : Option (Int32 × Hp) := if v3 ≤ v6 then R_281_138 v5 h else R_281_32 rec_26 v1 v2 v3 v5 v6 h
theorem r_281_26 {X : GX} {d : Nat} {r : Int32 × Hp} (hd : 8 ≤ d) (hq : RtX X (some (.int r.1)) r.2) {rec_26 : Int32 → Int32 → Int32 → Int32 → Int32 → Hp → Option (Int32 × Hp)} (hr_26 : ∀ {v1 : Int32} {v2 : Int32} {v3 : Int32} {v5 : Int32} {v6 : Int32} {h : Hp}, rec_26 v1 v2 v3 v5 v6 h = some r → G X d 281 26 [some (.ref 84), some (.int v1), some (.int v2), some (.int v3), none, some (.int v5), some (.int v6)] [] h) {h : Hp} {v1 : Int32} {v2 : Int32} {v3 : Int32} {v5 : Int32} {v6 : Int32} (e : R_281_26 rec_26 v1 v2 v3 v5 v6 h = some r) : G X d 281 26 [some (.ref 84), some (.int v1), some (.int v2), some (.int v3), none, some (.int v5), some (.int v6)] [] h := by
  unfold R_281_26 at e
  refine k_281_26 (fun c => ?_) (fun c => ?_)
  · rw [if_pos c] at e; exact r_281_138 hd hq e
  · rw [if_neg c] at e; exact r_281_32 hd hq hr_26 e
noncomputable def H_281_26 : Nat → Int32 → Int32 → Int32 → Int32 → Int32 → Hp → Option (Int32 × Hp)
  | 0, _, _, _, _, _, _ => none
  | n + 1, v1, v2, v3, v5, v6, h => R_281_26 (H_281_26 n) v1 v2 v3 v5 v6 h
theorem h_281_26 {X : GX} {d : Nat} {r : Int32 × Hp} (hd : 8 ≤ d) (hq : RtX X (some (.int r.1)) r.2) {n : Nat} {h : Hp} {v1 : Int32} {v2 : Int32} {v3 : Int32} {v5 : Int32} {v6 : Int32} (e : H_281_26 n v1 v2 v3 v5 v6 h = some r) : G X d 281 26 [some (.ref 84), some (.int v1), some (.int v2), some (.int v3), none, some (.int v5), some (.int v6)] [] h := by
  induction n generalizing v1 v2 v3 v5 v6 h with
  | zero => cases e
  | succ n ih => exact r_281_26 hd hq (fun e => ih e) e
noncomputable def R_281_23 (v1 : Int32) (v2 : Int32) (v3 : Int32) (v5 : Int32) (h : Hp) : Option (Int32 × Hp) := H_281_26 fuL v1 v2 v3 v5 0 h
theorem r_281_23 {X : GX} {d : Nat} {r : Int32 × Hp} (hd : 8 ≤ d) (hq : RtX X (some (.int r.1)) r.2) {h : Hp} {v1 : Int32} {v2 : Int32} {v3 : Int32} {v5 : Int32} (e : R_281_23 v1 v2 v3 v5 h = some r) : G X d 281 23 [some (.ref 84), some (.int v1), some (.int v2), some (.int v3), none, some (.int v5), none] [] h := by
  unfold R_281_23 at e
  exact k_281_23 (h_281_26 hd hq e)
noncomputable def R_281_16 (v1 : Int32) (v2 : Int32) (v3 : Int32) (h : Hp) : Option (Int32 × Hp) := bndV (S_229 h) (R_281_23 v1 v2 v3 0)
theorem r_281_16 {X : GX} {d : Nat} {r : Int32 × Hp} (hd : 8 ≤ d) (hq : RtX X (some (.int r.1)) r.2) {h : Hp} {v1 : Int32} {v2 : Int32} {v3 : Int32} (e : R_281_16 v1 v2 v3 h = some r) : G X d 281 16 [some (.ref 84), some (.int v1), some (.int v2), some (.int v3), none, none, none] [] h := by
  unfold R_281_16 at e
  obtain ⟨x, h2, e1, e2⟩ := bndV_s e
  refine k_281_16 (by omega) (t_229 e1) ?_
  rintro _ rfl
  exact r_281_23 hd hq e2
noncomputable def R_281_13 (v4 : Int32) (h : Hp) : Option (Int32 × Hp) := some (v4, h)
theorem r_281_13 {X : GX} {d : Nat} {r : Int32 × Hp} (hd : 8 ≤ d) (hq : RtX X (some (.int r.1)) r.2) {h : Hp} {v4 : Int32} (e : R_281_13 v4 h = some r) : G X d 281 13 [none, none, none, none, some (.int v4), none, none] [] h := by
  unfold R_281_13 at e
  rw [← Option.some.inj e] at hq
  exact k_281_13 hq
noncomputable def R_281_6 (v1 : Int32) (v2 : Int32) (v3 : Int32) (s0 : Int32) (h : Hp) : Option (Int32 × Hp) := if 0 ≤ s0 then R_281_16 v1 v2 v3 h else R_281_13 s0 h
theorem r_281_6 {X : GX} {d : Nat} {r : Int32 × Hp} (hd : 8 ≤ d) (hq : RtX X (some (.int r.1)) r.2) {h : Hp} {v1 : Int32} {v2 : Int32} {v3 : Int32} {s0 : Int32} (e : R_281_6 v1 v2 v3 s0 h = some r) : G X d 281 6 [some (.ref 84), some (.int v1), some (.int v2), some (.int v3), none, none, none] [.int s0] h := by
  unfold R_281_6 at e
  refine k_281_6 (fun c => ?_) (fun c => ?_)
  · rw [if_pos c] at e; exact r_281_16 hd hq e
  · rw [if_neg c] at e; exact r_281_13 hd hq e
noncomputable def R_281_0 (v1 : Int32) (v2 : Int32) (v3 : Int32) (h : Hp) : Option (Int32 × Hp) := bndI (S_280 v1 v3 h) (R_281_6 v1 v2 v3)
theorem r_281_0 {X : GX} {d : Nat} {r : Int32 × Hp} (hd : 8 ≤ d) (hq : RtX X (some (.int r.1)) r.2) {h : Hp} {v1 : Int32} {v2 : Int32} {v3 : Int32} (e : R_281_0 v1 v2 v3 h = some r) : G X d 281 0 [some (.ref 84), some (.int v1), some (.int v2), some (.int v3), none, none, none] [] h := by
  unfold R_281_0 at e
  obtain ⟨x, h2, e1, e2⟩ := bndI_s e
  refine k_281_0 (by omega) (t_280 e1) ?_
  rintro _ _ ⟨rfl, rfl⟩
  exact r_281_6 hd hq e2
noncomputable def S_281 (v1 : Int32) (v2 : Int32) (v3 : Int32) (h : Hp) : Option (Int32 × Hp) := R_281_0 v1 v2 v3 h
set_option maxRecDepth 100000 in
theorem t_281 {v1 : Int32} {v2 : Int32} {v3 : Int32} {h : Hp} {r : Int32 × Hp} (e : S_281 v1 v2 v3 h = some r) : CI 8 281 [.ref 84, .int v1, .int v2, .int v3] h (fun x g => x = r.1 ∧ g = r.2) := by
  refine C.of mo_281 (Nat.le_of_ble_eq_true rfl) (fun X hq => ?_)
  exact r_281_0 (Nat.le_refl _) (hq _ _ ⟨_, rfl, rfl, rfl⟩) e
/-! 282 PlayedTruthModel.shelf(III)I -/
noncomputable def R_282_53 (h : Hp) : Option (Int32 × Hp) := some (((-1)), h)
theorem r_282_53 {X : GX} {d : Nat} {r : Int32 × Hp} (hd : 3 ≤ d) (hq : RtX X (some (.int r.1)) r.2) {h : Hp} (e : R_282_53 h = some r) : G X d 282 53 [none, none, none, none, none, none] [] h := by
  unfold R_282_53 at e
  rw [← Option.some.inj e] at hq
  exact k_282_53 hq
noncomputable def R_282_150 (s1 : Nat) (s0 : Int32) (h : Hp) : Option (Int32 × Hp) := gd (IA s1 s0) (some (1, (wr h s1 (Int32.toNatClampNeg s0) 0)))
theorem r_282_150 {X : GX} {d : Nat} {r : Int32 × Hp} (hd : 3 ≤ d) (hq : RtX X (some (.int r.1)) r.2) {h : Hp} {s1 : Nat} {s0 : Int32} (e : R_282_150 s1 s0 h = some r) : G X d 282 150 [none, none, none, none, none, none] [.int s0, .ref s1] h := by
  unfold R_282_150 at e
  have g := gd_s e; clear e; obtain ⟨b0, e⟩ := g
  rw [← Option.some.inj e] at hq
  exact k_282_150 b0 hq
noncomputable def R_282_141 (v3 : Int32) (s1 : Nat) (s0 : Int32) (h : Hp) : Option (Int32 × Hp) := gd (IA 95 v3 ∧ IA s1 s0) (some (1, (wr h s1 (Int32.toNatClampNeg s0) (h 95 (Int32.toNatClampNeg v3)))))
theorem r_282_141 {X : GX} {d : Nat} {r : Int32 × Hp} (hd : 3 ≤ d) (hq : RtX X (some (.int r.1)) r.2) {h : Hp} {v3 : Int32} {s1 : Nat} {s0 : Int32} (e : R_282_141 v3 s1 s0 h = some r) : G X d 282 141 [some (.ref 84), none, none, some (.int v3), none, none] [.int s0, .ref s1] h := by
  unfold R_282_141 at e
  have g := gd_s e; clear e; obtain ⟨⟨b0, b1⟩, e⟩ := g
  rw [← Option.some.inj e] at hq
  exact k_282_141 b0 b1 hq
noncomputable def R_282_129 (v1 : Int32) (v3 : Int32) (v5 : Int32) (s1 : Nat) (s0 : Int32) (h : Hp) : Option (Int32 × Hp) := gd (IA s1 s0) (if v5 = 0 then R_282_150 99 v1 ((wr h s1 (Int32.toNatClampNeg s0) 0)) else R_282_141 v3 99 v1 ((wr h s1 (Int32.toNatClampNeg s0) 0)))
theorem r_282_129 {X : GX} {d : Nat} {r : Int32 × Hp} (hd : 3 ≤ d) (hq : RtX X (some (.int r.1)) r.2) {h : Hp} {v1 : Int32} {v3 : Int32} {v5 : Int32} {s1 : Nat} {s0 : Int32} (e : R_282_129 v1 v3 v5 s1 s0 h = some r) : G X d 282 129 [some (.ref 84), some (.int v1), none, some (.int v3), none, some (.int v5)] [.int s0, .ref s1] h := by
  unfold R_282_129 at e
  have g := gd_s e; clear e; obtain ⟨b0, e⟩ := g
  refine k_282_129 b0 (fun c => ?_) (fun c => ?_)
  · rw [if_pos c] at e; exact r_282_150 hd hq e
  · rw [if_neg c] at e; exact r_282_141 hd hq e
noncomputable def R_282_118 (v1 : Int32) (v3 : Int32) (v5 : Int32) (s1 : Nat) (s0 : Int32) (h : Hp) : Option (Int32 × Hp) := gd (IA 94 v3 ∧ IA s1 s0) (if v5 = 0 then R_282_150 99 v1 ((wr h s1 (Int32.toNatClampNeg s0) ((h 94 (Int32.toNatClampNeg v3)) - 1))) else R_282_141 v3 99 v1 ((wr h s1 (Int32.toNatClampNeg s0) ((h 94 (Int32.toNatClampNeg v3)) - 1))))
theorem r_282_118 {X : GX} {d : Nat} {r : Int32 × Hp} (hd : 3 ≤ d) (hq : RtX X (some (.int r.1)) r.2) {h : Hp} {v1 : Int32} {v3 : Int32} {v5 : Int32} {s1 : Nat} {s0 : Int32} (e : R_282_118 v1 v3 v5 s1 s0 h = some r) : G X d 282 118 [some (.ref 84), some (.int v1), none, some (.int v3), none, some (.int v5)] [.int s0, .ref s1] h := by
  unfold R_282_118 at e
  have g := gd_s e; clear e; obtain ⟨⟨b0, b1⟩, e⟩ := g
  refine k_282_118 b0 b1 (fun c => ?_) (fun c => ?_)
  · rw [if_pos c] at e; exact r_282_150 hd hq e
  · rw [if_neg c] at e; exact r_282_141 hd hq e
noncomputable def R_282_113 (v1 : Int32) (v3 : Int32) (v5 : Int32) (s1 : Nat) (s0 : Int32) (h : Hp) : Option (Int32 × Hp) := if v5 = 0 then R_282_129 v1 v3 v5 s1 s0 h else R_282_118 v1 v3 v5 s1 s0 h
theorem r_282_113 {X : GX} {d : Nat} {r : Int32 × Hp} (hd : 3 ≤ d) (hq : RtX X (some (.int r.1)) r.2) {h : Hp} {v1 : Int32} {v3 : Int32} {v5 : Int32} {s1 : Nat} {s0 : Int32} (e : R_282_113 v1 v3 v5 s1 s0 h = some r) : G X d 282 113 [some (.ref 84), some (.int v1), none, some (.int v3), none, some (.int v5)] [.int s0, .ref s1] h := by
  unfold R_282_113 at e
  refine k_282_113 (fun c => ?_) (fun c => ?_)
  · rw [if_pos c] at e; exact r_282_129 hd hq e
  · rw [if_neg c] at e; exact r_282_118 hd hq e
noncomputable def R_282_109 (v1 : Int32) (v3 : Int32) (v5 : Int32) (s1 : Nat) (s0 : Int32) (h : Hp) : Option (Int32 × Hp) := gd (IA s1 s0) (if v5 = 0 then R_282_150 99 v1 ((wr h s1 (Int32.toNatClampNeg s0) v3)) else R_282_141 v3 99 v1 ((wr h s1 (Int32.toNatClampNeg s0) v3)))
theorem r_282_109 {X : GX} {d : Nat} {r : Int32 × Hp} (hd : 3 ≤ d) (hq : RtX X (some (.int r.1)) r.2) {h : Hp} {v1 : Int32} {v3 : Int32} {v5 : Int32} {s1 : Nat} {s0 : Int32} (e : R_282_109 v1 v3 v5 s1 s0 h = some r) : G X d 282 109 [some (.ref 84), some (.int v1), none, some (.int v3), none, some (.int v5)] [.int s0, .ref s1] h := by
  unfold R_282_109 at e
  have g := gd_s e; clear e; obtain ⟨b0, e⟩ := g
  refine k_282_109 b0 (fun c => ?_) (fun c => ?_)
  · rw [if_pos c] at e; exact r_282_150 hd hq e
  · rw [if_neg c] at e; exact r_282_141 hd hq e
noncomputable def R_282_98 (v1 : Int32) (v2 : Int32) (v3 : Int32) (v5 : Int32) (s1 : Nat) (s0 : Int32) (h : Hp) : Option (Int32 × Hp) := gd (IA s1 s0) (if v2 = 0 then R_282_109 v1 v3 v5 98 v1 ((wr h s1 (Int32.toNatClampNeg s0) 0)) else R_282_113 v1 v3 v5 98 v1 ((wr h s1 (Int32.toNatClampNeg s0) 0)))
theorem r_282_98 {X : GX} {d : Nat} {r : Int32 × Hp} (hd : 3 ≤ d) (hq : RtX X (some (.int r.1)) r.2) {h : Hp} {v1 : Int32} {v2 : Int32} {v3 : Int32} {v5 : Int32} {s1 : Nat} {s0 : Int32} (e : R_282_98 v1 v2 v3 v5 s1 s0 h = some r) : G X d 282 98 [some (.ref 84), some (.int v1), some (.int v2), some (.int v3), none, some (.int v5)] [.int s0, .ref s1] h := by
  unfold R_282_98 at e
  have g := gd_s e; clear e; obtain ⟨b0, e⟩ := g
  refine k_282_98 b0 (fun c => ?_) (fun c => ?_)
  · rw [if_neg c] at e; exact r_282_113 hd hq e
  · rw [if_pos c] at e; exact r_282_109 hd hq e
noncomputable def R_282_94 (v1 : Int32) (v2 : Int32) (v3 : Int32) (v5 : Int32) (s1 : Nat) (s0 : Int32) (h : Hp) : Option (Int32 × Hp) := gd (IA s1 s0) (if v2 = 0 then R_282_109 v1 v3 v5 98 v1 ((wr h s1 (Int32.toNatClampNeg s0) 2)) else R_282_113 v1 v3 v5 98 v1 ((wr h s1 (Int32.toNatClampNeg s0) 2)))
theorem r_282_94 {X : GX} {d : Nat} {r : Int32 × Hp} (hd : 3 ≤ d) (hq : RtX X (some (.int r.1)) r.2) {h : Hp} {v1 : Int32} {v2 : Int32} {v3 : Int32} {v5 : Int32} {s1 : Nat} {s0 : Int32} (e : R_282_94 v1 v2 v3 v5 s1 s0 h = some r) : G X d 282 94 [some (.ref 84), some (.int v1), some (.int v2), some (.int v3), none, some (.int v5)] [.int s0, .ref s1] h := by
  unfold R_282_94 at e
  have g := gd_s e; clear e; obtain ⟨b0, e⟩ := g
  refine k_282_94 b0 (fun c => ?_) (fun c => ?_)
  · rw [if_neg c] at e; exact r_282_113 hd hq e
  · rw [if_pos c] at e; exact r_282_109 hd hq e
noncomputable def R_282_89 (v1 : Int32) (v2 : Int32) (v3 : Int32) (v5 : Int32) (s1 : Nat) (s0 : Int32) (h : Hp) : Option (Int32 × Hp) := if v5 = 0 then R_282_98 v1 v2 v3 v5 s1 s0 h else R_282_94 v1 v2 v3 v5 s1 s0 h
theorem r_282_89 {X : GX} {d : Nat} {r : Int32 × Hp} (hd : 3 ≤ d) (hq : RtX X (some (.int r.1)) r.2) {h : Hp} {v1 : Int32} {v2 : Int32} {v3 : Int32} {v5 : Int32} {s1 : Nat} {s0 : Int32} (e : R_282_89 v1 v2 v3 v5 s1 s0 h = some r) : G X d 282 89 [some (.ref 84), some (.int v1), some (.int v2), some (.int v3), none, some (.int v5)] [.int s0, .ref s1] h := by
  unfold R_282_89 at e
  refine k_282_89 (fun c => ?_) (fun c => ?_)
  · rw [if_pos c] at e; exact r_282_98 hd hq e
  · rw [if_neg c] at e; exact r_282_94 hd hq e
noncomputable def R_282_85 (v1 : Int32) (v2 : Int32) (v3 : Int32) (v5 : Int32) (s1 : Nat) (s0 : Int32) (h : Hp) : Option (Int32 × Hp) := gd (IA s1 s0) (if v2 = 0 then R_282_109 v1 v3 v5 98 v1 ((wr h s1 (Int32.toNatClampNeg s0) 1)) else R_282_113 v1 v3 v5 98 v1 ((wr h s1 (Int32.toNatClampNeg s0) 1)))
theorem r_282_85 {X : GX} {d : Nat} {r : Int32 × Hp} (hd : 3 ≤ d) (hq : RtX X (some (.int r.1)) r.2) {h : Hp} {v1 : Int32} {v2 : Int32} {v3 : Int32} {v5 : Int32} {s1 : Nat} {s0 : Int32} (e : R_282_85 v1 v2 v3 v5 s1 s0 h = some r) : G X d 282 85 [some (.ref 84), some (.int v1), some (.int v2), some (.int v3), none, some (.int v5)] [.int s0, .ref s1] h := by
  unfold R_282_85 at e
  have g := gd_s e; clear e; obtain ⟨b0, e⟩ := g
  refine k_282_85 b0 (fun c => ?_) (fun c => ?_)
  · rw [if_neg c] at e; exact r_282_113 hd hq e
  · rw [if_pos c] at e; exact r_282_109 hd hq e
noncomputable def R_282_73 (v1 : Int32) (v2 : Int32) (v3 : Int32) (h : Hp) : Option (Int32 × Hp) := if v2 = 0 then R_282_85 v1 v2 v3 0 97 v1 h else R_282_89 v1 v2 v3 0 97 v1 h
theorem r_282_73 {X : GX} {d : Nat} {r : Int32 × Hp} (hd : 3 ≤ d) (hq : RtX X (some (.int r.1)) r.2) {h : Hp} {v1 : Int32} {v2 : Int32} {v3 : Int32} (e : R_282_73 v1 v2 v3 h = some r) : G X d 282 73 [some (.ref 84), some (.int v1), some (.int v2), some (.int v3), none, none] [] h := by
  unfold R_282_73 at e
  refine k_282_73 (fun c => ?_) (fun c => ?_)
  · rw [if_neg c] at e; exact r_282_89 hd hq e
  · rw [if_pos c] at e; exact r_282_85 hd hq e
noncomputable def R_282_69 (v1 : Int32) (v2 : Int32) (v3 : Int32) (h : Hp) : Option (Int32 × Hp) := if v2 = 0 then R_282_85 v1 v2 v3 1 97 v1 h else R_282_89 v1 v2 v3 1 97 v1 h
theorem r_282_69 {X : GX} {d : Nat} {r : Int32 × Hp} (hd : 3 ≤ d) (hq : RtX X (some (.int r.1)) r.2) {h : Hp} {v1 : Int32} {v2 : Int32} {v3 : Int32} (e : R_282_69 v1 v2 v3 h = some r) : G X d 282 69 [some (.ref 84), some (.int v1), some (.int v2), some (.int v3), none, none] [] h := by
  unfold R_282_69 at e
  refine k_282_69 (fun c => ?_) (fun c => ?_)
  · rw [if_neg c] at e; exact r_282_89 hd hq e
  · rw [if_pos c] at e; exact r_282_85 hd hq e
noncomputable def R_282_60 (v1 : Int32) (v2 : Int32) (v3 : Int32) (h : Hp) : Option (Int32 × Hp) := gd (IA 94 v3) (if (h 94 (Int32.toNatClampNeg v3)) ≤ 0 then R_282_73 v1 v2 v3 h else R_282_69 v1 v2 v3 h)
theorem r_282_60 {X : GX} {d : Nat} {r : Int32 × Hp} (hd : 3 ≤ d) (hq : RtX X (some (.int r.1)) r.2) {h : Hp} {v1 : Int32} {v2 : Int32} {v3 : Int32} (e : R_282_60 v1 v2 v3 h = some r) : G X d 282 60 [some (.ref 84), some (.int v1), some (.int v2), some (.int v3), none, none] [] h := by
  unfold R_282_60 at e
  have g := gd_s e; clear e; obtain ⟨b0, e⟩ := g
  refine k_282_60 b0 (fun c => ?_) (fun c => ?_)
  · rw [if_pos c] at e; exact r_282_73 hd hq e
  · rw [if_neg c] at e; exact r_282_69 hd hq e
noncomputable def R_282_55 (v1 : Int32) (v2 : Int32) (v3 : Int32) (h : Hp) : Option (Int32 × Hp) := if v2 = 1 then R_282_60 v1 v2 v3 h else R_282_73 v1 v2 v3 h
theorem r_282_55 {X : GX} {d : Nat} {r : Int32 × Hp} (hd : 3 ≤ d) (hq : RtX X (some (.int r.1)) r.2) {h : Hp} {v1 : Int32} {v2 : Int32} {v3 : Int32} (e : R_282_55 v1 v2 v3 h = some r) : G X d 282 55 [some (.ref 84), some (.int v1), some (.int v2), some (.int v3), none, none] [] h := by
  unfold R_282_55 at e
  refine k_282_55 (fun c => ?_) (fun c => ?_)
  · rw [if_neg c] at e; exact r_282_73 hd hq e
  · rw [if_pos c] at e; exact r_282_60 hd hq e
noncomputable def R_282_48 (v1 : Int32) (v2 : Int32) (v3 : Int32) (v4 : Int32) (h : Hp) : Option (Int32 × Hp) := if v4 = 0 then R_282_53 h else R_282_55 v1 v2 v3 h
theorem r_282_48 {X : GX} {d : Nat} {r : Int32 × Hp} (hd : 3 ≤ d) (hq : RtX X (some (.int r.1)) r.2) {h : Hp} {v1 : Int32} {v2 : Int32} {v3 : Int32} {v4 : Int32} (e : R_282_48 v1 v2 v3 v4 h = some r) : G X d 282 48 [some (.ref 84), some (.int v1), some (.int v2), some (.int v3), some (.int v4), none] [] h := by
  unfold R_282_48 at e
  refine k_282_48 (fun c => ?_) (fun c => ?_)
  · rw [if_neg c] at e; exact r_282_55 hd hq e
  · rw [if_pos c] at e; exact r_282_53 hd hq e
noncomputable def R_282_45 (v1 : Int32) (v2 : Int32) (v3 : Int32) (v4 : Int32) (s0 : Int32) (h : Hp) : Option (Int32 × Hp) := if s0 = 0 then R_282_53 h else R_282_48 v1 v2 v3 v4 h
theorem r_282_45 {X : GX} {d : Nat} {r : Int32 × Hp} (hd : 3 ≤ d) (hq : RtX X (some (.int r.1)) r.2) {h : Hp} {v1 : Int32} {v2 : Int32} {v3 : Int32} {v4 : Int32} {s0 : Int32} (e : R_282_45 v1 v2 v3 v4 s0 h = some r) : G X d 282 45 [some (.ref 84), some (.int v1), some (.int v2), some (.int v3), some (.int v4), none] [.int s0] h := by
  unfold R_282_45 at e
  refine k_282_45 (fun c => ?_) (fun c => ?_)
  · rw [if_pos c] at e; exact r_282_53 hd hq e
  · rw [if_neg c] at e; exact r_282_48 hd hq e
noncomputable def R_282_33 (v1 : Int32) (v2 : Int32) (v3 : Int32) (h : Hp) : Option (Int32 × Hp) := bndI (S_177 (Int32.toInt64 v1) 0 3 h) (R_282_45 v1 v2 v3 0)
theorem r_282_33 {X : GX} {d : Nat} {r : Int32 × Hp} (hd : 3 ≤ d) (hq : RtX X (some (.int r.1)) r.2) {h : Hp} {v1 : Int32} {v2 : Int32} {v3 : Int32} (e : R_282_33 v1 v2 v3 h = some r) : G X d 282 33 [some (.ref 84), some (.int v1), some (.int v2), some (.int v3), none, none] [] h := by
  unfold R_282_33 at e
  obtain ⟨x, h2, e1, e2⟩ := bndI_s e
  refine k_282_33 (by omega) (t_177 e1) ?_
  rintro _ _ ⟨rfl, rfl⟩
  exact r_282_45 hd hq e2
noncomputable def R_282_29 (v1 : Int32) (v2 : Int32) (v3 : Int32) (h : Hp) : Option (Int32 × Hp) := bndI (S_177 (Int32.toInt64 v1) 0 3 h) (R_282_45 v1 v2 v3 1)
theorem r_282_29 {X : GX} {d : Nat} {r : Int32 × Hp} (hd : 3 ≤ d) (hq : RtX X (some (.int r.1)) r.2) {h : Hp} {v1 : Int32} {v2 : Int32} {v3 : Int32} (e : R_282_29 v1 v2 v3 h = some r) : G X d 282 29 [some (.ref 84), some (.int v1), some (.int v2), some (.int v3), none, none] [] h := by
  unfold R_282_29 at e
  obtain ⟨x, h2, e1, e2⟩ := bndI_s e
  refine k_282_29 (by omega) (t_177 e1) ?_
  rintro _ _ ⟨rfl, rfl⟩
  exact r_282_45 hd hq e2
noncomputable def R_282_24 (v1 : Int32) (v2 : Int32) (v3 : Int32) (h : Hp) : Option (Int32 × Hp) := if v2 = 2 then R_282_29 v1 v2 v3 h else R_282_33 v1 v2 v3 h
theorem r_282_24 {X : GX} {d : Nat} {r : Int32 × Hp} (hd : 3 ≤ d) (hq : RtX X (some (.int r.1)) r.2) {h : Hp} {v1 : Int32} {v2 : Int32} {v3 : Int32} (e : R_282_24 v1 v2 v3 h = some r) : G X d 282 24 [some (.ref 84), some (.int v1), some (.int v2), some (.int v3), none, none] [] h := by
  unfold R_282_24 at e
  refine k_282_24 (fun c => ?_) (fun c => ?_)
  · rw [if_neg c] at e; exact r_282_33 hd hq e
  · rw [if_pos c] at e; exact r_282_29 hd hq e
noncomputable def R_282_21 (v1 : Int32) (v2 : Int32) (v3 : Int32) (s0 : Int32) (h : Hp) : Option (Int32 × Hp) := bndI (S_177 (Int32.toInt64 v1) 0 3 h) (R_282_45 v1 v2 v3 s0)
theorem r_282_21 {X : GX} {d : Nat} {r : Int32 × Hp} (hd : 3 ≤ d) (hq : RtX X (some (.int r.1)) r.2) {h : Hp} {v1 : Int32} {v2 : Int32} {v3 : Int32} {s0 : Int32} (e : R_282_21 v1 v2 v3 s0 h = some r) : G X d 282 21 [some (.ref 84), some (.int v1), some (.int v2), some (.int v3), none, none] [.int s0] h := by
  unfold R_282_21 at e
  obtain ⟨x, h2, e1, e2⟩ := bndI_s e
  refine k_282_21 (by omega) (t_177 e1) ?_
  rintro _ _ ⟨rfl, rfl⟩
  exact r_282_45 hd hq e2
noncomputable def R_282_17 (v1 : Int32) (v2 : Int32) (v3 : Int32) (h : Hp) : Option (Int32 × Hp) := bndI (S_276 v3 h) (R_282_21 v1 v2 v3)
theorem r_282_17 {X : GX} {d : Nat} {r : Int32 × Hp} (hd : 3 ≤ d) (hq : RtX X (some (.int r.1)) r.2) {h : Hp} {v1 : Int32} {v2 : Int32} {v3 : Int32} (e : R_282_17 v1 v2 v3 h = some r) : G X d 282 17 [some (.ref 84), some (.int v1), some (.int v2), some (.int v3), none, none] [] h := by
  unfold R_282_17 at e
  obtain ⟨x, h2, e1, e2⟩ := bndI_s e
  refine k_282_17 (by omega) (t_276 e1) ?_
  rintro _ _ ⟨rfl, rfl⟩
  exact r_282_21 hd hq e2
noncomputable def R_282_12 (v1 : Int32) (v2 : Int32) (v3 : Int32) (h : Hp) : Option (Int32 × Hp) := if v2 = 1 then R_282_17 v1 v2 v3 h else R_282_24 v1 v2 v3 h
theorem r_282_12 {X : GX} {d : Nat} {r : Int32 × Hp} (hd : 3 ≤ d) (hq : RtX X (some (.int r.1)) r.2) {h : Hp} {v1 : Int32} {v2 : Int32} {v3 : Int32} (e : R_282_12 v1 v2 v3 h = some r) : G X d 282 12 [some (.ref 84), some (.int v1), some (.int v2), some (.int v3), none, none] [] h := by
  unfold R_282_12 at e
  refine k_282_12 (fun c => ?_) (fun c => ?_)
  · rw [if_neg c] at e; exact r_282_24 hd hq e
  · rw [if_pos c] at e; exact r_282_17 hd hq e
noncomputable def R_282_9 (v1 : Int32) (v2 : Int32) (v3 : Int32) (s0 : Int32) (h : Hp) : Option (Int32 × Hp) := bndI (S_177 (Int32.toInt64 v1) 0 3 h) (R_282_45 v1 v2 v3 s0)
theorem r_282_9 {X : GX} {d : Nat} {r : Int32 × Hp} (hd : 3 ≤ d) (hq : RtX X (some (.int r.1)) r.2) {h : Hp} {v1 : Int32} {v2 : Int32} {v3 : Int32} {s0 : Int32} (e : R_282_9 v1 v2 v3 s0 h = some r) : G X d 282 9 [some (.ref 84), some (.int v1), some (.int v2), some (.int v3), none, none] [.int s0] h := by
  unfold R_282_9 at e
  obtain ⟨x, h2, e1, e2⟩ := bndI_s e
  refine k_282_9 (by omega) (t_177 e1) ?_
  rintro _ _ ⟨rfl, rfl⟩
  exact r_282_45 hd hq e2
noncomputable def R_282_4 (v1 : Int32) (v2 : Int32) (v3 : Int32) (h : Hp) : Option (Int32 × Hp) := bndI (S_180 v3 h) (R_282_9 v1 v2 v3)
theorem r_282_4 {X : GX} {d : Nat} {r : Int32 × Hp} (hd : 3 ≤ d) (hq : RtX X (some (.int r.1)) r.2) {h : Hp} {v1 : Int32} {v2 : Int32} {v3 : Int32} (e : R_282_4 v1 v2 v3 h = some r) : G X d 282 4 [some (.ref 84), some (.int v1), some (.int v2), some (.int v3), none, none] [] h := by
  unfold R_282_4 at e
  obtain ⟨x, h2, e1, e2⟩ := bndI_s e
  refine k_282_4 (by omega) (t_180 e1) ?_
  rintro _ _ ⟨rfl, rfl⟩
  exact r_282_9 hd hq e2
noncomputable def R_282_0 (v1 : Int32) (v2 : Int32) (v3 : Int32) (h : Hp) : Option (Int32 × Hp) := if v2 = 0 then R_282_4 v1 v2 v3 h else R_282_12 v1 v2 v3 h
theorem r_282_0 {X : GX} {d : Nat} {r : Int32 × Hp} (hd : 3 ≤ d) (hq : RtX X (some (.int r.1)) r.2) {h : Hp} {v1 : Int32} {v2 : Int32} {v3 : Int32} (e : R_282_0 v1 v2 v3 h = some r) : G X d 282 0 [some (.ref 84), some (.int v1), some (.int v2), some (.int v3), none, none] [] h := by
  unfold R_282_0 at e
  refine k_282_0 (fun c => ?_) (fun c => ?_)
  · rw [if_neg c] at e; exact r_282_12 hd hq e
  · rw [if_pos c] at e; exact r_282_4 hd hq e
noncomputable def S_282 (v1 : Int32) (v2 : Int32) (v3 : Int32) (h : Hp) : Option (Int32 × Hp) := R_282_0 v1 v2 v3 h
set_option maxRecDepth 100000 in
theorem t_282 {v1 : Int32} {v2 : Int32} {v3 : Int32} {h : Hp} {r : Int32 × Hp} (e : S_282 v1 v2 v3 h = some r) : CI 3 282 [.ref 84, .int v1, .int v2, .int v3] h (fun x g => x = r.1 ∧ g = r.2) := by
  refine C.of mo_282 (Nat.le_of_ble_eq_true rfl) (fun X hq => ?_)
  exact r_282_0 (Nat.le_refl _) (hq _ _ ⟨_, rfl, rfl, rfl⟩) e
/-! 284 PlayedTruthModel.holdsNothing(I)Z -/
noncomputable def R_284_32 (h : Hp) : Option (Int32 × Hp) := some (1, h)
theorem r_284_32 {X : GX} {d : Nat} {r : Int32 × Hp} (hd : 3 ≤ d) (hq : RtX X (some (.int r.1)) r.2) {h : Hp} (e : R_284_32 h = some r) : G X d 284 32 [none, none] [] h := by
  unfold R_284_32 at e
  rw [← Option.some.inj e] at hq
  exact k_284_32 hq
noncomputable def R_284_36 (h : Hp) : Option (Int32 × Hp) := some (0, h)
theorem r_284_36 {X : GX} {d : Nat} {r : Int32 × Hp} (hd : 3 ≤ d) (hq : RtX X (some (.int r.1)) r.2) {h : Hp} (e : R_284_36 h = some r) : G X d 284 36 [none, none] [] h := by
  unfold R_284_36 at e
  rw [← Option.some.inj e] at hq
  exact k_284_36 hq
noncomputable def R_284_29 (s0 : Int32) (h : Hp) : Option (Int32 × Hp) := if s0 = 0 then R_284_32 h else R_284_36 h
theorem r_284_29 {X : GX} {d : Nat} {r : Int32 × Hp} (hd : 3 ≤ d) (hq : RtX X (some (.int r.1)) r.2) {h : Hp} {s0 : Int32} (e : R_284_29 s0 h = some r) : G X d 284 29 [none, none] [.int s0] h := by
  unfold R_284_29 at e
  refine k_284_29 (fun c => ?_) (fun c => ?_)
  · rw [if_neg c] at e; exact r_284_36 hd hq e
  · rw [if_pos c] at e; exact r_284_32 hd hq e
noncomputable def R_284_19 (v1 : Int32) (h : Hp) : Option (Int32 × Hp) := gd (IA 98 v1) (bndI (S_180 (h 98 (Int32.toNatClampNeg v1)) h) (R_284_29))
theorem r_284_19 {X : GX} {d : Nat} {r : Int32 × Hp} (hd : 3 ≤ d) (hq : RtX X (some (.int r.1)) r.2) {h : Hp} {v1 : Int32} (e : R_284_19 v1 h = some r) : G X d 284 19 [some (.ref 84), some (.int v1)] [] h := by
  unfold R_284_19 at e
  have g := gd_s e; clear e; obtain ⟨b0, e⟩ := g
  obtain ⟨x, h2, e1, e2⟩ := bndI_s e
  refine k_284_19 b0 (by omega) (t_180 e1) ?_
  rintro _ _ ⟨rfl, rfl⟩
  exact r_284_29 hd hq e2
noncomputable def R_284_9 (v1 : Int32) (h : Hp) : Option (Int32 × Hp) := gd (IA 97 v1) (if (h 97 (Int32.toNatClampNeg v1)) = 1 then R_284_19 v1 h else R_284_36 h)
theorem r_284_9 {X : GX} {d : Nat} {r : Int32 × Hp} (hd : 3 ≤ d) (hq : RtX X (some (.int r.1)) r.2) {h : Hp} {v1 : Int32} (e : R_284_9 v1 h = some r) : G X d 284 9 [some (.ref 84), some (.int v1)] [] h := by
  unfold R_284_9 at e
  have g := gd_s e; clear e; obtain ⟨b0, e⟩ := g
  refine k_284_9 b0 (fun c => ?_) (fun c => ?_)
  · rw [if_neg c] at e; exact r_284_36 hd hq e
  · rw [if_pos c] at e; exact r_284_19 hd hq e
noncomputable def R_284_0 (v1 : Int32) (h : Hp) : Option (Int32 × Hp) := gd (IA 97 v1) (if (h 97 (Int32.toNatClampNeg v1)) = 0 then R_284_32 h else R_284_9 v1 h)
theorem r_284_0 {X : GX} {d : Nat} {r : Int32 × Hp} (hd : 3 ≤ d) (hq : RtX X (some (.int r.1)) r.2) {h : Hp} {v1 : Int32} (e : R_284_0 v1 h = some r) : G X d 284 0 [some (.ref 84), some (.int v1)] [] h := by
  unfold R_284_0 at e
  have g := gd_s e; clear e; obtain ⟨b0, e⟩ := g
  refine k_284_0 b0 (fun c => ?_) (fun c => ?_)
  · rw [if_pos c] at e; exact r_284_32 hd hq e
  · rw [if_neg c] at e; exact r_284_9 hd hq e
noncomputable def S_284 (v1 : Int32) (h : Hp) : Option (Int32 × Hp) := R_284_0 v1 h
set_option maxRecDepth 100000 in
theorem t_284 {v1 : Int32} {h : Hp} {r : Int32 × Hp} (e : S_284 v1 h = some r) : CI 3 284 [.ref 84, .int v1] h (fun x g => x = r.1 ∧ g = r.2) := by
  refine C.of mo_284 (Nat.le_of_ble_eq_true rfl) (fun X hq => ?_)
  exact r_284_0 (Nat.le_refl _) (hq _ _ ⟨_, rfl, rfl, rfl⟩) e
/-! 283 PlayedTruthModel.taken(II)I -/
noncomputable def R_283_38 (h : Hp) : Option (Int32 × Hp) := some (((-1)), h)
theorem r_283_38 {X : GX} {d : Nat} {r : Int32 × Hp} (hd : 4 ≤ d) (hq : RtX X (some (.int r.1)) r.2) {h : Hp} (e : R_283_38 h = some r) : G X d 283 38 [none, none, none, none] [] h := by
  unfold R_283_38 at e
  rw [← Option.some.inj e] at hq
  exact k_283_38 hq
noncomputable def R_283_130 (h : Hp) : Option (Int32 × Hp) := some (((-13)), h)
theorem r_283_130 {X : GX} {d : Nat} {r : Int32 × Hp} (hd : 4 ≤ d) (hq : RtX X (some (.int r.1)) r.2) {h : Hp} (e : R_283_130 h = some r) : G X d 283 130 [none, none, none, none] [] h := by
  unfold R_283_130 at e
  rw [← Option.some.inj e] at hq
  exact k_283_130 hq
noncomputable def R_283_121 (v1 : Int32) (h : Hp) : Option (Int32 × Hp) := gd (IA 98 v1) (some ((h 98 (Int32.toNatClampNeg v1)), h))
theorem r_283_121 {X : GX} {d : Nat} {r : Int32 × Hp} (hd : 4 ≤ d) (hq : RtX X (some (.int r.1)) r.2) {h : Hp} {v1 : Int32} (e : R_283_121 v1 h = some r) : G X d 283 121 [some (.ref 84), some (.int v1), none, none] [] h := by
  unfold R_283_121 at e
  have g := gd_s e; clear e; obtain ⟨b0, e⟩ := g
  rw [← Option.some.inj e] at hq
  exact k_283_121 b0 hq
noncomputable def R_283_117 (v1 : Int32) (v2 : Int32) (s0 : Int32) (h : Hp) : Option (Int32 × Hp) := if s0 = v2 then R_283_121 v1 h else R_283_130 h
theorem r_283_117 {X : GX} {d : Nat} {r : Int32 × Hp} (hd : 4 ≤ d) (hq : RtX X (some (.int r.1)) r.2) {h : Hp} {v1 : Int32} {v2 : Int32} {s0 : Int32} (e : R_283_117 v1 v2 s0 h = some r) : G X d 283 117 [some (.ref 84), some (.int v1), some (.int v2), none] [.int s0] h := by
  unfold R_283_117 at e
  refine k_283_117 (fun c => ?_) (fun c => ?_)
  · rw [if_neg c] at e; exact r_283_130 hd hq e
  · rw [if_pos c] at e; exact r_283_121 hd hq e
noncomputable def R_283_113 (v1 : Int32) (v2 : Int32) (v3 : Int32) (h : Hp) : Option (Int32 × Hp) := bndI (S_192 v3 h) (R_283_117 v1 v2)
theorem r_283_113 {X : GX} {d : Nat} {r : Int32 × Hp} (hd : 4 ≤ d) (hq : RtX X (some (.int r.1)) r.2) {h : Hp} {v1 : Int32} {v2 : Int32} {v3 : Int32} (e : R_283_113 v1 v2 v3 h = some r) : G X d 283 113 [some (.ref 84), some (.int v1), some (.int v2), some (.int v3)] [] h := by
  unfold R_283_113 at e
  obtain ⟨x, h2, e1, e2⟩ := bndI_s e
  refine k_283_113 (by omega) (t_192 e1) ?_
  rintro _ _ ⟨rfl, rfl⟩
  exact r_283_117 hd hq e2
noncomputable def R_283_108 (v1 : Int32) (v2 : Int32) (v3 : Int32) (h : Hp) : Option (Int32 × Hp) := if v3 = v2 then R_283_121 v1 h else R_283_113 v1 v2 v3 h
theorem r_283_108 {X : GX} {d : Nat} {r : Int32 × Hp} (hd : 4 ≤ d) (hq : RtX X (some (.int r.1)) r.2) {h : Hp} {v1 : Int32} {v2 : Int32} {v3 : Int32} (e : R_283_108 v1 v2 v3 h = some r) : G X d 283 108 [some (.ref 84), some (.int v1), some (.int v2), some (.int v3)] [] h := by
  unfold R_283_108 at e
  refine k_283_108 (fun c => ?_) (fun c => ?_)
  · rw [if_pos c] at e; exact r_283_121 hd hq e
  · rw [if_neg c] at e; exact r_283_113 hd hq e
noncomputable def R_283_104 (v1 : Int32) (v2 : Int32) (v3 : Int32) (h : Hp) : Option (Int32 × Hp) := if v2 = 0 then R_283_121 v1 h else R_283_108 v1 v2 v3 h
theorem r_283_104 {X : GX} {d : Nat} {r : Int32 × Hp} (hd : 4 ≤ d) (hq : RtX X (some (.int r.1)) r.2) {h : Hp} {v1 : Int32} {v2 : Int32} {v3 : Int32} (e : R_283_104 v1 v2 v3 h = some r) : G X d 283 104 [some (.ref 84), some (.int v1), some (.int v2), some (.int v3)] [] h := by
  unfold R_283_104 at e
  refine k_283_104 (fun c => ?_) (fun c => ?_)
  · rw [if_pos c] at e; exact r_283_121 hd hq e
  · rw [if_neg c] at e; exact r_283_108 hd hq e
noncomputable def R_283_97 (v1 : Int32) (v2 : Int32) (s0 : Int32) (h : Hp) : Option (Int32 × Hp) := if 10 ≤ v2 then R_283_130 h else R_283_104 v1 v2 s0 h
theorem r_283_97 {X : GX} {d : Nat} {r : Int32 × Hp} (hd : 4 ≤ d) (hq : RtX X (some (.int r.1)) r.2) {h : Hp} {v1 : Int32} {v2 : Int32} {s0 : Int32} (e : R_283_97 v1 v2 s0 h = some r) : G X d 283 97 [some (.ref 84), some (.int v1), some (.int v2), none] [.int s0] h := by
  unfold R_283_97 at e
  refine k_283_97 (fun c => ?_) (fun c => ?_)
  · rw [if_pos c] at e; exact r_283_130 hd hq e
  · rw [if_neg c] at e; exact r_283_104 hd hq e
noncomputable def R_283_86 (v1 : Int32) (v2 : Int32) (h : Hp) : Option (Int32 × Hp) := gd (IA 98 v1) (bndI (S_182 (h 98 (Int32.toNatClampNeg v1)) 0 h) (R_283_97 v1 v2))
theorem r_283_86 {X : GX} {d : Nat} {r : Int32 × Hp} (hd : 4 ≤ d) (hq : RtX X (some (.int r.1)) r.2) {h : Hp} {v1 : Int32} {v2 : Int32} (e : R_283_86 v1 v2 h = some r) : G X d 283 86 [some (.ref 84), some (.int v1), some (.int v2), none] [] h := by
  unfold R_283_86 at e
  have g := gd_s e; clear e; obtain ⟨b0, e⟩ := g
  obtain ⟨x, h2, e1, e2⟩ := bndI_s e
  refine k_283_86 b0 (by omega) (t_182 e1) ?_
  rintro _ _ ⟨rfl, rfl⟩
  exact r_283_97 hd hq e2
noncomputable def R_283_83 (h : Hp) : Option (Int32 × Hp) := some (((-13)), h)
theorem r_283_83 {X : GX} {d : Nat} {r : Int32 × Hp} (hd : 4 ≤ d) (hq : RtX X (some (.int r.1)) r.2) {h : Hp} (e : R_283_83 h = some r) : G X d 283 83 [none, none, none, none] [] h := by
  unfold R_283_83 at e
  rw [← Option.some.inj e] at hq
  exact k_283_83 hq
noncomputable def R_283_74 (v1 : Int32) (h : Hp) : Option (Int32 × Hp) := gd (IA 99 v1) (some ((h 99 (Int32.toNatClampNeg v1)), h))
theorem r_283_74 {X : GX} {d : Nat} {r : Int32 × Hp} (hd : 4 ≤ d) (hq : RtX X (some (.int r.1)) r.2) {h : Hp} {v1 : Int32} (e : R_283_74 v1 h = some r) : G X d 283 74 [some (.ref 84), some (.int v1), none, none] [] h := by
  unfold R_283_74 at e
  have g := gd_s e; clear e; obtain ⟨b0, e⟩ := g
  rw [← Option.some.inj e] at hq
  exact k_283_74 b0 hq
noncomputable def R_283_61 (v1 : Int32) (v2 : Int32) (h : Hp) : Option (Int32 × Hp) := gd (IA 98 v1) (if (h 98 (Int32.toNatClampNeg v1)) = (v2 - 10) then R_283_74 v1 h else R_283_83 h)
theorem r_283_61 {X : GX} {d : Nat} {r : Int32 × Hp} (hd : 4 ≤ d) (hq : RtX X (some (.int r.1)) r.2) {h : Hp} {v1 : Int32} {v2 : Int32} (e : R_283_61 v1 v2 h = some r) : G X d 283 61 [some (.ref 84), some (.int v1), some (.int v2), none] [] h := by
  unfold R_283_61 at e
  have g := gd_s e; clear e; obtain ⟨b0, e⟩ := g
  refine k_283_61 b0 (fun c => ?_) (fun c => ?_)
  · rw [if_neg c] at e; exact r_283_83 hd hq e
  · rw [if_pos c] at e; exact r_283_74 hd hq e
noncomputable def R_283_51 (v1 : Int32) (v2 : Int32) (h : Hp) : Option (Int32 × Hp) := gd (IA 97 v1) (if (h 97 (Int32.toNatClampNeg v1)) = 2 then R_283_61 v1 v2 h else R_283_86 v1 v2 h)
theorem r_283_51 {X : GX} {d : Nat} {r : Int32 × Hp} (hd : 4 ≤ d) (hq : RtX X (some (.int r.1)) r.2) {h : Hp} {v1 : Int32} {v2 : Int32} (e : R_283_51 v1 v2 h = some r) : G X d 283 51 [some (.ref 84), some (.int v1), some (.int v2), none] [] h := by
  unfold R_283_51 at e
  have g := gd_s e; clear e; obtain ⟨b0, e⟩ := g
  refine k_283_51 b0 (fun c => ?_) (fun c => ?_)
  · rw [if_neg c] at e; exact r_283_86 hd hq e
  · rw [if_pos c] at e; exact r_283_61 hd hq e
noncomputable def R_283_48 (h : Hp) : Option (Int32 × Hp) := some (((-11)), h)
theorem r_283_48 {X : GX} {d : Nat} {r : Int32 × Hp} (hd : 4 ≤ d) (hq : RtX X (some (.int r.1)) r.2) {h : Hp} (e : R_283_48 h = some r) : G X d 283 48 [none, none, none, none] [] h := by
  unfold R_283_48 at e
  rw [← Option.some.inj e] at hq
  exact k_283_48 hq
noncomputable def R_283_45 (v1 : Int32) (v2 : Int32) (s0 : Int32) (h : Hp) : Option (Int32 × Hp) := if s0 = 0 then R_283_51 v1 v2 h else R_283_48 h
theorem r_283_45 {X : GX} {d : Nat} {r : Int32 × Hp} (hd : 4 ≤ d) (hq : RtX X (some (.int r.1)) r.2) {h : Hp} {v1 : Int32} {v2 : Int32} {s0 : Int32} (e : R_283_45 v1 v2 s0 h = some r) : G X d 283 45 [some (.ref 84), some (.int v1), some (.int v2), none] [.int s0] h := by
  unfold R_283_45 at e
  refine k_283_45 (fun c => ?_) (fun c => ?_)
  · rw [if_pos c] at e; exact r_283_51 hd hq e
  · rw [if_neg c] at e; exact r_283_48 hd hq e
noncomputable def R_283_40 (v1 : Int32) (v2 : Int32) (h : Hp) : Option (Int32 × Hp) := bndI (S_284 v1 h) (R_283_45 v1 v2)
theorem r_283_40 {X : GX} {d : Nat} {r : Int32 × Hp} (hd : 4 ≤ d) (hq : RtX X (some (.int r.1)) r.2) {h : Hp} {v1 : Int32} {v2 : Int32} (e : R_283_40 v1 v2 h = some r) : G X d 283 40 [some (.ref 84), some (.int v1), some (.int v2), none] [] h := by
  unfold R_283_40 at e
  obtain ⟨x, h2, e1, e2⟩ := bndI_s e
  refine k_283_40 (by omega) (t_284 e1) ?_
  rintro _ _ ⟨rfl, rfl⟩
  exact r_283_45 hd hq e2
noncomputable def R_283_35 (v1 : Int32) (v2 : Int32) (s0 : Int32) (h : Hp) : Option (Int32 × Hp) := if s0 = 0 then R_283_38 h else R_283_40 v1 v2 h
theorem r_283_35 {X : GX} {d : Nat} {r : Int32 × Hp} (hd : 4 ≤ d) (hq : RtX X (some (.int r.1)) r.2) {h : Hp} {v1 : Int32} {v2 : Int32} {s0 : Int32} (e : R_283_35 v1 v2 s0 h = some r) : G X d 283 35 [some (.ref 84), some (.int v1), some (.int v2), none] [.int s0] h := by
  unfold R_283_35 at e
  refine k_283_35 (fun c => ?_) (fun c => ?_)
  · rw [if_neg c] at e; exact r_283_40 hd hq e
  · rw [if_pos c] at e; exact r_283_38 hd hq e
noncomputable def R_283_24 (v1 : Int32) (v2 : Int32) (h : Hp) : Option (Int32 × Hp) := bndI (S_177 (Int32.toInt64 v2) 10 14 h) (R_283_35 v1 v2)
theorem r_283_24 {X : GX} {d : Nat} {r : Int32 × Hp} (hd : 4 ≤ d) (hq : RtX X (some (.int r.1)) r.2) {h : Hp} {v1 : Int32} {v2 : Int32} (e : R_283_24 v1 v2 h = some r) : G X d 283 24 [some (.ref 84), some (.int v1), some (.int v2), none] [] h := by
  unfold R_283_24 at e
  obtain ⟨x, h2, e1, e2⟩ := bndI_s e
  refine k_283_24 (by omega) (t_177 e1) ?_
  rintro _ _ ⟨rfl, rfl⟩
  exact r_283_35 hd hq e2
noncomputable def R_283_21 (v1 : Int32) (v2 : Int32) (s0 : Int32) (h : Hp) : Option (Int32 × Hp) := if s0 = 0 then R_283_24 v1 v2 h else R_283_40 v1 v2 h
theorem r_283_21 {X : GX} {d : Nat} {r : Int32 × Hp} (hd : 4 ≤ d) (hq : RtX X (some (.int r.1)) r.2) {h : Hp} {v1 : Int32} {v2 : Int32} {s0 : Int32} (e : R_283_21 v1 v2 s0 h = some r) : G X d 283 21 [some (.ref 84), some (.int v1), some (.int v2), none] [.int s0] h := by
  unfold R_283_21 at e
  refine k_283_21 (fun c => ?_) (fun c => ?_)
  · rw [if_neg c] at e; exact r_283_40 hd hq e
  · rw [if_pos c] at e; exact r_283_24 hd hq e
noncomputable def R_283_12 (v1 : Int32) (v2 : Int32) (h : Hp) : Option (Int32 × Hp) := bndI (S_177 (Int32.toInt64 v2) 0 5 h) (R_283_21 v1 v2)
theorem r_283_12 {X : GX} {d : Nat} {r : Int32 × Hp} (hd : 4 ≤ d) (hq : RtX X (some (.int r.1)) r.2) {h : Hp} {v1 : Int32} {v2 : Int32} (e : R_283_12 v1 v2 h = some r) : G X d 283 12 [some (.ref 84), some (.int v1), some (.int v2), none] [] h := by
  unfold R_283_12 at e
  obtain ⟨x, h2, e1, e2⟩ := bndI_s e
  refine k_283_12 (by omega) (t_177 e1) ?_
  rintro _ _ ⟨rfl, rfl⟩
  exact r_283_21 hd hq e2
noncomputable def R_283_9 (v1 : Int32) (v2 : Int32) (s0 : Int32) (h : Hp) : Option (Int32 × Hp) := if s0 = 0 then R_283_38 h else R_283_12 v1 v2 h
theorem r_283_9 {X : GX} {d : Nat} {r : Int32 × Hp} (hd : 4 ≤ d) (hq : RtX X (some (.int r.1)) r.2) {h : Hp} {v1 : Int32} {v2 : Int32} {s0 : Int32} (e : R_283_9 v1 v2 s0 h = some r) : G X d 283 9 [some (.ref 84), some (.int v1), some (.int v2), none] [.int s0] h := by
  unfold R_283_9 at e
  refine k_283_9 (fun c => ?_) (fun c => ?_)
  · rw [if_pos c] at e; exact r_283_38 hd hq e
  · rw [if_neg c] at e; exact r_283_12 hd hq e
noncomputable def R_283_0 (v1 : Int32) (v2 : Int32) (h : Hp) : Option (Int32 × Hp) := bndI (S_177 (Int32.toInt64 v1) 0 3 h) (R_283_9 v1 v2)
theorem r_283_0 {X : GX} {d : Nat} {r : Int32 × Hp} (hd : 4 ≤ d) (hq : RtX X (some (.int r.1)) r.2) {h : Hp} {v1 : Int32} {v2 : Int32} (e : R_283_0 v1 v2 h = some r) : G X d 283 0 [some (.ref 84), some (.int v1), some (.int v2), none] [] h := by
  unfold R_283_0 at e
  obtain ⟨x, h2, e1, e2⟩ := bndI_s e
  refine k_283_0 (by omega) (t_177 e1) ?_
  rintro _ _ ⟨rfl, rfl⟩
  exact r_283_9 hd hq e2
noncomputable def S_283 (v1 : Int32) (v2 : Int32) (h : Hp) : Option (Int32 × Hp) := R_283_0 v1 v2 h
set_option maxRecDepth 100000 in
theorem t_283 {v1 : Int32} {v2 : Int32} {h : Hp} {r : Int32 × Hp} (e : S_283 v1 v2 h = some r) : CI 4 283 [.ref 84, .int v1, .int v2] h (fun x g => x = r.1 ∧ g = r.2) := by
  refine C.of mo_283 (Nat.le_of_ble_eq_true rfl) (fun X hq => ?_)
  exact r_283_0 (Nat.le_refl _) (hq _ _ ⟨_, rfl, rfl, rfl⟩) e
/-! 287 PlayedTruthModel.ran(I)V -/
noncomputable def R_287_36 (h : Hp) : Option (Int32 × Hp) := some (0, h)
theorem r_287_36 {X : GX} {d : Nat} {r : Int32 × Hp} (hd : 1 ≤ d) (hq : RtX X none r.2) {h : Hp} (e : R_287_36 h = some r) : G X d 287 36 [none, none] [] h := by
  unfold R_287_36 at e
  rw [← Option.some.inj e] at hq
  exact k_287_36 hq
noncomputable def R_287_16 (v1 : Int32) (h : Hp) : Option (Int32 × Hp) := gd (IA 100 (h 84 35)) (some (0, (wr (wr h 100 (Int32.toNatClampNeg (h 84 35)) v1) 84 35 (((wr h 100 (Int32.toNatClampNeg (h 84 35)) v1) 84 35) + 1))))
theorem r_287_16 {X : GX} {d : Nat} {r : Int32 × Hp} (hd : 1 ≤ d) (hq : RtX X none r.2) {h : Hp} {v1 : Int32} (e : R_287_16 v1 h = some r) : G X d 287 16 [some (.ref 84), some (.int v1)] [] h := by
  unfold R_287_16 at e
  have g := gd_s e; clear e; obtain ⟨b0, e⟩ := g
  rw [← Option.some.inj e] at hq
  exact k_287_16 b0 hq
noncomputable def R_287_9 (v1 : Int32) (h : Hp) : Option (Int32 × Hp) := if (h 84 37) = 0 then R_287_16 v1 h else R_287_36 h
theorem r_287_9 {X : GX} {d : Nat} {r : Int32 × Hp} (hd : 1 ≤ d) (hq : RtX X none r.2) {h : Hp} {v1 : Int32} (e : R_287_9 v1 h = some r) : G X d 287 9 [some (.ref 84), some (.int v1)] [] h := by
  unfold R_287_9 at e
  refine k_287_9 (fun c => ?_) (fun c => ?_)
  · rw [if_neg c] at e; exact r_287_36 hd hq e
  · rw [if_pos c] at e; exact r_287_16 hd hq e
noncomputable def R_287_0 (v1 : Int32) (h : Hp) : Option (Int32 × Hp) := if 30 ≤ (h 84 35) then R_287_36 h else R_287_9 v1 h
theorem r_287_0 {X : GX} {d : Nat} {r : Int32 × Hp} (hd : 1 ≤ d) (hq : RtX X none r.2) {h : Hp} {v1 : Int32} (e : R_287_0 v1 h = some r) : G X d 287 0 [some (.ref 84), some (.int v1)] [] h := by
  unfold R_287_0 at e
  refine k_287_0 (fun c => ?_) (fun c => ?_)
  · rw [if_pos c] at e; exact r_287_36 hd hq e
  · rw [if_neg c] at e; exact r_287_9 hd hq e
noncomputable def S_287 (v1 : Int32) (h : Hp) : Option (Int32 × Hp) := R_287_0 v1 h
set_option maxRecDepth 100000 in
theorem t_287 {v1 : Int32} {h : Hp} {r : Int32 × Hp} (e : S_287 v1 h = some r) : CV 1 287 [.ref 84, .int v1] h (fun g => g = r.2) := by
  refine C.of mo_287 (Nat.le_of_ble_eq_true rfl) (fun X hq => ?_)
  exact r_287_0 (Nat.le_refl _) (hq _ _ ⟨rfl, rfl⟩) e
/-! 286 PlayedTruthModel.entersBy(II)I -/
noncomputable def R_286_38 (c_286 : Int32 → Int32 → Hp → Option (Int32 × Hp)) (v2 : Int32) (h : Hp) : Option (Int32 × Hp) := some (((v2 * 6) + (h 84 36)), h)
theorem r_286_38 {X : GX} {d : Nat} {r : Int32 × Hp} {c_286 : Int32 → Int32 → Hp → Option (Int32 × Hp)} {dg : Nat} (hd : 2 ≤ d) (hgd : dg < d) (hc_286 : ∀ {v1 : Int32} {v2 : Int32} {h : Hp} {r : Int32 × Hp}, c_286 v1 v2 h = some r → CI dg 286 [.ref 84, .int v1, .int v2] h (fun x g => x = r.1 ∧ g = r.2)) (hq : RtX X (some (.int r.1)) r.2) {h : Hp} {v2 : Int32} (e : R_286_38 c_286 v2 h = some r) : G X d 286 38 [some (.ref 84), none, some (.int v2)] [] h := by
  unfold R_286_38 at e
  rw [← Option.some.inj e] at hq
  exact k_286_38 hq
noncomputable def R_286_32 (c_286 : Int32 → Int32 → Hp → Option (Int32 × Hp)) (v2 : Int32) (h : Hp) : Option (Int32 × Hp) := bndV (S_287 10 h) (R_286_38 c_286 v2)
theorem r_286_32 {X : GX} {d : Nat} {r : Int32 × Hp} {c_286 : Int32 → Int32 → Hp → Option (Int32 × Hp)} {dg : Nat} (hd : 2 ≤ d) (hgd : dg < d) (hc_286 : ∀ {v1 : Int32} {v2 : Int32} {h : Hp} {r : Int32 × Hp}, c_286 v1 v2 h = some r → CI dg 286 [.ref 84, .int v1, .int v2] h (fun x g => x = r.1 ∧ g = r.2)) (hq : RtX X (some (.int r.1)) r.2) {h : Hp} {v2 : Int32} (e : R_286_32 c_286 v2 h = some r) : G X d 286 32 [some (.ref 84), none, some (.int v2)] [] h := by
  unfold R_286_32 at e
  obtain ⟨x, h2, e1, e2⟩ := bndV_s e
  refine k_286_32 (by omega) (t_287 e1) ?_
  rintro _ rfl
  exact r_286_38 hd hgd hc_286 hq e2
noncomputable def R_286_60 (c_286 : Int32 → Int32 → Hp → Option (Int32 × Hp)) (s0 : Int32) (h : Hp) : Option (Int32 × Hp) := some ((s0 ^^^ 10), h)
theorem r_286_60 {X : GX} {d : Nat} {r : Int32 × Hp} {c_286 : Int32 → Int32 → Hp → Option (Int32 × Hp)} {dg : Nat} (hd : 2 ≤ d) (hgd : dg < d) (hc_286 : ∀ {v1 : Int32} {v2 : Int32} {h : Hp} {r : Int32 × Hp}, c_286 v1 v2 h = some r → CI dg 286 [.ref 84, .int v1, .int v2] h (fun x g => x = r.1 ∧ g = r.2)) (hq : RtX X (some (.int r.1)) r.2) {h : Hp} {s0 : Int32} (e : R_286_60 c_286 s0 h = some r) : G X d 286 60 [none, none, none] [.int s0] h := by
  unfold R_286_60 at e
  rw [← Option.some.inj e] at hq
  exact k_286_60 hq
noncomputable def R_286_54 (c_286 : Int32 → Int32 → Hp → Option (Int32 × Hp)) (v2 : Int32) (h : Hp) : Option (Int32 × Hp) := bndI (c_286 0 v2 h) (R_286_60 c_286)
theorem r_286_54 {X : GX} {d : Nat} {r : Int32 × Hp} {c_286 : Int32 → Int32 → Hp → Option (Int32 × Hp)} {dg : Nat} (hd : 2 ≤ d) (hgd : dg < d) (hc_286 : ∀ {v1 : Int32} {v2 : Int32} {h : Hp} {r : Int32 × Hp}, c_286 v1 v2 h = some r → CI dg 286 [.ref 84, .int v1, .int v2] h (fun x g => x = r.1 ∧ g = r.2)) (hq : RtX X (some (.int r.1)) r.2) {h : Hp} {v2 : Int32} (e : R_286_54 c_286 v2 h = some r) : G X d 286 54 [some (.ref 84), none, some (.int v2)] [] h := by
  unfold R_286_54 at e
  obtain ⟨x, h2, e1, e2⟩ := bndI_s e
  refine k_286_54 hgd (hc_286 e1) ?_
  rintro _ _ ⟨rfl, rfl⟩
  exact r_286_60 hd hgd hc_286 hq e2
noncomputable def R_286_48 (c_286 : Int32 → Int32 → Hp → Option (Int32 × Hp)) (v2 : Int32) (h : Hp) : Option (Int32 × Hp) := bndV (S_287 20 h) (R_286_54 c_286 v2)
theorem r_286_48 {X : GX} {d : Nat} {r : Int32 × Hp} {c_286 : Int32 → Int32 → Hp → Option (Int32 × Hp)} {dg : Nat} (hd : 2 ≤ d) (hgd : dg < d) (hc_286 : ∀ {v1 : Int32} {v2 : Int32} {h : Hp} {r : Int32 × Hp}, c_286 v1 v2 h = some r → CI dg 286 [.ref 84, .int v1, .int v2] h (fun x g => x = r.1 ∧ g = r.2)) (hq : RtX X (some (.int r.1)) r.2) {h : Hp} {v2 : Int32} (e : R_286_48 c_286 v2 h = some r) : G X d 286 48 [some (.ref 84), none, some (.int v2)] [] h := by
  unfold R_286_48 at e
  obtain ⟨x, h2, e1, e2⟩ := bndV_s e
  refine k_286_48 (by omega) (t_287 e1) ?_
  rintro _ rfl
  exact r_286_54 hd hgd hc_286 hq e2
noncomputable def R_286_89 (c_286 : Int32 → Int32 → Hp → Option (Int32 × Hp)) (s0 : Int32) (h : Hp) : Option (Int32 × Hp) := some (s0, h)
theorem r_286_89 {X : GX} {d : Nat} {r : Int32 × Hp} {c_286 : Int32 → Int32 → Hp → Option (Int32 × Hp)} {dg : Nat} (hd : 2 ≤ d) (hgd : dg < d) (hc_286 : ∀ {v1 : Int32} {v2 : Int32} {h : Hp} {r : Int32 × Hp}, c_286 v1 v2 h = some r → CI dg 286 [.ref 84, .int v1, .int v2] h (fun x g => x = r.1 ∧ g = r.2)) (hq : RtX X (some (.int r.1)) r.2) {h : Hp} {s0 : Int32} (e : R_286_89 c_286 s0 h = some r) : G X d 286 89 [none, none, none] [.int s0] h := by
  unfold R_286_89 at e
  rw [← Option.some.inj e] at hq
  exact k_286_89 hq
noncomputable def R_286_85 (c_286 : Int32 → Int32 → Hp → Option (Int32 × Hp)) (v2 : Int32) (s1 : Nat) (s0 : Int32) (h : Hp) : Option (Int32 × Hp) := gd (sh s1 = (1, 9) ∧ s1 = 84) (bndI (c_286 s0 v2 h) (R_286_89 c_286))
theorem r_286_85 {X : GX} {d : Nat} {r : Int32 × Hp} {c_286 : Int32 → Int32 → Hp → Option (Int32 × Hp)} {dg : Nat} (hd : 2 ≤ d) (hgd : dg < d) (hc_286 : ∀ {v1 : Int32} {v2 : Int32} {h : Hp} {r : Int32 × Hp}, c_286 v1 v2 h = some r → CI dg 286 [.ref 84, .int v1, .int v2] h (fun x g => x = r.1 ∧ g = r.2)) (hq : RtX X (some (.int r.1)) r.2) {h : Hp} {v2 : Int32} {s1 : Nat} {s0 : Int32} (e : R_286_85 c_286 v2 s1 s0 h = some r) : G X d 286 85 [none, none, some (.int v2)] [.int s0, .ref s1] h := by
  unfold R_286_85 at e
  have g := gd_s e; clear e; obtain ⟨⟨o0, q0⟩, e⟩ := g
  subst q0
  obtain ⟨x, h2, e1, e2⟩ := bndI_s e
  refine k_286_85 o0 hgd (hc_286 e1) ?_
  rintro _ _ ⟨rfl, rfl⟩
  exact r_286_89 hd hgd hc_286 hq e2
noncomputable def R_286_80 (c_286 : Int32 → Int32 → Hp → Option (Int32 × Hp)) (v1 : Int32) (v2 : Int32) (h : Hp) : Option (Int32 × Hp) := bndI (S_192 v1 h) (R_286_85 c_286 v2 84)
theorem r_286_80 {X : GX} {d : Nat} {r : Int32 × Hp} {c_286 : Int32 → Int32 → Hp → Option (Int32 × Hp)} {dg : Nat} (hd : 2 ≤ d) (hgd : dg < d) (hc_286 : ∀ {v1 : Int32} {v2 : Int32} {h : Hp} {r : Int32 × Hp}, c_286 v1 v2 h = some r → CI dg 286 [.ref 84, .int v1, .int v2] h (fun x g => x = r.1 ∧ g = r.2)) (hq : RtX X (some (.int r.1)) r.2) {h : Hp} {v1 : Int32} {v2 : Int32} (e : R_286_80 c_286 v1 v2 h = some r) : G X d 286 80 [some (.ref 84), some (.int v1), some (.int v2)] [] h := by
  unfold R_286_80 at e
  obtain ⟨x, h2, e1, e2⟩ := bndI_s e
  refine k_286_80 (by omega) (t_192 e1) ?_
  rintro _ _ ⟨rfl, rfl⟩
  exact r_286_85 hd hgd hc_286 hq e2
noncomputable def R_286_79 (c_286 : Int32 → Int32 → Hp → Option (Int32 × Hp)) (s0 : Int32) (h : Hp) : Option (Int32 × Hp) := some (s0, h)
theorem r_286_79 {X : GX} {d : Nat} {r : Int32 × Hp} {c_286 : Int32 → Int32 → Hp → Option (Int32 × Hp)} {dg : Nat} (hd : 2 ≤ d) (hgd : dg < d) (hc_286 : ∀ {v1 : Int32} {v2 : Int32} {h : Hp} {r : Int32 × Hp}, c_286 v1 v2 h = some r → CI dg 286 [.ref 84, .int v1, .int v2] h (fun x g => x = r.1 ∧ g = r.2)) (hq : RtX X (some (.int r.1)) r.2) {h : Hp} {s0 : Int32} (e : R_286_79 c_286 s0 h = some r) : G X d 286 79 [none, none, none] [.int s0] h := by
  unfold R_286_79 at e
  rw [← Option.some.inj e] at hq
  exact k_286_79 hq
noncomputable def R_286_70 (c_286 : Int32 → Int32 → Hp → Option (Int32 × Hp)) (v2 : Int32) (h : Hp) : Option (Int32 × Hp) := bndI (c_286 2 (v2 + 7) h) (R_286_79 c_286)
theorem r_286_70 {X : GX} {d : Nat} {r : Int32 × Hp} {c_286 : Int32 → Int32 → Hp → Option (Int32 × Hp)} {dg : Nat} (hd : 2 ≤ d) (hgd : dg < d) (hc_286 : ∀ {v1 : Int32} {v2 : Int32} {h : Hp} {r : Int32 × Hp}, c_286 v1 v2 h = some r → CI dg 286 [.ref 84, .int v1, .int v2] h (fun x g => x = r.1 ∧ g = r.2)) (hq : RtX X (some (.int r.1)) r.2) {h : Hp} {v2 : Int32} (e : R_286_70 c_286 v2 h = some r) : G X d 286 70 [some (.ref 84), none, some (.int v2)] [] h := by
  unfold R_286_70 at e
  obtain ⟨x, h2, e1, e2⟩ := bndI_s e
  refine k_286_70 hgd (hc_286 e1) ?_
  rintro _ _ ⟨rfl, rfl⟩
  exact r_286_79 hd hgd hc_286 hq e2
noncomputable def R_286_64 (c_286 : Int32 → Int32 → Hp → Option (Int32 × Hp)) (v2 : Int32) (h : Hp) : Option (Int32 × Hp) := bndV (S_287 50 h) (R_286_70 c_286 v2)
theorem r_286_64 {X : GX} {d : Nat} {r : Int32 × Hp} {c_286 : Int32 → Int32 → Hp → Option (Int32 × Hp)} {dg : Nat} (hd : 2 ≤ d) (hgd : dg < d) (hc_286 : ∀ {v1 : Int32} {v2 : Int32} {h : Hp} {r : Int32 × Hp}, c_286 v1 v2 h = some r → CI dg 286 [.ref 84, .int v1, .int v2] h (fun x g => x = r.1 ∧ g = r.2)) (hq : RtX X (some (.int r.1)) r.2) {h : Hp} {v2 : Int32} (e : R_286_64 c_286 v2 h = some r) : G X d 286 64 [some (.ref 84), none, some (.int v2)] [] h := by
  unfold R_286_64 at e
  obtain ⟨x, h2, e1, e2⟩ := bndV_s e
  refine k_286_64 (by omega) (t_287 e1) ?_
  rintro _ rfl
  exact r_286_70 hd hgd hc_286 hq e2
noncomputable def R_286_0 (c_286 : Int32 → Int32 → Hp → Option (Int32 × Hp)) (v1 : Int32) (v2 : Int32) (h : Hp) : Option (Int32 × Hp) := if v1 = 0 then R_286_32 c_286 v2 h else (if v1 = 1 then R_286_48 c_286 v2 h else (if v1 = 2 then R_286_80 c_286 v1 v2 h else (if v1 = 3 then R_286_64 c_286 v2 h else (R_286_80 c_286 v1 v2 h))))
theorem r_286_0 {X : GX} {d : Nat} {r : Int32 × Hp} {c_286 : Int32 → Int32 → Hp → Option (Int32 × Hp)} {dg : Nat} (hd : 2 ≤ d) (hgd : dg < d) (hc_286 : ∀ {v1 : Int32} {v2 : Int32} {h : Hp} {r : Int32 × Hp}, c_286 v1 v2 h = some r → CI dg 286 [.ref 84, .int v1, .int v2] h (fun x g => x = r.1 ∧ g = r.2)) (hq : RtX X (some (.int r.1)) r.2) {h : Hp} {v1 : Int32} {v2 : Int32} (e : R_286_0 c_286 v1 v2 h = some r) : G X d 286 0 [some (.ref 84), some (.int v1), some (.int v2)] [] h := by
  unfold R_286_0 at e
  refine k_286_0 (fun c => ?_) (fun c => ?_) (fun c => ?_) (fun c => ?_) (fun c0 c1 c2 c3 => ?_)
  · rw [if_pos c] at e; exact r_286_32 hd hgd hc_286 hq e
  · rw [if_neg (show ¬ v1 = 0 by rw [c]; decide), if_pos c] at e; exact r_286_48 hd hgd hc_286 hq e
  · rw [if_neg (show ¬ v1 = 0 by rw [c]; decide), if_neg (show ¬ v1 = 1 by rw [c]; decide), if_pos c] at e; exact r_286_80 hd hgd hc_286 hq e
  · rw [if_neg (show ¬ v1 = 0 by rw [c]; decide), if_neg (show ¬ v1 = 1 by rw [c]; decide), if_neg (show ¬ v1 = 2 by rw [c]; decide), if_pos c] at e; exact r_286_64 hd hgd hc_286 hq e
  · rw [if_neg c0, if_neg c1, if_neg c2, if_neg c3] at e; exact r_286_80 hd hgd hc_286 hq e
noncomputable def SG_286 : Nat → (Int32 → Int32 → Hp → Option (Int32 × Hp))
  | 0 => (fun _ _ _ => none)
  | n + 1 => (fun v1 v2 h => R_286_0 (SG_286 n) v1 v2 h)
set_option maxRecDepth 100000 in
theorem tg_286 : ∀ n, (∀ {v1 : Int32} {v2 : Int32} {h : Hp} {r : Int32 × Hp}, (SG_286 n) v1 v2 h = some r → CI (2 + n) 286 [.ref 84, .int v1, .int v2] h (fun x g => x = r.1 ∧ g = r.2)) := by
  intro n
  induction n with
  | zero => exact fun e => by cases e
  | succ n ih =>
    have i286 := @ih
    intro v1 v2 h r e
    · refine C.of mo_286 (Nat.le_of_ble_eq_true rfl) (fun X hq => ?_)
      exact r_286_0 (by omega) (show 2 + n < 2 + (n + 1) by omega) (fun e => i286 e) (hq _ _ ⟨_, rfl, rfl, rfl⟩) e
noncomputable def S_286 (v1 : Int32) (v2 : Int32) (h : Hp) : Option (Int32 × Hp) := (SG_286 60) v1 v2 h
theorem t_286 {v1 : Int32} {v2 : Int32} {h : Hp} {r : Int32 × Hp} (e : S_286 v1 v2 h = some r) : CI 62 286 [.ref 84, .int v1, .int v2] h (fun x g => x = r.1 ∧ g = r.2) := (tg_286 60) e
/-! 288 PlayedTruthModel.speaksBy(II)I -/
noncomputable def R_288_65 (c_288 : Int32 → Int32 → Hp → Option (Int32 × Hp)) (s1 : Int32) (s0 : Int32) (h : Hp) : Option (Int32 × Hp) := some ((s1 - s0), h)
theorem r_288_65 {X : GX} {d : Nat} {r : Int32 × Hp} {c_288 : Int32 → Int32 → Hp → Option (Int32 × Hp)} {dg : Nat} (hd : 63 ≤ d) (hgd : dg < d) (hc_288 : ∀ {v1 : Int32} {v2 : Int32} {h : Hp} {r : Int32 × Hp}, c_288 v1 v2 h = some r → CI dg 288 [.ref 84, .int v1, .int v2] h (fun x g => x = r.1 ∧ g = r.2)) (hq : RtX X (some (.int r.1)) r.2) {h : Hp} {s1 : Int32} {s0 : Int32} (e : R_288_65 c_288 s1 s0 h = some r) : G X d 288 65 [none, none, none] [.int s0, .int s1] h := by
  unfold R_288_65 at e
  rw [← Option.some.inj e] at hq
  exact k_288_65 hq
noncomputable def R_288_56 (c_288 : Int32 → Int32 → Hp → Option (Int32 × Hp)) (s0 : Int32) (h : Hp) : Option (Int32 × Hp) := bndI (S_182 (h 84 36) 3 h) (R_288_65 c_288 s0)
theorem r_288_56 {X : GX} {d : Nat} {r : Int32 × Hp} {c_288 : Int32 → Int32 → Hp → Option (Int32 × Hp)} {dg : Nat} (hd : 63 ≤ d) (hgd : dg < d) (hc_288 : ∀ {v1 : Int32} {v2 : Int32} {h : Hp} {r : Int32 × Hp}, c_288 v1 v2 h = some r → CI dg 288 [.ref 84, .int v1, .int v2] h (fun x g => x = r.1 ∧ g = r.2)) (hq : RtX X (some (.int r.1)) r.2) {h : Hp} {s0 : Int32} (e : R_288_56 c_288 s0 h = some r) : G X d 288 56 [some (.ref 84), none, none] [.int s0] h := by
  unfold R_288_56 at e
  obtain ⟨x, h2, e1, e2⟩ := bndI_s e
  refine k_288_56 (by omega) (t_182 e1) ?_
  rintro _ _ ⟨rfl, rfl⟩
  exact r_288_65 hd hgd hc_288 hq e2
noncomputable def R_288_52 (c_288 : Int32 → Int32 → Hp → Option (Int32 × Hp)) (v2 : Int32) (s1 : Nat) (s0 : Int32) (h : Hp) : Option (Int32 × Hp) := gd (sh s1 = (1, 9) ∧ s1 = 84) (bndI (S_286 s0 v2 h) (R_288_56 c_288))
theorem r_288_52 {X : GX} {d : Nat} {r : Int32 × Hp} {c_288 : Int32 → Int32 → Hp → Option (Int32 × Hp)} {dg : Nat} (hd : 63 ≤ d) (hgd : dg < d) (hc_288 : ∀ {v1 : Int32} {v2 : Int32} {h : Hp} {r : Int32 × Hp}, c_288 v1 v2 h = some r → CI dg 288 [.ref 84, .int v1, .int v2] h (fun x g => x = r.1 ∧ g = r.2)) (hq : RtX X (some (.int r.1)) r.2) {h : Hp} {v2 : Int32} {s1 : Nat} {s0 : Int32} (e : R_288_52 c_288 v2 s1 s0 h = some r) : G X d 288 52 [some (.ref 84), none, some (.int v2)] [.int s0, .ref s1] h := by
  unfold R_288_52 at e
  have g := gd_s e; clear e; obtain ⟨⟨o0, q0⟩, e⟩ := g
  subst q0
  obtain ⟨x, h2, e1, e2⟩ := bndI_s e
  refine k_288_52 o0 (by omega) (t_286 e1) ?_
  rintro _ _ ⟨rfl, rfl⟩
  exact r_288_56 hd hgd hc_288 hq e2
noncomputable def R_288_42 (c_288 : Int32 → Int32 → Hp → Option (Int32 × Hp)) (v2 : Int32) (h : Hp) : Option (Int32 × Hp) := bndI (S_182 (h 84 36) 0 h) (R_288_52 c_288 v2 84)
theorem r_288_42 {X : GX} {d : Nat} {r : Int32 × Hp} {c_288 : Int32 → Int32 → Hp → Option (Int32 × Hp)} {dg : Nat} (hd : 63 ≤ d) (hgd : dg < d) (hc_288 : ∀ {v1 : Int32} {v2 : Int32} {h : Hp} {r : Int32 × Hp}, c_288 v1 v2 h = some r → CI dg 288 [.ref 84, .int v1, .int v2] h (fun x g => x = r.1 ∧ g = r.2)) (hq : RtX X (some (.int r.1)) r.2) {h : Hp} {v2 : Int32} (e : R_288_42 c_288 v2 h = some r) : G X d 288 42 [some (.ref 84), none, some (.int v2)] [] h := by
  unfold R_288_42 at e
  obtain ⟨x, h2, e1, e2⟩ := bndI_s e
  refine k_288_42 (by omega) (t_182 e1) ?_
  rintro _ _ ⟨rfl, rfl⟩
  exact r_288_52 hd hgd hc_288 hq e2
noncomputable def R_288_36 (c_288 : Int32 → Int32 → Hp → Option (Int32 × Hp)) (v2 : Int32) (h : Hp) : Option (Int32 × Hp) := bndV (S_287 11 h) (R_288_42 c_288 v2)
theorem r_288_36 {X : GX} {d : Nat} {r : Int32 × Hp} {c_288 : Int32 → Int32 → Hp → Option (Int32 × Hp)} {dg : Nat} (hd : 63 ≤ d) (hgd : dg < d) (hc_288 : ∀ {v1 : Int32} {v2 : Int32} {h : Hp} {r : Int32 × Hp}, c_288 v1 v2 h = some r → CI dg 288 [.ref 84, .int v1, .int v2] h (fun x g => x = r.1 ∧ g = r.2)) (hq : RtX X (some (.int r.1)) r.2) {h : Hp} {v2 : Int32} (e : R_288_36 c_288 v2 h = some r) : G X d 288 36 [some (.ref 84), none, some (.int v2)] [] h := by
  unfold R_288_36 at e
  obtain ⟨x, h2, e1, e2⟩ := bndV_s e
  refine k_288_36 (by omega) (t_287 e1) ?_
  rintro _ rfl
  exact r_288_42 hd hgd hc_288 hq e2
noncomputable def R_288_79 (c_288 : Int32 → Int32 → Hp → Option (Int32 × Hp)) (s0 : Int32) (h : Hp) : Option (Int32 × Hp) := some ((s0 * 2), h)
theorem r_288_79 {X : GX} {d : Nat} {r : Int32 × Hp} {c_288 : Int32 → Int32 → Hp → Option (Int32 × Hp)} {dg : Nat} (hd : 63 ≤ d) (hgd : dg < d) (hc_288 : ∀ {v1 : Int32} {v2 : Int32} {h : Hp} {r : Int32 × Hp}, c_288 v1 v2 h = some r → CI dg 288 [.ref 84, .int v1, .int v2] h (fun x g => x = r.1 ∧ g = r.2)) (hq : RtX X (some (.int r.1)) r.2) {h : Hp} {s0 : Int32} (e : R_288_79 c_288 s0 h = some r) : G X d 288 79 [none, none, none] [.int s0] h := by
  unfold R_288_79 at e
  rw [← Option.some.inj e] at hq
  exact k_288_79 hq
noncomputable def R_288_73 (c_288 : Int32 → Int32 → Hp → Option (Int32 × Hp)) (v2 : Int32) (h : Hp) : Option (Int32 × Hp) := bndI (c_288 0 v2 h) (R_288_79 c_288)
theorem r_288_73 {X : GX} {d : Nat} {r : Int32 × Hp} {c_288 : Int32 → Int32 → Hp → Option (Int32 × Hp)} {dg : Nat} (hd : 63 ≤ d) (hgd : dg < d) (hc_288 : ∀ {v1 : Int32} {v2 : Int32} {h : Hp} {r : Int32 × Hp}, c_288 v1 v2 h = some r → CI dg 288 [.ref 84, .int v1, .int v2] h (fun x g => x = r.1 ∧ g = r.2)) (hq : RtX X (some (.int r.1)) r.2) {h : Hp} {v2 : Int32} (e : R_288_73 c_288 v2 h = some r) : G X d 288 73 [some (.ref 84), none, some (.int v2)] [] h := by
  unfold R_288_73 at e
  obtain ⟨x, h2, e1, e2⟩ := bndI_s e
  refine k_288_73 hgd (hc_288 e1) ?_
  rintro _ _ ⟨rfl, rfl⟩
  exact r_288_79 hd hgd hc_288 hq e2
noncomputable def R_288_67 (c_288 : Int32 → Int32 → Hp → Option (Int32 × Hp)) (v2 : Int32) (h : Hp) : Option (Int32 × Hp) := bndV (S_287 30 h) (R_288_73 c_288 v2)
theorem r_288_67 {X : GX} {d : Nat} {r : Int32 × Hp} {c_288 : Int32 → Int32 → Hp → Option (Int32 × Hp)} {dg : Nat} (hd : 63 ≤ d) (hgd : dg < d) (hc_288 : ∀ {v1 : Int32} {v2 : Int32} {h : Hp} {r : Int32 × Hp}, c_288 v1 v2 h = some r → CI dg 288 [.ref 84, .int v1, .int v2] h (fun x g => x = r.1 ∧ g = r.2)) (hq : RtX X (some (.int r.1)) r.2) {h : Hp} {v2 : Int32} (e : R_288_67 c_288 v2 h = some r) : G X d 288 67 [some (.ref 84), none, some (.int v2)] [] h := by
  unfold R_288_67 at e
  obtain ⟨x, h2, e1, e2⟩ := bndV_s e
  refine k_288_67 (by omega) (t_287 e1) ?_
  rintro _ rfl
  exact r_288_73 hd hgd hc_288 hq e2
noncomputable def R_288_95 (c_288 : Int32 → Int32 → Hp → Option (Int32 × Hp)) (s1 : Int32) (s0 : Int32) (h : Hp) : Option (Int32 × Hp) := some ((s1 - s0), h)
theorem r_288_95 {X : GX} {d : Nat} {r : Int32 × Hp} {c_288 : Int32 → Int32 → Hp → Option (Int32 × Hp)} {dg : Nat} (hd : 63 ≤ d) (hgd : dg < d) (hc_288 : ∀ {v1 : Int32} {v2 : Int32} {h : Hp} {r : Int32 × Hp}, c_288 v1 v2 h = some r → CI dg 288 [.ref 84, .int v1, .int v2] h (fun x g => x = r.1 ∧ g = r.2)) (hq : RtX X (some (.int r.1)) r.2) {h : Hp} {s1 : Int32} {s0 : Int32} (e : R_288_95 c_288 s1 s0 h = some r) : G X d 288 95 [none, none, none] [.int s0, .int s1] h := by
  unfold R_288_95 at e
  rw [← Option.some.inj e] at hq
  exact k_288_95 hq
noncomputable def R_288_88 (c_288 : Int32 → Int32 → Hp → Option (Int32 × Hp)) (v2 : Int32) (h : Hp) : Option (Int32 × Hp) := bndI (c_288 4 v2 h) (R_288_95 c_288 0)
theorem r_288_88 {X : GX} {d : Nat} {r : Int32 × Hp} {c_288 : Int32 → Int32 → Hp → Option (Int32 × Hp)} {dg : Nat} (hd : 63 ≤ d) (hgd : dg < d) (hc_288 : ∀ {v1 : Int32} {v2 : Int32} {h : Hp} {r : Int32 × Hp}, c_288 v1 v2 h = some r → CI dg 288 [.ref 84, .int v1, .int v2] h (fun x g => x = r.1 ∧ g = r.2)) (hq : RtX X (some (.int r.1)) r.2) {h : Hp} {v2 : Int32} (e : R_288_88 c_288 v2 h = some r) : G X d 288 88 [some (.ref 84), none, some (.int v2)] [] h := by
  unfold R_288_88 at e
  obtain ⟨x, h2, e1, e2⟩ := bndI_s e
  refine k_288_88 hgd (hc_288 e1) ?_
  rintro _ _ ⟨rfl, rfl⟩
  exact r_288_95 hd hgd hc_288 hq e2
noncomputable def R_288_82 (c_288 : Int32 → Int32 → Hp → Option (Int32 × Hp)) (v2 : Int32) (h : Hp) : Option (Int32 × Hp) := bndV (S_287 60 h) (R_288_88 c_288 v2)
theorem r_288_82 {X : GX} {d : Nat} {r : Int32 × Hp} {c_288 : Int32 → Int32 → Hp → Option (Int32 × Hp)} {dg : Nat} (hd : 63 ≤ d) (hgd : dg < d) (hc_288 : ∀ {v1 : Int32} {v2 : Int32} {h : Hp} {r : Int32 × Hp}, c_288 v1 v2 h = some r → CI dg 288 [.ref 84, .int v1, .int v2] h (fun x g => x = r.1 ∧ g = r.2)) (hq : RtX X (some (.int r.1)) r.2) {h : Hp} {v2 : Int32} (e : R_288_82 c_288 v2 h = some r) : G X d 288 82 [some (.ref 84), none, some (.int v2)] [] h := by
  unfold R_288_82 at e
  obtain ⟨x, h2, e1, e2⟩ := bndV_s e
  refine k_288_82 (by omega) (t_287 e1) ?_
  rintro _ rfl
  exact r_288_88 hd hgd hc_288 hq e2
noncomputable def R_288_106 (c_288 : Int32 → Int32 → Hp → Option (Int32 × Hp)) (s0 : Int32) (h : Hp) : Option (Int32 × Hp) := some (s0, h)
theorem r_288_106 {X : GX} {d : Nat} {r : Int32 × Hp} {c_288 : Int32 → Int32 → Hp → Option (Int32 × Hp)} {dg : Nat} (hd : 63 ≤ d) (hgd : dg < d) (hc_288 : ∀ {v1 : Int32} {v2 : Int32} {h : Hp} {r : Int32 × Hp}, c_288 v1 v2 h = some r → CI dg 288 [.ref 84, .int v1, .int v2] h (fun x g => x = r.1 ∧ g = r.2)) (hq : RtX X (some (.int r.1)) r.2) {h : Hp} {s0 : Int32} (e : R_288_106 c_288 s0 h = some r) : G X d 288 106 [none, none, none] [.int s0] h := by
  unfold R_288_106 at e
  rw [← Option.some.inj e] at hq
  exact k_288_106 hq
noncomputable def R_288_102 (c_288 : Int32 → Int32 → Hp → Option (Int32 × Hp)) (v2 : Int32) (s1 : Nat) (s0 : Int32) (h : Hp) : Option (Int32 × Hp) := gd (sh s1 = (1, 9) ∧ s1 = 84) (bndI (c_288 s0 v2 h) (R_288_106 c_288))
theorem r_288_102 {X : GX} {d : Nat} {r : Int32 × Hp} {c_288 : Int32 → Int32 → Hp → Option (Int32 × Hp)} {dg : Nat} (hd : 63 ≤ d) (hgd : dg < d) (hc_288 : ∀ {v1 : Int32} {v2 : Int32} {h : Hp} {r : Int32 × Hp}, c_288 v1 v2 h = some r → CI dg 288 [.ref 84, .int v1, .int v2] h (fun x g => x = r.1 ∧ g = r.2)) (hq : RtX X (some (.int r.1)) r.2) {h : Hp} {v2 : Int32} {s1 : Nat} {s0 : Int32} (e : R_288_102 c_288 v2 s1 s0 h = some r) : G X d 288 102 [none, none, some (.int v2)] [.int s0, .ref s1] h := by
  unfold R_288_102 at e
  have g := gd_s e; clear e; obtain ⟨⟨o0, q0⟩, e⟩ := g
  subst q0
  obtain ⟨x, h2, e1, e2⟩ := bndI_s e
  refine k_288_102 o0 hgd (hc_288 e1) ?_
  rintro _ _ ⟨rfl, rfl⟩
  exact r_288_106 hd hgd hc_288 hq e2
noncomputable def R_288_97 (c_288 : Int32 → Int32 → Hp → Option (Int32 × Hp)) (v1 : Int32) (v2 : Int32) (h : Hp) : Option (Int32 × Hp) := bndI (S_192 v1 h) (R_288_102 c_288 v2 84)
theorem r_288_97 {X : GX} {d : Nat} {r : Int32 × Hp} {c_288 : Int32 → Int32 → Hp → Option (Int32 × Hp)} {dg : Nat} (hd : 63 ≤ d) (hgd : dg < d) (hc_288 : ∀ {v1 : Int32} {v2 : Int32} {h : Hp} {r : Int32 × Hp}, c_288 v1 v2 h = some r → CI dg 288 [.ref 84, .int v1, .int v2] h (fun x g => x = r.1 ∧ g = r.2)) (hq : RtX X (some (.int r.1)) r.2) {h : Hp} {v1 : Int32} {v2 : Int32} (e : R_288_97 c_288 v1 v2 h = some r) : G X d 288 97 [some (.ref 84), some (.int v1), some (.int v2)] [] h := by
  unfold R_288_97 at e
  obtain ⟨x, h2, e1, e2⟩ := bndI_s e
  refine k_288_97 (by omega) (t_192 e1) ?_
  rintro _ _ ⟨rfl, rfl⟩
  exact r_288_102 hd hgd hc_288 hq e2
noncomputable def R_288_0 (c_288 : Int32 → Int32 → Hp → Option (Int32 × Hp)) (v1 : Int32) (v2 : Int32) (h : Hp) : Option (Int32 × Hp) := if v1 = 0 then R_288_36 c_288 v2 h else (if v1 = 2 then R_288_67 c_288 v2 h else (if v1 = 5 then R_288_82 c_288 v2 h else (R_288_97 c_288 v1 v2 h)))
theorem r_288_0 {X : GX} {d : Nat} {r : Int32 × Hp} {c_288 : Int32 → Int32 → Hp → Option (Int32 × Hp)} {dg : Nat} (hd : 63 ≤ d) (hgd : dg < d) (hc_288 : ∀ {v1 : Int32} {v2 : Int32} {h : Hp} {r : Int32 × Hp}, c_288 v1 v2 h = some r → CI dg 288 [.ref 84, .int v1, .int v2] h (fun x g => x = r.1 ∧ g = r.2)) (hq : RtX X (some (.int r.1)) r.2) {h : Hp} {v1 : Int32} {v2 : Int32} (e : R_288_0 c_288 v1 v2 h = some r) : G X d 288 0 [some (.ref 84), some (.int v1), some (.int v2)] [] h := by
  unfold R_288_0 at e
  refine k_288_0 (fun c => ?_) (fun c => ?_) (fun c => ?_) (fun c0 c1 c2 => ?_)
  · rw [if_pos c] at e; exact r_288_36 hd hgd hc_288 hq e
  · rw [if_neg (show ¬ v1 = 0 by rw [c]; decide), if_pos c] at e; exact r_288_67 hd hgd hc_288 hq e
  · rw [if_neg (show ¬ v1 = 0 by rw [c]; decide), if_neg (show ¬ v1 = 2 by rw [c]; decide), if_pos c] at e; exact r_288_82 hd hgd hc_288 hq e
  · rw [if_neg c0, if_neg c1, if_neg c2] at e; exact r_288_97 hd hgd hc_288 hq e
noncomputable def SG_288 : Nat → (Int32 → Int32 → Hp → Option (Int32 × Hp))
  | 0 => (fun _ _ _ => none)
  | n + 1 => (fun v1 v2 h => R_288_0 (SG_288 n) v1 v2 h)
set_option maxRecDepth 100000 in
theorem tg_288 : ∀ n, (∀ {v1 : Int32} {v2 : Int32} {h : Hp} {r : Int32 × Hp}, (SG_288 n) v1 v2 h = some r → CI (63 + n) 288 [.ref 84, .int v1, .int v2] h (fun x g => x = r.1 ∧ g = r.2)) := by
  intro n
  induction n with
  | zero => exact fun e => by cases e
  | succ n ih =>
    have i288 := @ih
    intro v1 v2 h r e
    · refine C.of mo_288 (Nat.le_of_ble_eq_true rfl) (fun X hq => ?_)
      exact r_288_0 (by omega) (show 63 + n < 63 + (n + 1) by omega) (fun e => i288 e) (hq _ _ ⟨_, rfl, rfl, rfl⟩) e
noncomputable def S_288 (v1 : Int32) (v2 : Int32) (h : Hp) : Option (Int32 × Hp) := (SG_288 60) v1 v2 h
theorem t_288 {v1 : Int32} {v2 : Int32} {h : Hp} {r : Int32 × Hp} (e : S_288 v1 v2 h = some r) : CI 123 288 [.ref 84, .int v1, .int v2] h (fun x g => x = r.1 ∧ g = r.2) := (tg_288 60) e
/-! 289 PlayedTruthModel.halvesBy(II)I -/
noncomputable def R_289_87 (c_289 : Int32 → Int32 → Hp → Option (Int32 × Hp)) (v2 : Int32) (v3 : Int32) (h : Hp) : Option (Int32 × Hp) := gd (¬ v3 = 0) (some ((v2 / v3), h))
theorem r_289_87 {X : GX} {d : Nat} {r : Int32 × Hp} {c_289 : Int32 → Int32 → Hp → Option (Int32 × Hp)} {dg : Nat} (hd : 63 ≤ d) (hgd : dg < d) (hc_289 : ∀ {v1 : Int32} {v2 : Int32} {h : Hp} {r : Int32 × Hp}, c_289 v1 v2 h = some r → CI dg 289 [.ref 84, .int v1, .int v2] h (fun x g => x = r.1 ∧ g = r.2)) (hq : RtX X (some (.int r.1)) r.2) {h : Hp} {v2 : Int32} {v3 : Int32} (e : R_289_87 c_289 v2 v3 h = some r) : G X d 289 87 [none, none, some (.int v2), some (.int v3)] [] h := by
  unfold R_289_87 at e
  have g := gd_s e; clear e; obtain ⟨n0, e⟩ := g
  rw [← Option.some.inj e] at hq
  exact k_289_87 n0 hq
noncomputable def R_289_83 (c_289 : Int32 → Int32 → Hp → Option (Int32 × Hp)) (h : Hp) : Option (Int32 × Hp) := some (0, h)
theorem r_289_83 {X : GX} {d : Nat} {r : Int32 × Hp} {c_289 : Int32 → Int32 → Hp → Option (Int32 × Hp)} {dg : Nat} (hd : 63 ≤ d) (hgd : dg < d) (hc_289 : ∀ {v1 : Int32} {v2 : Int32} {h : Hp} {r : Int32 × Hp}, c_289 v1 v2 h = some r → CI dg 289 [.ref 84, .int v1, .int v2] h (fun x g => x = r.1 ∧ g = r.2)) (hq : RtX X (some (.int r.1)) r.2) {h : Hp} (e : R_289_83 c_289 h = some r) : G X d 289 83 [none, none, none, none] [] h := by
  unfold R_289_83 at e
  rw [← Option.some.inj e] at hq
  exact k_289_83 hq
noncomputable def R_289_71 (c_289 : Int32 → Int32 → Hp → Option (Int32 × Hp)) (v2 : Int32) (v3 : Int32) (s0 : Nat) (h : Hp) : Option (Int32 × Hp) := gd (sh s0 = (1, 9)) (if v3 = 0 then R_289_83 c_289 ((wr h s0 37 1)) else R_289_87 c_289 v2 v3 ((wr h s0 37 1)))
theorem r_289_71 {X : GX} {d : Nat} {r : Int32 × Hp} {c_289 : Int32 → Int32 → Hp → Option (Int32 × Hp)} {dg : Nat} (hd : 63 ≤ d) (hgd : dg < d) (hc_289 : ∀ {v1 : Int32} {v2 : Int32} {h : Hp} {r : Int32 × Hp}, c_289 v1 v2 h = some r → CI dg 289 [.ref 84, .int v1, .int v2] h (fun x g => x = r.1 ∧ g = r.2)) (hq : RtX X (some (.int r.1)) r.2) {h : Hp} {v2 : Int32} {v3 : Int32} {s0 : Nat} (e : R_289_71 c_289 v2 v3 s0 h = some r) : G X d 289 71 [none, none, some (.int v2), some (.int v3)] [.ref s0] h := by
  unfold R_289_71 at e
  have g := gd_s e; clear e; obtain ⟨o0, e⟩ := g
  refine k_289_71 o0 (fun c => ?_) (fun c => ?_)
  · rw [if_neg c] at e; exact r_289_87 hd hgd hc_289 hq e
  · rw [if_pos c] at e; exact r_289_83 hd hgd hc_289 hq e
noncomputable def R_289_75 (c_289 : Int32 → Int32 → Hp → Option (Int32 × Hp)) (v2 : Int32) (v3 : Int32) (s0 : Nat) (h : Hp) : Option (Int32 × Hp) := gd (sh s0 = (1, 9)) (if v3 = 0 then R_289_83 c_289 ((wr h s0 37 0)) else R_289_87 c_289 v2 v3 ((wr h s0 37 0)))
theorem r_289_75 {X : GX} {d : Nat} {r : Int32 × Hp} {c_289 : Int32 → Int32 → Hp → Option (Int32 × Hp)} {dg : Nat} (hd : 63 ≤ d) (hgd : dg < d) (hc_289 : ∀ {v1 : Int32} {v2 : Int32} {h : Hp} {r : Int32 × Hp}, c_289 v1 v2 h = some r → CI dg 289 [.ref 84, .int v1, .int v2] h (fun x g => x = r.1 ∧ g = r.2)) (hq : RtX X (some (.int r.1)) r.2) {h : Hp} {v2 : Int32} {v3 : Int32} {s0 : Nat} (e : R_289_75 c_289 v2 v3 s0 h = some r) : G X d 289 75 [none, none, some (.int v2), some (.int v3)] [.ref s0] h := by
  unfold R_289_75 at e
  have g := gd_s e; clear e; obtain ⟨o0, e⟩ := g
  refine k_289_75 o0 (fun c => ?_) (fun c => ?_)
  · rw [if_neg c] at e; exact r_289_87 hd hgd hc_289 hq e
  · rw [if_pos c] at e; exact r_289_83 hd hgd hc_289 hq e
noncomputable def R_289_67 (c_289 : Int32 → Int32 → Hp → Option (Int32 × Hp)) (v2 : Int32) (v3 : Int32) (s0 : Nat) (h : Hp) : Option (Int32 × Hp) := if v3 = 0 then R_289_71 c_289 v2 v3 s0 h else R_289_75 c_289 v2 v3 s0 h
theorem r_289_67 {X : GX} {d : Nat} {r : Int32 × Hp} {c_289 : Int32 → Int32 → Hp → Option (Int32 × Hp)} {dg : Nat} (hd : 63 ≤ d) (hgd : dg < d) (hc_289 : ∀ {v1 : Int32} {v2 : Int32} {h : Hp} {r : Int32 × Hp}, c_289 v1 v2 h = some r → CI dg 289 [.ref 84, .int v1, .int v2] h (fun x g => x = r.1 ∧ g = r.2)) (hq : RtX X (some (.int r.1)) r.2) {h : Hp} {v2 : Int32} {v3 : Int32} {s0 : Nat} (e : R_289_67 c_289 v2 v3 s0 h = some r) : G X d 289 67 [none, none, some (.int v2), some (.int v3)] [.ref s0] h := by
  unfold R_289_67 at e
  refine k_289_67 (fun c => ?_) (fun c => ?_)
  · rw [if_neg c] at e; exact r_289_75 hd hgd hc_289 hq e
  · rw [if_pos c] at e; exact r_289_71 hd hgd hc_289 hq e
noncomputable def R_289_51 (c_289 : Int32 → Int32 → Hp → Option (Int32 × Hp)) (v2 : Int32) (s0 : Int32) (h : Hp) : Option (Int32 × Hp) := if (h 84 37) = 0 then R_289_67 c_289 v2 ((s0 + (h 84 36)) - 3) 84 h else R_289_71 c_289 v2 ((s0 + (h 84 36)) - 3) 84 h
theorem r_289_51 {X : GX} {d : Nat} {r : Int32 × Hp} {c_289 : Int32 → Int32 → Hp → Option (Int32 × Hp)} {dg : Nat} (hd : 63 ≤ d) (hgd : dg < d) (hc_289 : ∀ {v1 : Int32} {v2 : Int32} {h : Hp} {r : Int32 × Hp}, c_289 v1 v2 h = some r → CI dg 289 [.ref 84, .int v1, .int v2] h (fun x g => x = r.1 ∧ g = r.2)) (hq : RtX X (some (.int r.1)) r.2) {h : Hp} {v2 : Int32} {s0 : Int32} (e : R_289_51 c_289 v2 s0 h = some r) : G X d 289 51 [some (.ref 84), none, some (.int v2), none] [.int s0] h := by
  unfold R_289_51 at e
  refine k_289_51 (fun c => ?_) (fun c => ?_)
  · rw [if_neg c] at e; exact r_289_71 hd hgd hc_289 hq e
  · rw [if_pos c] at e; exact r_289_67 hd hgd hc_289 hq e
noncomputable def R_289_42 (c_289 : Int32 → Int32 → Hp → Option (Int32 × Hp)) (v2 : Int32) (h : Hp) : Option (Int32 × Hp) := bndI (S_182 (h 84 36) 3 h) (R_289_51 c_289 v2)
theorem r_289_42 {X : GX} {d : Nat} {r : Int32 × Hp} {c_289 : Int32 → Int32 → Hp → Option (Int32 × Hp)} {dg : Nat} (hd : 63 ≤ d) (hgd : dg < d) (hc_289 : ∀ {v1 : Int32} {v2 : Int32} {h : Hp} {r : Int32 × Hp}, c_289 v1 v2 h = some r → CI dg 289 [.ref 84, .int v1, .int v2] h (fun x g => x = r.1 ∧ g = r.2)) (hq : RtX X (some (.int r.1)) r.2) {h : Hp} {v2 : Int32} (e : R_289_42 c_289 v2 h = some r) : G X d 289 42 [some (.ref 84), none, some (.int v2), none] [] h := by
  unfold R_289_42 at e
  obtain ⟨x, h2, e1, e2⟩ := bndI_s e
  refine k_289_42 (by omega) (t_182 e1) ?_
  rintro _ _ ⟨rfl, rfl⟩
  exact r_289_51 hd hgd hc_289 hq e2
noncomputable def R_289_36 (c_289 : Int32 → Int32 → Hp → Option (Int32 × Hp)) (v2 : Int32) (h : Hp) : Option (Int32 × Hp) := bndV (S_287 12 h) (R_289_42 c_289 v2)
theorem r_289_36 {X : GX} {d : Nat} {r : Int32 × Hp} {c_289 : Int32 → Int32 → Hp → Option (Int32 × Hp)} {dg : Nat} (hd : 63 ≤ d) (hgd : dg < d) (hc_289 : ∀ {v1 : Int32} {v2 : Int32} {h : Hp} {r : Int32 × Hp}, c_289 v1 v2 h = some r → CI dg 289 [.ref 84, .int v1, .int v2] h (fun x g => x = r.1 ∧ g = r.2)) (hq : RtX X (some (.int r.1)) r.2) {h : Hp} {v2 : Int32} (e : R_289_36 c_289 v2 h = some r) : G X d 289 36 [some (.ref 84), none, some (.int v2), none] [] h := by
  unfold R_289_36 at e
  obtain ⟨x, h2, e1, e2⟩ := bndV_s e
  refine k_289_36 (by omega) (t_287 e1) ?_
  rintro _ rfl
  exact r_289_42 hd hgd hc_289 hq e2
noncomputable def R_289_103 (c_289 : Int32 → Int32 → Hp → Option (Int32 × Hp)) (s0 : Int32) (h : Hp) : Option (Int32 × Hp) := some ((s0 + 6), h)
theorem r_289_103 {X : GX} {d : Nat} {r : Int32 × Hp} {c_289 : Int32 → Int32 → Hp → Option (Int32 × Hp)} {dg : Nat} (hd : 63 ≤ d) (hgd : dg < d) (hc_289 : ∀ {v1 : Int32} {v2 : Int32} {h : Hp} {r : Int32 × Hp}, c_289 v1 v2 h = some r → CI dg 289 [.ref 84, .int v1, .int v2] h (fun x g => x = r.1 ∧ g = r.2)) (hq : RtX X (some (.int r.1)) r.2) {h : Hp} {s0 : Int32} (e : R_289_103 c_289 s0 h = some r) : G X d 289 103 [none, none, none, none] [.int s0] h := by
  unfold R_289_103 at e
  rw [← Option.some.inj e] at hq
  exact k_289_103 hq
noncomputable def R_289_97 (c_289 : Int32 → Int32 → Hp → Option (Int32 × Hp)) (v2 : Int32) (h : Hp) : Option (Int32 × Hp) := bndI (c_289 0 v2 h) (R_289_103 c_289)
theorem r_289_97 {X : GX} {d : Nat} {r : Int32 × Hp} {c_289 : Int32 → Int32 → Hp → Option (Int32 × Hp)} {dg : Nat} (hd : 63 ≤ d) (hgd : dg < d) (hc_289 : ∀ {v1 : Int32} {v2 : Int32} {h : Hp} {r : Int32 × Hp}, c_289 v1 v2 h = some r → CI dg 289 [.ref 84, .int v1, .int v2] h (fun x g => x = r.1 ∧ g = r.2)) (hq : RtX X (some (.int r.1)) r.2) {h : Hp} {v2 : Int32} (e : R_289_97 c_289 v2 h = some r) : G X d 289 97 [some (.ref 84), none, some (.int v2), none] [] h := by
  unfold R_289_97 at e
  obtain ⟨x, h2, e1, e2⟩ := bndI_s e
  refine k_289_97 hgd (hc_289 e1) ?_
  rintro _ _ ⟨rfl, rfl⟩
  exact r_289_103 hd hgd hc_289 hq e2
noncomputable def R_289_91 (c_289 : Int32 → Int32 → Hp → Option (Int32 × Hp)) (v2 : Int32) (h : Hp) : Option (Int32 × Hp) := bndV (S_287 40 h) (R_289_97 c_289 v2)
theorem r_289_91 {X : GX} {d : Nat} {r : Int32 × Hp} {c_289 : Int32 → Int32 → Hp → Option (Int32 × Hp)} {dg : Nat} (hd : 63 ≤ d) (hgd : dg < d) (hc_289 : ∀ {v1 : Int32} {v2 : Int32} {h : Hp} {r : Int32 × Hp}, c_289 v1 v2 h = some r → CI dg 289 [.ref 84, .int v1, .int v2] h (fun x g => x = r.1 ∧ g = r.2)) (hq : RtX X (some (.int r.1)) r.2) {h : Hp} {v2 : Int32} (e : R_289_91 c_289 v2 h = some r) : G X d 289 91 [some (.ref 84), none, some (.int v2), none] [] h := by
  unfold R_289_91 at e
  obtain ⟨x, h2, e1, e2⟩ := bndV_s e
  refine k_289_91 (by omega) (t_287 e1) ?_
  rintro _ rfl
  exact r_289_97 hd hgd hc_289 hq e2
noncomputable def R_289_138 (c_289 : Int32 → Int32 → Hp → Option (Int32 × Hp)) (s1 : Int32) (s0 : Int32) (h : Hp) : Option (Int32 × Hp) := some ((s1 ^^^ s0), h)
theorem r_289_138 {X : GX} {d : Nat} {r : Int32 × Hp} {c_289 : Int32 → Int32 → Hp → Option (Int32 × Hp)} {dg : Nat} (hd : 63 ≤ d) (hgd : dg < d) (hc_289 : ∀ {v1 : Int32} {v2 : Int32} {h : Hp} {r : Int32 × Hp}, c_289 v1 v2 h = some r → CI dg 289 [.ref 84, .int v1, .int v2] h (fun x g => x = r.1 ∧ g = r.2)) (hq : RtX X (some (.int r.1)) r.2) {h : Hp} {s1 : Int32} {s0 : Int32} (e : R_289_138 c_289 s1 s0 h = some r) : G X d 289 138 [none, none, none, none] [.int s0, .int s1] h := by
  unfold R_289_138 at e
  rw [← Option.some.inj e] at hq
  exact k_289_138 hq
noncomputable def R_289_131 (c_289 : Int32 → Int32 → Hp → Option (Int32 × Hp)) (s1 : Nat) (s2 : Int32) (s0 : Int32) (h : Hp) : Option (Int32 × Hp) := gd (sh s1 = (1, 9) ∧ s1 = 84) (bndI (S_286 s0 (h 84 36) h) (R_289_138 c_289 s2))
theorem r_289_131 {X : GX} {d : Nat} {r : Int32 × Hp} {c_289 : Int32 → Int32 → Hp → Option (Int32 × Hp)} {dg : Nat} (hd : 63 ≤ d) (hgd : dg < d) (hc_289 : ∀ {v1 : Int32} {v2 : Int32} {h : Hp} {r : Int32 × Hp}, c_289 v1 v2 h = some r → CI dg 289 [.ref 84, .int v1, .int v2] h (fun x g => x = r.1 ∧ g = r.2)) (hq : RtX X (some (.int r.1)) r.2) {h : Hp} {s1 : Nat} {s2 : Int32} {s0 : Int32} (e : R_289_131 c_289 s1 s2 s0 h = some r) : G X d 289 131 [some (.ref 84), none, none, none] [.int s0, .ref s1, .int s2] h := by
  unfold R_289_131 at e
  have g := gd_s e; clear e; obtain ⟨⟨o0, q0⟩, e⟩ := g
  subst q0
  obtain ⟨x, h2, e1, e2⟩ := bndI_s e
  refine k_289_131 o0 (by omega) (t_286 e1) ?_
  rintro _ _ ⟨rfl, rfl⟩
  exact r_289_138 hd hgd hc_289 hq e2
noncomputable def R_289_119 (c_289 : Int32 → Int32 → Hp → Option (Int32 × Hp)) (s0 : Int32) (h : Hp) : Option (Int32 × Hp) := bndI (S_182 (h 84 36) 0 h) (R_289_131 c_289 84 s0)
theorem r_289_119 {X : GX} {d : Nat} {r : Int32 × Hp} {c_289 : Int32 → Int32 → Hp → Option (Int32 × Hp)} {dg : Nat} (hd : 63 ≤ d) (hgd : dg < d) (hc_289 : ∀ {v1 : Int32} {v2 : Int32} {h : Hp} {r : Int32 × Hp}, c_289 v1 v2 h = some r → CI dg 289 [.ref 84, .int v1, .int v2] h (fun x g => x = r.1 ∧ g = r.2)) (hq : RtX X (some (.int r.1)) r.2) {h : Hp} {s0 : Int32} (e : R_289_119 c_289 s0 h = some r) : G X d 289 119 [some (.ref 84), none, none, none] [.int s0] h := by
  unfold R_289_119 at e
  obtain ⟨x, h2, e1, e2⟩ := bndI_s e
  refine k_289_119 (by omega) (t_182 e1) ?_
  rintro _ _ ⟨rfl, rfl⟩
  exact r_289_131 hd hgd hc_289 hq e2
noncomputable def R_289_113 (c_289 : Int32 → Int32 → Hp → Option (Int32 × Hp)) (v2 : Int32) (h : Hp) : Option (Int32 × Hp) := bndI (c_289 4 v2 h) (R_289_119 c_289)
theorem r_289_113 {X : GX} {d : Nat} {r : Int32 × Hp} {c_289 : Int32 → Int32 → Hp → Option (Int32 × Hp)} {dg : Nat} (hd : 63 ≤ d) (hgd : dg < d) (hc_289 : ∀ {v1 : Int32} {v2 : Int32} {h : Hp} {r : Int32 × Hp}, c_289 v1 v2 h = some r → CI dg 289 [.ref 84, .int v1, .int v2] h (fun x g => x = r.1 ∧ g = r.2)) (hq : RtX X (some (.int r.1)) r.2) {h : Hp} {v2 : Int32} (e : R_289_113 c_289 v2 h = some r) : G X d 289 113 [some (.ref 84), none, some (.int v2), none] [] h := by
  unfold R_289_113 at e
  obtain ⟨x, h2, e1, e2⟩ := bndI_s e
  refine k_289_113 hgd (hc_289 e1) ?_
  rintro _ _ ⟨rfl, rfl⟩
  exact r_289_119 hd hgd hc_289 hq e2
noncomputable def R_289_107 (c_289 : Int32 → Int32 → Hp → Option (Int32 × Hp)) (v2 : Int32) (h : Hp) : Option (Int32 × Hp) := bndV (S_287 61 h) (R_289_113 c_289 v2)
theorem r_289_107 {X : GX} {d : Nat} {r : Int32 × Hp} {c_289 : Int32 → Int32 → Hp → Option (Int32 × Hp)} {dg : Nat} (hd : 63 ≤ d) (hgd : dg < d) (hc_289 : ∀ {v1 : Int32} {v2 : Int32} {h : Hp} {r : Int32 × Hp}, c_289 v1 v2 h = some r → CI dg 289 [.ref 84, .int v1, .int v2] h (fun x g => x = r.1 ∧ g = r.2)) (hq : RtX X (some (.int r.1)) r.2) {h : Hp} {v2 : Int32} (e : R_289_107 c_289 v2 h = some r) : G X d 289 107 [some (.ref 84), none, some (.int v2), none] [] h := by
  unfold R_289_107 at e
  obtain ⟨x, h2, e1, e2⟩ := bndV_s e
  refine k_289_107 (by omega) (t_287 e1) ?_
  rintro _ rfl
  exact r_289_113 hd hgd hc_289 hq e2
noncomputable def R_289_149 (c_289 : Int32 → Int32 → Hp → Option (Int32 × Hp)) (s0 : Int32) (h : Hp) : Option (Int32 × Hp) := some (s0, h)
theorem r_289_149 {X : GX} {d : Nat} {r : Int32 × Hp} {c_289 : Int32 → Int32 → Hp → Option (Int32 × Hp)} {dg : Nat} (hd : 63 ≤ d) (hgd : dg < d) (hc_289 : ∀ {v1 : Int32} {v2 : Int32} {h : Hp} {r : Int32 × Hp}, c_289 v1 v2 h = some r → CI dg 289 [.ref 84, .int v1, .int v2] h (fun x g => x = r.1 ∧ g = r.2)) (hq : RtX X (some (.int r.1)) r.2) {h : Hp} {s0 : Int32} (e : R_289_149 c_289 s0 h = some r) : G X d 289 149 [none, none, none, none] [.int s0] h := by
  unfold R_289_149 at e
  rw [← Option.some.inj e] at hq
  exact k_289_149 hq
noncomputable def R_289_145 (c_289 : Int32 → Int32 → Hp → Option (Int32 × Hp)) (v2 : Int32) (s1 : Nat) (s0 : Int32) (h : Hp) : Option (Int32 × Hp) := gd (sh s1 = (1, 9) ∧ s1 = 84) (bndI (c_289 s0 v2 h) (R_289_149 c_289))
theorem r_289_145 {X : GX} {d : Nat} {r : Int32 × Hp} {c_289 : Int32 → Int32 → Hp → Option (Int32 × Hp)} {dg : Nat} (hd : 63 ≤ d) (hgd : dg < d) (hc_289 : ∀ {v1 : Int32} {v2 : Int32} {h : Hp} {r : Int32 × Hp}, c_289 v1 v2 h = some r → CI dg 289 [.ref 84, .int v1, .int v2] h (fun x g => x = r.1 ∧ g = r.2)) (hq : RtX X (some (.int r.1)) r.2) {h : Hp} {v2 : Int32} {s1 : Nat} {s0 : Int32} (e : R_289_145 c_289 v2 s1 s0 h = some r) : G X d 289 145 [none, none, some (.int v2), none] [.int s0, .ref s1] h := by
  unfold R_289_145 at e
  have g := gd_s e; clear e; obtain ⟨⟨o0, q0⟩, e⟩ := g
  subst q0
  obtain ⟨x, h2, e1, e2⟩ := bndI_s e
  refine k_289_145 o0 hgd (hc_289 e1) ?_
  rintro _ _ ⟨rfl, rfl⟩
  exact r_289_149 hd hgd hc_289 hq e2
noncomputable def R_289_140 (c_289 : Int32 → Int32 → Hp → Option (Int32 × Hp)) (v1 : Int32) (v2 : Int32) (h : Hp) : Option (Int32 × Hp) := bndI (S_192 v1 h) (R_289_145 c_289 v2 84)
theorem r_289_140 {X : GX} {d : Nat} {r : Int32 × Hp} {c_289 : Int32 → Int32 → Hp → Option (Int32 × Hp)} {dg : Nat} (hd : 63 ≤ d) (hgd : dg < d) (hc_289 : ∀ {v1 : Int32} {v2 : Int32} {h : Hp} {r : Int32 × Hp}, c_289 v1 v2 h = some r → CI dg 289 [.ref 84, .int v1, .int v2] h (fun x g => x = r.1 ∧ g = r.2)) (hq : RtX X (some (.int r.1)) r.2) {h : Hp} {v1 : Int32} {v2 : Int32} (e : R_289_140 c_289 v1 v2 h = some r) : G X d 289 140 [some (.ref 84), some (.int v1), some (.int v2), none] [] h := by
  unfold R_289_140 at e
  obtain ⟨x, h2, e1, e2⟩ := bndI_s e
  refine k_289_140 (by omega) (t_192 e1) ?_
  rintro _ _ ⟨rfl, rfl⟩
  exact r_289_145 hd hgd hc_289 hq e2
noncomputable def R_289_0 (c_289 : Int32 → Int32 → Hp → Option (Int32 × Hp)) (v1 : Int32) (v2 : Int32) (h : Hp) : Option (Int32 × Hp) := if v1 = 0 then R_289_36 c_289 v2 h else (if v1 = 4 then R_289_91 c_289 v2 h else (if v1 = 5 then R_289_107 c_289 v2 h else (R_289_140 c_289 v1 v2 h)))
theorem r_289_0 {X : GX} {d : Nat} {r : Int32 × Hp} {c_289 : Int32 → Int32 → Hp → Option (Int32 × Hp)} {dg : Nat} (hd : 63 ≤ d) (hgd : dg < d) (hc_289 : ∀ {v1 : Int32} {v2 : Int32} {h : Hp} {r : Int32 × Hp}, c_289 v1 v2 h = some r → CI dg 289 [.ref 84, .int v1, .int v2] h (fun x g => x = r.1 ∧ g = r.2)) (hq : RtX X (some (.int r.1)) r.2) {h : Hp} {v1 : Int32} {v2 : Int32} (e : R_289_0 c_289 v1 v2 h = some r) : G X d 289 0 [some (.ref 84), some (.int v1), some (.int v2), none] [] h := by
  unfold R_289_0 at e
  refine k_289_0 (fun c => ?_) (fun c => ?_) (fun c => ?_) (fun c0 c1 c2 => ?_)
  · rw [if_pos c] at e; exact r_289_36 hd hgd hc_289 hq e
  · rw [if_neg (show ¬ v1 = 0 by rw [c]; decide), if_pos c] at e; exact r_289_91 hd hgd hc_289 hq e
  · rw [if_neg (show ¬ v1 = 0 by rw [c]; decide), if_neg (show ¬ v1 = 4 by rw [c]; decide), if_pos c] at e; exact r_289_107 hd hgd hc_289 hq e
  · rw [if_neg c0, if_neg c1, if_neg c2] at e; exact r_289_140 hd hgd hc_289 hq e
noncomputable def SG_289 : Nat → (Int32 → Int32 → Hp → Option (Int32 × Hp))
  | 0 => (fun _ _ _ => none)
  | n + 1 => (fun v1 v2 h => R_289_0 (SG_289 n) v1 v2 h)
set_option maxRecDepth 100000 in
theorem tg_289 : ∀ n, (∀ {v1 : Int32} {v2 : Int32} {h : Hp} {r : Int32 × Hp}, (SG_289 n) v1 v2 h = some r → CI (63 + n) 289 [.ref 84, .int v1, .int v2] h (fun x g => x = r.1 ∧ g = r.2)) := by
  intro n
  induction n with
  | zero => exact fun e => by cases e
  | succ n ih =>
    have i289 := @ih
    intro v1 v2 h r e
    · refine C.of mo_289 (Nat.le_of_ble_eq_true rfl) (fun X hq => ?_)
      exact r_289_0 (by omega) (show 63 + n < 63 + (n + 1) by omega) (fun e => i289 e) (hq _ _ ⟨_, rfl, rfl, rfl⟩) e
noncomputable def S_289 (v1 : Int32) (v2 : Int32) (h : Hp) : Option (Int32 × Hp) := (SG_289 60) v1 v2 h
theorem t_289 {v1 : Int32} {v2 : Int32} {h : Hp} {r : Int32 × Hp} (e : S_289 v1 v2 h = some r) : CI 123 289 [.ref 84, .int v1, .int v2] h (fun x g => x = r.1 ∧ g = r.2) := (tg_289 60) e
/-! 290 PlayedTruthModel.exitsBy(II)I -/
noncomputable def R_290_64 (c_290 : Int32 → Int32 → Hp → Option (Int32 × Hp)) (s1 : Int32) (s0 : Int32) (h : Hp) : Option (Int32 × Hp) := some ((s1 + s0), h)
theorem r_290_64 {X : GX} {d : Nat} {r : Int32 × Hp} {c_290 : Int32 → Int32 → Hp → Option (Int32 × Hp)} {dg : Nat} (hd : 124 ≤ d) (hgd : dg < d) (hc_290 : ∀ {v1 : Int32} {v2 : Int32} {h : Hp} {r : Int32 × Hp}, c_290 v1 v2 h = some r → CI dg 290 [.ref 84, .int v1, .int v2] h (fun x g => x = r.1 ∧ g = r.2)) (hq : RtX X (some (.int r.1)) r.2) {h : Hp} {s1 : Int32} {s0 : Int32} (e : R_290_64 c_290 s1 s0 h = some r) : G X d 290 64 [none, none, none, none] [.int s0, .int s1] h := by
  unfold R_290_64 at e
  rw [← Option.some.inj e] at hq
  exact k_290_64 hq
noncomputable def R_290_60 (c_290 : Int32 → Int32 → Hp → Option (Int32 × Hp)) (v2 : Int32) (s1 : Nat) (s2 : Int32) (s0 : Int32) (h : Hp) : Option (Int32 × Hp) := gd (sh s1 = (1, 9) ∧ s1 = 84) (bndI (S_289 s0 v2 h) (R_290_64 c_290 s2))
theorem r_290_60 {X : GX} {d : Nat} {r : Int32 × Hp} {c_290 : Int32 → Int32 → Hp → Option (Int32 × Hp)} {dg : Nat} (hd : 124 ≤ d) (hgd : dg < d) (hc_290 : ∀ {v1 : Int32} {v2 : Int32} {h : Hp} {r : Int32 × Hp}, c_290 v1 v2 h = some r → CI dg 290 [.ref 84, .int v1, .int v2] h (fun x g => x = r.1 ∧ g = r.2)) (hq : RtX X (some (.int r.1)) r.2) {h : Hp} {v2 : Int32} {s1 : Nat} {s2 : Int32} {s0 : Int32} (e : R_290_60 c_290 v2 s1 s2 s0 h = some r) : G X d 290 60 [none, none, some (.int v2), none] [.int s0, .ref s1, .int s2] h := by
  unfold R_290_60 at e
  have g := gd_s e; clear e; obtain ⟨⟨o0, q0⟩, e⟩ := g
  subst q0
  obtain ⟨x, h2, e1, e2⟩ := bndI_s e
  refine k_290_60 o0 (by omega) (t_289 e1) ?_
  rintro _ _ ⟨rfl, rfl⟩
  exact r_290_64 hd hgd hc_290 hq e2
noncomputable def R_290_48 (c_290 : Int32 → Int32 → Hp → Option (Int32 × Hp)) (v2 : Int32) (s0 : Int32) (h : Hp) : Option (Int32 × Hp) := bndI (S_182 (h 84 36) 0 h) (R_290_60 c_290 v2 84 s0)
theorem r_290_48 {X : GX} {d : Nat} {r : Int32 × Hp} {c_290 : Int32 → Int32 → Hp → Option (Int32 × Hp)} {dg : Nat} (hd : 124 ≤ d) (hgd : dg < d) (hc_290 : ∀ {v1 : Int32} {v2 : Int32} {h : Hp} {r : Int32 × Hp}, c_290 v1 v2 h = some r → CI dg 290 [.ref 84, .int v1, .int v2] h (fun x g => x = r.1 ∧ g = r.2)) (hq : RtX X (some (.int r.1)) r.2) {h : Hp} {v2 : Int32} {s0 : Int32} (e : R_290_48 c_290 v2 s0 h = some r) : G X d 290 48 [some (.ref 84), none, some (.int v2), none] [.int s0] h := by
  unfold R_290_48 at e
  obtain ⟨x, h2, e1, e2⟩ := bndI_s e
  refine k_290_48 (by omega) (t_182 e1) ?_
  rintro _ _ ⟨rfl, rfl⟩
  exact r_290_60 hd hgd hc_290 hq e2
noncomputable def R_290_44 (c_290 : Int32 → Int32 → Hp → Option (Int32 × Hp)) (v2 : Int32) (s1 : Nat) (s0 : Int32) (h : Hp) : Option (Int32 × Hp) := gd (sh s1 = (1, 9) ∧ s1 = 84) (bndI (S_288 s0 v2 h) (R_290_48 c_290 v2))
theorem r_290_44 {X : GX} {d : Nat} {r : Int32 × Hp} {c_290 : Int32 → Int32 → Hp → Option (Int32 × Hp)} {dg : Nat} (hd : 124 ≤ d) (hgd : dg < d) (hc_290 : ∀ {v1 : Int32} {v2 : Int32} {h : Hp} {r : Int32 × Hp}, c_290 v1 v2 h = some r → CI dg 290 [.ref 84, .int v1, .int v2] h (fun x g => x = r.1 ∧ g = r.2)) (hq : RtX X (some (.int r.1)) r.2) {h : Hp} {v2 : Int32} {s1 : Nat} {s0 : Int32} (e : R_290_44 c_290 v2 s1 s0 h = some r) : G X d 290 44 [some (.ref 84), none, some (.int v2), none] [.int s0, .ref s1] h := by
  unfold R_290_44 at e
  have g := gd_s e; clear e; obtain ⟨⟨o0, q0⟩, e⟩ := g
  subst q0
  obtain ⟨x, h2, e1, e2⟩ := bndI_s e
  refine k_290_44 o0 (by omega) (t_288 e1) ?_
  rintro _ _ ⟨rfl, rfl⟩
  exact r_290_48 hd hgd hc_290 hq e2
noncomputable def R_290_34 (c_290 : Int32 → Int32 → Hp → Option (Int32 × Hp)) (v2 : Int32) (h : Hp) : Option (Int32 × Hp) := bndI (S_182 (h 84 36) 0 h) (R_290_44 c_290 v2 84)
theorem r_290_34 {X : GX} {d : Nat} {r : Int32 × Hp} {c_290 : Int32 → Int32 → Hp → Option (Int32 × Hp)} {dg : Nat} (hd : 124 ≤ d) (hgd : dg < d) (hc_290 : ∀ {v1 : Int32} {v2 : Int32} {h : Hp} {r : Int32 × Hp}, c_290 v1 v2 h = some r → CI dg 290 [.ref 84, .int v1, .int v2] h (fun x g => x = r.1 ∧ g = r.2)) (hq : RtX X (some (.int r.1)) r.2) {h : Hp} {v2 : Int32} (e : R_290_34 c_290 v2 h = some r) : G X d 290 34 [some (.ref 84), none, some (.int v2), none] [] h := by
  unfold R_290_34 at e
  obtain ⟨x, h2, e1, e2⟩ := bndI_s e
  refine k_290_34 (by omega) (t_182 e1) ?_
  rintro _ _ ⟨rfl, rfl⟩
  exact r_290_44 hd hgd hc_290 hq e2
noncomputable def R_290_28 (c_290 : Int32 → Int32 → Hp → Option (Int32 × Hp)) (v2 : Int32) (h : Hp) : Option (Int32 × Hp) := bndV (S_287 13 h) (R_290_34 c_290 v2)
theorem r_290_28 {X : GX} {d : Nat} {r : Int32 × Hp} {c_290 : Int32 → Int32 → Hp → Option (Int32 × Hp)} {dg : Nat} (hd : 124 ≤ d) (hgd : dg < d) (hc_290 : ∀ {v1 : Int32} {v2 : Int32} {h : Hp} {r : Int32 × Hp}, c_290 v1 v2 h = some r → CI dg 290 [.ref 84, .int v1, .int v2] h (fun x g => x = r.1 ∧ g = r.2)) (hq : RtX X (some (.int r.1)) r.2) {h : Hp} {v2 : Int32} (e : R_290_28 c_290 v2 h = some r) : G X d 290 28 [some (.ref 84), none, some (.int v2), none] [] h := by
  unfold R_290_28 at e
  obtain ⟨x, h2, e1, e2⟩ := bndV_s e
  refine k_290_28 (by omega) (t_287 e1) ?_
  rintro _ rfl
  exact r_290_34 hd hgd hc_290 hq e2
noncomputable def R_290_102 (c_290 : Int32 → Int32 → Hp → Option (Int32 × Hp)) (s1 : Int32) (s0 : Int32) (h : Hp) : Option (Int32 × Hp) := some ((s1 - s0), h)
theorem r_290_102 {X : GX} {d : Nat} {r : Int32 × Hp} {c_290 : Int32 → Int32 → Hp → Option (Int32 × Hp)} {dg : Nat} (hd : 124 ≤ d) (hgd : dg < d) (hc_290 : ∀ {v1 : Int32} {v2 : Int32} {h : Hp} {r : Int32 × Hp}, c_290 v1 v2 h = some r → CI dg 290 [.ref 84, .int v1, .int v2] h (fun x g => x = r.1 ∧ g = r.2)) (hq : RtX X (some (.int r.1)) r.2) {h : Hp} {s1 : Int32} {s0 : Int32} (e : R_290_102 c_290 s1 s0 h = some r) : G X d 290 102 [none, none, none, none] [.int s0, .int s1] h := by
  unfold R_290_102 at e
  rw [← Option.some.inj e] at hq
  exact k_290_102 hq
noncomputable def R_290_99 (c_290 : Int32 → Int32 → Hp → Option (Int32 × Hp)) (s1 : Int32) (s2 : Nat) (s3 : Int32) (s0 : Int32) (h : Hp) : Option (Int32 × Hp) := gd (sh s2 = (1, 9) ∧ s2 = 84) (bndI (S_288 s1 s0 h) (R_290_102 c_290 s3))
theorem r_290_99 {X : GX} {d : Nat} {r : Int32 × Hp} {c_290 : Int32 → Int32 → Hp → Option (Int32 × Hp)} {dg : Nat} (hd : 124 ≤ d) (hgd : dg < d) (hc_290 : ∀ {v1 : Int32} {v2 : Int32} {h : Hp} {r : Int32 × Hp}, c_290 v1 v2 h = some r → CI dg 290 [.ref 84, .int v1, .int v2] h (fun x g => x = r.1 ∧ g = r.2)) (hq : RtX X (some (.int r.1)) r.2) {h : Hp} {s1 : Int32} {s2 : Nat} {s3 : Int32} {s0 : Int32} (e : R_290_99 c_290 s1 s2 s3 s0 h = some r) : G X d 290 99 [none, none, none, none] [.int s0, .int s1, .ref s2, .int s3] h := by
  unfold R_290_99 at e
  have g := gd_s e; clear e; obtain ⟨⟨o0, q0⟩, e⟩ := g
  subst q0
  obtain ⟨x, h2, e1, e2⟩ := bndI_s e
  refine k_290_99 o0 (by omega) (t_288 e1) ?_
  rintro _ _ ⟨rfl, rfl⟩
  exact r_290_102 hd hgd hc_290 hq e2
noncomputable def R_290_90 (c_290 : Int32 → Int32 → Hp → Option (Int32 × Hp)) (s1 : Nat) (s2 : Int32) (s0 : Int32) (h : Hp) : Option (Int32 × Hp) := bndI (S_182 (h 84 36) 3 h) (R_290_99 c_290 s0 s1 s2)
theorem r_290_90 {X : GX} {d : Nat} {r : Int32 × Hp} {c_290 : Int32 → Int32 → Hp → Option (Int32 × Hp)} {dg : Nat} (hd : 124 ≤ d) (hgd : dg < d) (hc_290 : ∀ {v1 : Int32} {v2 : Int32} {h : Hp} {r : Int32 × Hp}, c_290 v1 v2 h = some r → CI dg 290 [.ref 84, .int v1, .int v2] h (fun x g => x = r.1 ∧ g = r.2)) (hq : RtX X (some (.int r.1)) r.2) {h : Hp} {s1 : Nat} {s2 : Int32} {s0 : Int32} (e : R_290_90 c_290 s1 s2 s0 h = some r) : G X d 290 90 [some (.ref 84), none, none, none] [.int s0, .ref s1, .int s2] h := by
  unfold R_290_90 at e
  obtain ⟨x, h2, e1, e2⟩ := bndI_s e
  refine k_290_90 (by omega) (t_182 e1) ?_
  rintro _ _ ⟨rfl, rfl⟩
  exact r_290_99 hd hgd hc_290 hq e2
noncomputable def R_290_78 (c_290 : Int32 → Int32 → Hp → Option (Int32 × Hp)) (s0 : Int32) (h : Hp) : Option (Int32 × Hp) := bndI (S_182 (h 84 36) 0 h) (R_290_90 c_290 84 s0)
theorem r_290_78 {X : GX} {d : Nat} {r : Int32 × Hp} {c_290 : Int32 → Int32 → Hp → Option (Int32 × Hp)} {dg : Nat} (hd : 124 ≤ d) (hgd : dg < d) (hc_290 : ∀ {v1 : Int32} {v2 : Int32} {h : Hp} {r : Int32 × Hp}, c_290 v1 v2 h = some r → CI dg 290 [.ref 84, .int v1, .int v2] h (fun x g => x = r.1 ∧ g = r.2)) (hq : RtX X (some (.int r.1)) r.2) {h : Hp} {s0 : Int32} (e : R_290_78 c_290 s0 h = some r) : G X d 290 78 [some (.ref 84), none, none, none] [.int s0] h := by
  unfold R_290_78 at e
  obtain ⟨x, h2, e1, e2⟩ := bndI_s e
  refine k_290_78 (by omega) (t_182 e1) ?_
  rintro _ _ ⟨rfl, rfl⟩
  exact r_290_90 hd hgd hc_290 hq e2
noncomputable def R_290_72 (c_290 : Int32 → Int32 → Hp → Option (Int32 × Hp)) (v2 : Int32) (h : Hp) : Option (Int32 × Hp) := bndI (c_290 2 v2 h) (R_290_78 c_290)
theorem r_290_72 {X : GX} {d : Nat} {r : Int32 × Hp} {c_290 : Int32 → Int32 → Hp → Option (Int32 × Hp)} {dg : Nat} (hd : 124 ≤ d) (hgd : dg < d) (hc_290 : ∀ {v1 : Int32} {v2 : Int32} {h : Hp} {r : Int32 × Hp}, c_290 v1 v2 h = some r → CI dg 290 [.ref 84, .int v1, .int v2] h (fun x g => x = r.1 ∧ g = r.2)) (hq : RtX X (some (.int r.1)) r.2) {h : Hp} {v2 : Int32} (e : R_290_72 c_290 v2 h = some r) : G X d 290 72 [some (.ref 84), none, some (.int v2), none] [] h := by
  unfold R_290_72 at e
  obtain ⟨x, h2, e1, e2⟩ := bndI_s e
  refine k_290_72 hgd (hc_290 e1) ?_
  rintro _ _ ⟨rfl, rfl⟩
  exact r_290_78 hd hgd hc_290 hq e2
noncomputable def R_290_66 (c_290 : Int32 → Int32 → Hp → Option (Int32 × Hp)) (v2 : Int32) (h : Hp) : Option (Int32 × Hp) := bndV (S_287 51 h) (R_290_72 c_290 v2)
theorem r_290_66 {X : GX} {d : Nat} {r : Int32 × Hp} {c_290 : Int32 → Int32 → Hp → Option (Int32 × Hp)} {dg : Nat} (hd : 124 ≤ d) (hgd : dg < d) (hc_290 : ∀ {v1 : Int32} {v2 : Int32} {h : Hp} {r : Int32 × Hp}, c_290 v1 v2 h = some r → CI dg 290 [.ref 84, .int v1, .int v2] h (fun x g => x = r.1 ∧ g = r.2)) (hq : RtX X (some (.int r.1)) r.2) {h : Hp} {v2 : Int32} (e : R_290_66 c_290 v2 h = some r) : G X d 290 66 [some (.ref 84), none, some (.int v2), none] [] h := by
  unfold R_290_66 at e
  obtain ⟨x, h2, e1, e2⟩ := bndV_s e
  refine k_290_66 (by omega) (t_287 e1) ?_
  rintro _ rfl
  exact r_290_72 hd hgd hc_290 hq e2
noncomputable def R_290_113 (c_290 : Int32 → Int32 → Hp → Option (Int32 × Hp)) (s0 : Int32) (h : Hp) : Option (Int32 × Hp) := some (s0, h)
theorem r_290_113 {X : GX} {d : Nat} {r : Int32 × Hp} {c_290 : Int32 → Int32 → Hp → Option (Int32 × Hp)} {dg : Nat} (hd : 124 ≤ d) (hgd : dg < d) (hc_290 : ∀ {v1 : Int32} {v2 : Int32} {h : Hp} {r : Int32 × Hp}, c_290 v1 v2 h = some r → CI dg 290 [.ref 84, .int v1, .int v2] h (fun x g => x = r.1 ∧ g = r.2)) (hq : RtX X (some (.int r.1)) r.2) {h : Hp} {s0 : Int32} (e : R_290_113 c_290 s0 h = some r) : G X d 290 113 [none, none, none, none] [.int s0] h := by
  unfold R_290_113 at e
  rw [← Option.some.inj e] at hq
  exact k_290_113 hq
noncomputable def R_290_109 (c_290 : Int32 → Int32 → Hp → Option (Int32 × Hp)) (v2 : Int32) (s1 : Nat) (s0 : Int32) (h : Hp) : Option (Int32 × Hp) := gd (sh s1 = (1, 9) ∧ s1 = 84) (bndI (c_290 s0 v2 h) (R_290_113 c_290))
theorem r_290_109 {X : GX} {d : Nat} {r : Int32 × Hp} {c_290 : Int32 → Int32 → Hp → Option (Int32 × Hp)} {dg : Nat} (hd : 124 ≤ d) (hgd : dg < d) (hc_290 : ∀ {v1 : Int32} {v2 : Int32} {h : Hp} {r : Int32 × Hp}, c_290 v1 v2 h = some r → CI dg 290 [.ref 84, .int v1, .int v2] h (fun x g => x = r.1 ∧ g = r.2)) (hq : RtX X (some (.int r.1)) r.2) {h : Hp} {v2 : Int32} {s1 : Nat} {s0 : Int32} (e : R_290_109 c_290 v2 s1 s0 h = some r) : G X d 290 109 [none, none, some (.int v2), none] [.int s0, .ref s1] h := by
  unfold R_290_109 at e
  have g := gd_s e; clear e; obtain ⟨⟨o0, q0⟩, e⟩ := g
  subst q0
  obtain ⟨x, h2, e1, e2⟩ := bndI_s e
  refine k_290_109 o0 hgd (hc_290 e1) ?_
  rintro _ _ ⟨rfl, rfl⟩
  exact r_290_113 hd hgd hc_290 hq e2
noncomputable def R_290_104 (c_290 : Int32 → Int32 → Hp → Option (Int32 × Hp)) (v1 : Int32) (v2 : Int32) (h : Hp) : Option (Int32 × Hp) := bndI (S_192 v1 h) (R_290_109 c_290 v2 84)
theorem r_290_104 {X : GX} {d : Nat} {r : Int32 × Hp} {c_290 : Int32 → Int32 → Hp → Option (Int32 × Hp)} {dg : Nat} (hd : 124 ≤ d) (hgd : dg < d) (hc_290 : ∀ {v1 : Int32} {v2 : Int32} {h : Hp} {r : Int32 × Hp}, c_290 v1 v2 h = some r → CI dg 290 [.ref 84, .int v1, .int v2] h (fun x g => x = r.1 ∧ g = r.2)) (hq : RtX X (some (.int r.1)) r.2) {h : Hp} {v1 : Int32} {v2 : Int32} (e : R_290_104 c_290 v1 v2 h = some r) : G X d 290 104 [some (.ref 84), some (.int v1), some (.int v2), none] [] h := by
  unfold R_290_104 at e
  obtain ⟨x, h2, e1, e2⟩ := bndI_s e
  refine k_290_104 (by omega) (t_192 e1) ?_
  rintro _ _ ⟨rfl, rfl⟩
  exact r_290_109 hd hgd hc_290 hq e2
noncomputable def R_290_0 (c_290 : Int32 → Int32 → Hp → Option (Int32 × Hp)) (v1 : Int32) (v2 : Int32) (h : Hp) : Option (Int32 × Hp) := if v1 = 0 then R_290_28 c_290 v2 h else (if v1 = 3 then R_290_66 c_290 v2 h else (R_290_104 c_290 v1 v2 h))
theorem r_290_0 {X : GX} {d : Nat} {r : Int32 × Hp} {c_290 : Int32 → Int32 → Hp → Option (Int32 × Hp)} {dg : Nat} (hd : 124 ≤ d) (hgd : dg < d) (hc_290 : ∀ {v1 : Int32} {v2 : Int32} {h : Hp} {r : Int32 × Hp}, c_290 v1 v2 h = some r → CI dg 290 [.ref 84, .int v1, .int v2] h (fun x g => x = r.1 ∧ g = r.2)) (hq : RtX X (some (.int r.1)) r.2) {h : Hp} {v1 : Int32} {v2 : Int32} (e : R_290_0 c_290 v1 v2 h = some r) : G X d 290 0 [some (.ref 84), some (.int v1), some (.int v2), none] [] h := by
  unfold R_290_0 at e
  refine k_290_0 (fun c => ?_) (fun c => ?_) (fun c0 c1 => ?_)
  · rw [if_pos c] at e; exact r_290_28 hd hgd hc_290 hq e
  · rw [if_neg (show ¬ v1 = 0 by rw [c]; decide), if_pos c] at e; exact r_290_66 hd hgd hc_290 hq e
  · rw [if_neg c0, if_neg c1] at e; exact r_290_104 hd hgd hc_290 hq e
noncomputable def SG_290 : Nat → (Int32 → Int32 → Hp → Option (Int32 × Hp))
  | 0 => (fun _ _ _ => none)
  | n + 1 => (fun v1 v2 h => R_290_0 (SG_290 n) v1 v2 h)
set_option maxRecDepth 100000 in
theorem tg_290 : ∀ n, (∀ {v1 : Int32} {v2 : Int32} {h : Hp} {r : Int32 × Hp}, (SG_290 n) v1 v2 h = some r → CI (124 + n) 290 [.ref 84, .int v1, .int v2] h (fun x g => x = r.1 ∧ g = r.2)) := by
  intro n
  induction n with
  | zero => exact fun e => by cases e
  | succ n ih =>
    have i290 := @ih
    intro v1 v2 h r e
    · refine C.of mo_290 (Nat.le_of_ble_eq_true rfl) (fun X hq => ?_)
      exact r_290_0 (by omega) (show 124 + n < 124 + (n + 1) by omega) (fun e => i290 e) (hq _ _ ⟨_, rfl, rfl, rfl⟩) e
noncomputable def S_290 (v1 : Int32) (v2 : Int32) (h : Hp) : Option (Int32 × Hp) := (SG_290 60) v1 v2 h
theorem t_290 {v1 : Int32} {v2 : Int32} {h : Hp} {r : Int32 × Hp} (e : S_290 v1 v2 h = some r) : CI 184 290 [.ref 84, .int v1, .int v2] h (fun x g => x = r.1 ∧ g = r.2) := (tg_290 60) e
/-! 285 PlayedTruthModel.act(III)I -/
noncomputable def R_285_52 (h : Hp) : Option (Int32 × Hp) := some (0, h)
theorem r_285_52 {X : GX} {d : Nat} {r : Int32 × Hp} (hd : 185 ≤ d) (hq : RtX X (some (.int r.1)) r.2) {h : Hp} (e : R_285_52 h = some r) : G X d 285 52 [none, none, none, none, none, none] [] h := by
  unfold R_285_52 at e
  rw [← Option.some.inj e] at hq
  exact k_285_52 hq
noncomputable def R_285_140 (v5 : Int32) (h : Hp) : Option (Int32 × Hp) := some (v5, h)
theorem r_285_140 {X : GX} {d : Nat} {r : Int32 × Hp} (hd : 185 ≤ d) (hq : RtX X (some (.int r.1)) r.2) {h : Hp} {v5 : Int32} (e : R_285_140 v5 h = some r) : G X d 285 140 [none, none, none, none, none, some (.int v5)] [] h := by
  unfold R_285_140 at e
  rw [← Option.some.inj e] at hq
  exact k_285_140 hq
noncomputable def R_285_135 (h : Hp) : Option (Int32 × Hp) := some (((-15)), h)
theorem r_285_135 {X : GX} {d : Nat} {r : Int32 × Hp} (hd : 185 ≤ d) (hq : RtX X (some (.int r.1)) r.2) {h : Hp} (e : R_285_135 h = some r) : G X d 285 135 [none, none, none, none, none, none] [] h := by
  unfold R_285_135 at e
  rw [← Option.some.inj e] at hq
  exact k_285_135 hq
noncomputable def R_285_126 (s0 : Int32) (h : Hp) : Option (Int32 × Hp) := if (h 84 37) = 0 then R_285_140 s0 h else R_285_135 h
theorem r_285_126 {X : GX} {d : Nat} {r : Int32 × Hp} (hd : 185 ≤ d) (hq : RtX X (some (.int r.1)) r.2) {h : Hp} {s0 : Int32} (e : R_285_126 s0 h = some r) : G X d 285 126 [some (.ref 84), none, none, none, none, none] [.int s0] h := by
  unfold R_285_126 at e
  refine k_285_126 (fun c => ?_) (fun c => ?_)
  · rw [if_pos c] at e; exact r_285_140 hd hq e
  · rw [if_neg c] at e; exact r_285_135 hd hq e
noncomputable def R_285_119 (v3 : Int32) (v4 : Int32) (h : Hp) : Option (Int32 × Hp) := bndI (S_290 v4 v3 h) (R_285_126)
theorem r_285_119 {X : GX} {d : Nat} {r : Int32 × Hp} (hd : 185 ≤ d) (hq : RtX X (some (.int r.1)) r.2) {h : Hp} {v3 : Int32} {v4 : Int32} (e : R_285_119 v3 v4 h = some r) : G X d 285 119 [some (.ref 84), none, none, some (.int v3), some (.int v4), none] [] h := by
  unfold R_285_119 at e
  obtain ⟨x, h2, e1, e2⟩ := bndI_s e
  refine k_285_119 (by omega) (t_290 e1) ?_
  rintro _ _ ⟨rfl, rfl⟩
  exact r_285_126 hd hq e2
noncomputable def R_285_116 (s0 : Int32) (h : Hp) : Option (Int32 × Hp) := if (h 84 37) = 0 then R_285_140 s0 h else R_285_135 h
theorem r_285_116 {X : GX} {d : Nat} {r : Int32 × Hp} (hd : 185 ≤ d) (hq : RtX X (some (.int r.1)) r.2) {h : Hp} {s0 : Int32} (e : R_285_116 s0 h = some r) : G X d 285 116 [some (.ref 84), none, none, none, none, none] [.int s0] h := by
  unfold R_285_116 at e
  refine k_285_116 (fun c => ?_) (fun c => ?_)
  · rw [if_pos c] at e; exact r_285_140 hd hq e
  · rw [if_neg c] at e; exact r_285_135 hd hq e
noncomputable def R_285_109 (v3 : Int32) (v4 : Int32) (h : Hp) : Option (Int32 × Hp) := bndI (S_289 v4 v3 h) (R_285_116)
theorem r_285_109 {X : GX} {d : Nat} {r : Int32 × Hp} (hd : 185 ≤ d) (hq : RtX X (some (.int r.1)) r.2) {h : Hp} {v3 : Int32} {v4 : Int32} (e : R_285_109 v3 v4 h = some r) : G X d 285 109 [some (.ref 84), none, none, some (.int v3), some (.int v4), none] [] h := by
  unfold R_285_109 at e
  obtain ⟨x, h2, e1, e2⟩ := bndI_s e
  refine k_285_109 (by omega) (t_289 e1) ?_
  rintro _ _ ⟨rfl, rfl⟩
  exact r_285_116 hd hq e2
noncomputable def R_285_104 (v2 : Int32) (v3 : Int32) (v4 : Int32) (h : Hp) : Option (Int32 × Hp) := if v2 = 2 then R_285_109 v3 v4 h else R_285_119 v3 v4 h
theorem r_285_104 {X : GX} {d : Nat} {r : Int32 × Hp} (hd : 185 ≤ d) (hq : RtX X (some (.int r.1)) r.2) {h : Hp} {v2 : Int32} {v3 : Int32} {v4 : Int32} (e : R_285_104 v2 v3 v4 h = some r) : G X d 285 104 [some (.ref 84), none, some (.int v2), some (.int v3), some (.int v4), none] [] h := by
  unfold R_285_104 at e
  refine k_285_104 (fun c => ?_) (fun c => ?_)
  · rw [if_neg c] at e; exact r_285_119 hd hq e
  · rw [if_pos c] at e; exact r_285_109 hd hq e
noncomputable def R_285_101 (s0 : Int32) (h : Hp) : Option (Int32 × Hp) := if (h 84 37) = 0 then R_285_140 s0 h else R_285_135 h
theorem r_285_101 {X : GX} {d : Nat} {r : Int32 × Hp} (hd : 185 ≤ d) (hq : RtX X (some (.int r.1)) r.2) {h : Hp} {s0 : Int32} (e : R_285_101 s0 h = some r) : G X d 285 101 [some (.ref 84), none, none, none, none, none] [.int s0] h := by
  unfold R_285_101 at e
  refine k_285_101 (fun c => ?_) (fun c => ?_)
  · rw [if_pos c] at e; exact r_285_140 hd hq e
  · rw [if_neg c] at e; exact r_285_135 hd hq e
noncomputable def R_285_94 (v3 : Int32) (v4 : Int32) (h : Hp) : Option (Int32 × Hp) := bndI (S_288 v4 v3 h) (R_285_101)
theorem r_285_94 {X : GX} {d : Nat} {r : Int32 × Hp} (hd : 185 ≤ d) (hq : RtX X (some (.int r.1)) r.2) {h : Hp} {v3 : Int32} {v4 : Int32} (e : R_285_94 v3 v4 h = some r) : G X d 285 94 [some (.ref 84), none, none, some (.int v3), some (.int v4), none] [] h := by
  unfold R_285_94 at e
  obtain ⟨x, h2, e1, e2⟩ := bndI_s e
  refine k_285_94 (by omega) (t_288 e1) ?_
  rintro _ _ ⟨rfl, rfl⟩
  exact r_285_101 hd hq e2
noncomputable def R_285_89 (v2 : Int32) (v3 : Int32) (v4 : Int32) (h : Hp) : Option (Int32 × Hp) := if v2 = 1 then R_285_94 v3 v4 h else R_285_104 v2 v3 v4 h
theorem r_285_89 {X : GX} {d : Nat} {r : Int32 × Hp} (hd : 185 ≤ d) (hq : RtX X (some (.int r.1)) r.2) {h : Hp} {v2 : Int32} {v3 : Int32} {v4 : Int32} (e : R_285_89 v2 v3 v4 h = some r) : G X d 285 89 [some (.ref 84), none, some (.int v2), some (.int v3), some (.int v4), none] [] h := by
  unfold R_285_89 at e
  refine k_285_89 (fun c => ?_) (fun c => ?_)
  · rw [if_neg c] at e; exact r_285_104 hd hq e
  · rw [if_pos c] at e; exact r_285_94 hd hq e
noncomputable def R_285_86 (s0 : Int32) (h : Hp) : Option (Int32 × Hp) := if (h 84 37) = 0 then R_285_140 s0 h else R_285_135 h
theorem r_285_86 {X : GX} {d : Nat} {r : Int32 × Hp} (hd : 185 ≤ d) (hq : RtX X (some (.int r.1)) r.2) {h : Hp} {s0 : Int32} (e : R_285_86 s0 h = some r) : G X d 285 86 [some (.ref 84), none, none, none, none, none] [.int s0] h := by
  unfold R_285_86 at e
  refine k_285_86 (fun c => ?_) (fun c => ?_)
  · rw [if_pos c] at e; exact r_285_140 hd hq e
  · rw [if_neg c] at e; exact r_285_135 hd hq e
noncomputable def R_285_79 (v3 : Int32) (v4 : Int32) (h : Hp) : Option (Int32 × Hp) := bndI (S_286 v4 v3 h) (R_285_86)
theorem r_285_79 {X : GX} {d : Nat} {r : Int32 × Hp} (hd : 185 ≤ d) (hq : RtX X (some (.int r.1)) r.2) {h : Hp} {v3 : Int32} {v4 : Int32} (e : R_285_79 v3 v4 h = some r) : G X d 285 79 [some (.ref 84), none, none, some (.int v3), some (.int v4), none] [] h := by
  unfold R_285_79 at e
  obtain ⟨x, h2, e1, e2⟩ := bndI_s e
  refine k_285_79 (by omega) (t_286 e1) ?_
  rintro _ _ ⟨rfl, rfl⟩
  exact r_285_86 hd hq e2
noncomputable def R_285_73 (v2 : Int32) (v3 : Int32) (s0 : Int32) (h : Hp) : Option (Int32 × Hp) := if v2 = 0 then R_285_79 v3 s0 h else R_285_89 v2 v3 s0 h
theorem r_285_73 {X : GX} {d : Nat} {r : Int32 × Hp} (hd : 185 ≤ d) (hq : RtX X (some (.int r.1)) r.2) {h : Hp} {v2 : Int32} {v3 : Int32} {s0 : Int32} (e : R_285_73 v2 v3 s0 h = some r) : G X d 285 73 [some (.ref 84), none, some (.int v2), some (.int v3), none, none] [.int s0] h := by
  unfold R_285_73 at e
  refine k_285_73 (fun c => ?_) (fun c => ?_)
  · rw [if_neg c] at e; exact r_285_89 hd hq e
  · rw [if_pos c] at e; exact r_285_79 hd hq e
noncomputable def R_285_54 (v1 : Int32) (v2 : Int32) (v3 : Int32) (h : Hp) : Option (Int32 × Hp) := gd (IA 98 v1) (bndI (S_182 ((wr h 84 36 (h 98 (Int32.toNatClampNeg v1))) 84 36) 0 ((wr h 84 36 (h 98 (Int32.toNatClampNeg v1))))) (R_285_73 v2 v3))
theorem r_285_54 {X : GX} {d : Nat} {r : Int32 × Hp} (hd : 185 ≤ d) (hq : RtX X (some (.int r.1)) r.2) {h : Hp} {v1 : Int32} {v2 : Int32} {v3 : Int32} (e : R_285_54 v1 v2 v3 h = some r) : G X d 285 54 [some (.ref 84), some (.int v1), some (.int v2), some (.int v3), none, none] [] h := by
  unfold R_285_54 at e
  have g := gd_s e; clear e; obtain ⟨b0, e⟩ := g
  obtain ⟨x, h2, e1, e2⟩ := bndI_s e
  refine k_285_54 b0 (by omega) (t_182 e1) ?_
  rintro _ _ ⟨rfl, rfl⟩
  exact r_285_73 hd hq e2
noncomputable def R_285_42 (v1 : Int32) (v2 : Int32) (v3 : Int32) (h : Hp) : Option (Int32 × Hp) := gd (IA 97 v1) (if (h 97 (Int32.toNatClampNeg v1)) = 2 then R_285_52 h else R_285_54 v1 v2 v3 h)
theorem r_285_42 {X : GX} {d : Nat} {r : Int32 × Hp} (hd : 185 ≤ d) (hq : RtX X (some (.int r.1)) r.2) {h : Hp} {v1 : Int32} {v2 : Int32} {v3 : Int32} (e : R_285_42 v1 v2 v3 h = some r) : G X d 285 42 [some (.ref 84), some (.int v1), some (.int v2), some (.int v3), none, none] [] h := by
  unfold R_285_42 at e
  have g := gd_s e; clear e; obtain ⟨b0, e⟩ := g
  refine k_285_42 b0 (fun c => ?_) (fun c => ?_)
  · rw [if_neg c] at e; exact r_285_54 hd hq e
  · rw [if_pos c] at e; exact r_285_52 hd hq e
noncomputable def R_285_39 (v1 : Int32) (v2 : Int32) (v3 : Int32) (s0 : Int32) (h : Hp) : Option (Int32 × Hp) := if s0 = 0 then R_285_42 v1 v2 v3 h else R_285_52 h
theorem r_285_39 {X : GX} {d : Nat} {r : Int32 × Hp} (hd : 185 ≤ d) (hq : RtX X (some (.int r.1)) r.2) {h : Hp} {v1 : Int32} {v2 : Int32} {v3 : Int32} {s0 : Int32} (e : R_285_39 v1 v2 v3 s0 h = some r) : G X d 285 39 [some (.ref 84), some (.int v1), some (.int v2), some (.int v3), none, none] [.int s0] h := by
  unfold R_285_39 at e
  refine k_285_39 (fun c => ?_) (fun c => ?_)
  · rw [if_neg c] at e; exact r_285_52 hd hq e
  · rw [if_pos c] at e; exact r_285_42 hd hq e
noncomputable def R_285_34 (v1 : Int32) (v2 : Int32) (v3 : Int32) (h : Hp) : Option (Int32 × Hp) := bndI (S_284 v1 h) (R_285_39 v1 v2 v3)
theorem r_285_34 {X : GX} {d : Nat} {r : Int32 × Hp} (hd : 185 ≤ d) (hq : RtX X (some (.int r.1)) r.2) {h : Hp} {v1 : Int32} {v2 : Int32} {v3 : Int32} (e : R_285_34 v1 v2 v3 h = some r) : G X d 285 34 [some (.ref 84), some (.int v1), some (.int v2), some (.int v3), none, none] [] h := by
  unfold R_285_34 at e
  obtain ⟨x, h2, e1, e2⟩ := bndI_s e
  refine k_285_34 (by omega) (t_284 e1) ?_
  rintro _ _ ⟨rfl, rfl⟩
  exact r_285_39 hd hq e2
noncomputable def R_285_31 (v1 : Int32) (v2 : Int32) (v3 : Int32) (s0 : Int32) (h : Hp) : Option (Int32 × Hp) := if s0 = 0 then R_285_52 h else R_285_34 v1 v2 v3 h
theorem r_285_31 {X : GX} {d : Nat} {r : Int32 × Hp} (hd : 185 ≤ d) (hq : RtX X (some (.int r.1)) r.2) {h : Hp} {v1 : Int32} {v2 : Int32} {v3 : Int32} {s0 : Int32} (e : R_285_31 v1 v2 v3 s0 h = some r) : G X d 285 31 [some (.ref 84), some (.int v1), some (.int v2), some (.int v3), none, none] [.int s0] h := by
  unfold R_285_31 at e
  refine k_285_31 (fun c => ?_) (fun c => ?_)
  · rw [if_pos c] at e; exact r_285_52 hd hq e
  · rw [if_neg c] at e; exact r_285_34 hd hq e
noncomputable def R_285_22 (v1 : Int32) (v2 : Int32) (v3 : Int32) (h : Hp) : Option (Int32 × Hp) := bndI (S_177 (Int32.toInt64 v2) 0 3 h) (R_285_31 v1 v2 v3)
theorem r_285_22 {X : GX} {d : Nat} {r : Int32 × Hp} (hd : 185 ≤ d) (hq : RtX X (some (.int r.1)) r.2) {h : Hp} {v1 : Int32} {v2 : Int32} {v3 : Int32} (e : R_285_22 v1 v2 v3 h = some r) : G X d 285 22 [some (.ref 84), some (.int v1), some (.int v2), some (.int v3), none, none] [] h := by
  unfold R_285_22 at e
  obtain ⟨x, h2, e1, e2⟩ := bndI_s e
  refine k_285_22 (by omega) (t_177 e1) ?_
  rintro _ _ ⟨rfl, rfl⟩
  exact r_285_31 hd hq e2
noncomputable def R_285_19 (v1 : Int32) (v2 : Int32) (v3 : Int32) (s0 : Int32) (h : Hp) : Option (Int32 × Hp) := if s0 = 0 then R_285_52 h else R_285_22 v1 v2 v3 h
theorem r_285_19 {X : GX} {d : Nat} {r : Int32 × Hp} (hd : 185 ≤ d) (hq : RtX X (some (.int r.1)) r.2) {h : Hp} {v1 : Int32} {v2 : Int32} {v3 : Int32} {s0 : Int32} (e : R_285_19 v1 v2 v3 s0 h = some r) : G X d 285 19 [some (.ref 84), some (.int v1), some (.int v2), some (.int v3), none, none] [.int s0] h := by
  unfold R_285_19 at e
  refine k_285_19 (fun c => ?_) (fun c => ?_)
  · rw [if_pos c] at e; exact r_285_52 hd hq e
  · rw [if_neg c] at e; exact r_285_22 hd hq e
noncomputable def R_285_0 (v1 : Int32) (v2 : Int32) (v3 : Int32) (h : Hp) : Option (Int32 × Hp) := bndI (S_177 (Int32.toInt64 v1) 0 3 ((wr (wr h 84 35 0) 84 37 0))) (R_285_19 v1 v2 v3)
theorem r_285_0 {X : GX} {d : Nat} {r : Int32 × Hp} (hd : 185 ≤ d) (hq : RtX X (some (.int r.1)) r.2) {h : Hp} {v1 : Int32} {v2 : Int32} {v3 : Int32} (e : R_285_0 v1 v2 v3 h = some r) : G X d 285 0 [some (.ref 84), some (.int v1), some (.int v2), some (.int v3), none, none] [] h := by
  unfold R_285_0 at e
  obtain ⟨x, h2, e1, e2⟩ := bndI_s e
  refine k_285_0 (by omega) (t_177 e1) ?_
  rintro _ _ ⟨rfl, rfl⟩
  exact r_285_19 hd hq e2
noncomputable def S_285 (v1 : Int32) (v2 : Int32) (v3 : Int32) (h : Hp) : Option (Int32 × Hp) := R_285_0 v1 v2 v3 h
set_option maxRecDepth 100000 in
theorem t_285 {v1 : Int32} {v2 : Int32} {v3 : Int32} {h : Hp} {r : Int32 × Hp} (e : S_285 v1 v2 v3 h = some r) : CI 185 285 [.ref 84, .int v1, .int v2, .int v3] h (fun x g => x = r.1 ∧ g = r.2) := by
  refine C.of mo_285 (Nat.le_of_ble_eq_true rfl) (fun X hq => ?_)
  exact r_285_0 (Nat.le_refl _) (hq _ _ ⟨_, rfl, rfl, rfl⟩) e
/-! 291 PlayedTruthModel.trace(I)I -/
noncomputable def R_291_25 (h : Hp) : Option (Int32 × Hp) := some (((-3)), h)
theorem r_291_25 {X : GX} {d : Nat} {r : Int32 × Hp} (hd : 2 ≤ d) (hq : RtX X (some (.int r.1)) r.2) {h : Hp} (e : R_291_25 h = some r) : G X d 291 25 [none, none] [] h := by
  unfold R_291_25 at e
  rw [← Option.some.inj e] at hq
  exact k_291_25 hq
noncomputable def R_291_16 (v1 : Int32) (h : Hp) : Option (Int32 × Hp) := gd (IA 100 v1) (some ((h 100 (Int32.toNatClampNeg v1)), h))
theorem r_291_16 {X : GX} {d : Nat} {r : Int32 × Hp} (hd : 2 ≤ d) (hq : RtX X (some (.int r.1)) r.2) {h : Hp} {v1 : Int32} (e : R_291_16 v1 h = some r) : G X d 291 16 [some (.ref 84), some (.int v1)] [] h := by
  unfold R_291_16 at e
  have g := gd_s e; clear e; obtain ⟨b0, e⟩ := g
  rw [← Option.some.inj e] at hq
  exact k_291_16 b0 hq
noncomputable def R_291_13 (v1 : Int32) (s0 : Int32) (h : Hp) : Option (Int32 × Hp) := if s0 = 0 then R_291_25 h else R_291_16 v1 h
theorem r_291_13 {X : GX} {d : Nat} {r : Int32 × Hp} (hd : 2 ≤ d) (hq : RtX X (some (.int r.1)) r.2) {h : Hp} {v1 : Int32} {s0 : Int32} (e : R_291_13 v1 s0 h = some r) : G X d 291 13 [some (.ref 84), some (.int v1)] [.int s0] h := by
  unfold R_291_13 at e
  refine k_291_13 (fun c => ?_) (fun c => ?_)
  · rw [if_pos c] at e; exact r_291_25 hd hq e
  · rw [if_neg c] at e; exact r_291_16 hd hq e
noncomputable def R_291_0 (v1 : Int32) (h : Hp) : Option (Int32 × Hp) := bndI (S_177 (Int32.toInt64 v1) 0 (Int32.toInt64 ((h 84 35) - 1)) h) (R_291_13 v1)
theorem r_291_0 {X : GX} {d : Nat} {r : Int32 × Hp} (hd : 2 ≤ d) (hq : RtX X (some (.int r.1)) r.2) {h : Hp} {v1 : Int32} (e : R_291_0 v1 h = some r) : G X d 291 0 [some (.ref 84), some (.int v1)] [] h := by
  unfold R_291_0 at e
  obtain ⟨x, h2, e1, e2⟩ := bndI_s e
  refine k_291_0 (by omega) (t_177 e1) ?_
  rintro _ _ ⟨rfl, rfl⟩
  exact r_291_13 hd hq e2
noncomputable def S_291 (v1 : Int32) (h : Hp) : Option (Int32 × Hp) := R_291_0 v1 h
set_option maxRecDepth 100000 in
theorem t_291 {v1 : Int32} {h : Hp} {r : Int32 × Hp} (e : S_291 v1 h = some r) : CI 2 291 [.ref 84, .int v1] h (fun x g => x = r.1 ∧ g = r.2) := by
  refine C.of mo_291 (Nat.le_of_ble_eq_true rfl) (fun X hq => ?_)
  exact r_291_0 (Nat.le_refl _) (hq _ _ ⟨_, rfl, rfl, rfl⟩) e
/-! 292 PlayedTruthModel.many(I)I -/
noncomputable def R_292_44 (h : Hp) : Option (Int32 × Hp) := gd (IA 85 0) (some ((h 85 (Int32.toNatClampNeg 0)), h))
theorem r_292_44 {X : GX} {d : Nat} {r : Int32 × Hp} (hd : 3 ≤ d) (hq : RtX X (some (.int r.1)) r.2) {h : Hp} (e : R_292_44 h = some r) : G X d 292 44 [some (.ref 84), none] [] h := by
  unfold R_292_44 at e
  have g := gd_s e; clear e; obtain ⟨b0, e⟩ := g
  rw [← Option.some.inj e] at hq
  exact k_292_44 b0 hq
noncomputable def R_292_51 (h : Hp) : Option (Int32 × Hp) := gd (IA 85 5) (some ((h 85 (Int32.toNatClampNeg 5)), h))
theorem r_292_51 {X : GX} {d : Nat} {r : Int32 × Hp} (hd : 3 ≤ d) (hq : RtX X (some (.int r.1)) r.2) {h : Hp} (e : R_292_51 h = some r) : G X d 292 51 [some (.ref 84), none] [] h := by
  unfold R_292_51 at e
  have g := gd_s e; clear e; obtain ⟨b0, e⟩ := g
  rw [← Option.some.inj e] at hq
  exact k_292_51 b0 hq
noncomputable def R_292_65 (s0 : Int32) (h : Hp) : Option (Int32 × Hp) := some (s0, h)
theorem r_292_65 {X : GX} {d : Nat} {r : Int32 × Hp} (hd : 3 ≤ d) (hq : RtX X (some (.int r.1)) r.2) {h : Hp} {s0 : Int32} (e : R_292_65 s0 h = some r) : G X d 292 65 [none, none] [.int s0] h := by
  unfold R_292_65 at e
  rw [← Option.some.inj e] at hq
  exact k_292_65 hq
noncomputable def R_292_62 (s0 : Int32) (h : Hp) : Option (Int32 × Hp) := bndI (S_245 s0 h) (R_292_65)
theorem r_292_62 {X : GX} {d : Nat} {r : Int32 × Hp} (hd : 3 ≤ d) (hq : RtX X (some (.int r.1)) r.2) {h : Hp} {s0 : Int32} (e : R_292_62 s0 h = some r) : G X d 292 62 [none, none] [.int s0] h := by
  unfold R_292_62 at e
  obtain ⟨x, h2, e1, e2⟩ := bndI_s e
  refine k_292_62 (by omega) (t_245 e1) ?_
  rintro _ _ ⟨rfl, rfl⟩
  exact r_292_65 hd hq e2
noncomputable def R_292_58 (h : Hp) : Option (Int32 × Hp) := bndI (S_206 h) (R_292_62)
theorem r_292_58 {X : GX} {d : Nat} {r : Int32 × Hp} (hd : 3 ≤ d) (hq : RtX X (some (.int r.1)) r.2) {h : Hp} (e : R_292_58 h = some r) : G X d 292 58 [some (.ref 84), none] [] h := by
  unfold R_292_58 at e
  obtain ⟨x, h2, e1, e2⟩ := bndI_s e
  refine k_292_58 (by omega) (t_206 e1) ?_
  rintro _ _ ⟨rfl, rfl⟩
  exact r_292_62 hd hq e2
noncomputable def R_292_66 (h : Hp) : Option (Int32 × Hp) := gd (IA 85 6) (some ((h 85 (Int32.toNatClampNeg 6)), h))
theorem r_292_66 {X : GX} {d : Nat} {r : Int32 × Hp} (hd : 3 ≤ d) (hq : RtX X (some (.int r.1)) r.2) {h : Hp} (e : R_292_66 h = some r) : G X d 292 66 [some (.ref 84), none] [] h := by
  unfold R_292_66 at e
  have g := gd_s e; clear e; obtain ⟨b0, e⟩ := g
  rw [← Option.some.inj e] at hq
  exact k_292_66 b0 hq
noncomputable def R_292_74 (h : Hp) : Option (Int32 × Hp) := some ((h 84 27), h)
theorem r_292_74 {X : GX} {d : Nat} {r : Int32 × Hp} (hd : 3 ≤ d) (hq : RtX X (some (.int r.1)) r.2) {h : Hp} (e : R_292_74 h = some r) : G X d 292 74 [some (.ref 84), none] [] h := by
  unfold R_292_74 at e
  rw [← Option.some.inj e] at hq
  exact k_292_74 hq
noncomputable def R_292_79 (h : Hp) : Option (Int32 × Hp) := some ((h 84 7), h)
theorem r_292_79 {X : GX} {d : Nat} {r : Int32 × Hp} (hd : 3 ≤ d) (hq : RtX X (some (.int r.1)) r.2) {h : Hp} (e : R_292_79 h = some r) : G X d 292 79 [some (.ref 84), none] [] h := by
  unfold R_292_79 at e
  rw [← Option.some.inj e] at hq
  exact k_292_79 hq
noncomputable def R_292_84 (h : Hp) : Option (Int32 × Hp) := some ((h 84 35), h)
theorem r_292_84 {X : GX} {d : Nat} {r : Int32 × Hp} (hd : 3 ≤ d) (hq : RtX X (some (.int r.1)) r.2) {h : Hp} (e : R_292_84 h = some r) : G X d 292 84 [some (.ref 84), none] [] h := by
  unfold R_292_84 at e
  rw [← Option.some.inj e] at hq
  exact k_292_84 hq
noncomputable def R_292_89 (h : Hp) : Option (Int32 × Hp) := some (((-1)), h)
theorem r_292_89 {X : GX} {d : Nat} {r : Int32 × Hp} (hd : 3 ≤ d) (hq : RtX X (some (.int r.1)) r.2) {h : Hp} (e : R_292_89 h = some r) : G X d 292 89 [none, none] [] h := by
  unfold R_292_89 at e
  rw [← Option.some.inj e] at hq
  exact k_292_89 hq
noncomputable def R_292_0 (v1 : Int32) (h : Hp) : Option (Int32 × Hp) := if v1 = 0 then R_292_44 h else (if v1 = 1 then R_292_51 h else (if v1 = 2 then R_292_58 h else (if v1 = 3 then R_292_66 h else (if v1 = 4 then R_292_74 h else (if v1 = 5 then R_292_79 h else (if v1 = 6 then R_292_84 h else (R_292_89 h)))))))
theorem r_292_0 {X : GX} {d : Nat} {r : Int32 × Hp} (hd : 3 ≤ d) (hq : RtX X (some (.int r.1)) r.2) {h : Hp} {v1 : Int32} (e : R_292_0 v1 h = some r) : G X d 292 0 [some (.ref 84), some (.int v1)] [] h := by
  unfold R_292_0 at e
  refine k_292_0 (fun c => ?_) (fun c => ?_) (fun c => ?_) (fun c => ?_) (fun c => ?_) (fun c => ?_) (fun c => ?_) (fun c0 c1 c2 c3 c4 c5 c6 => ?_)
  · rw [if_pos c] at e; exact r_292_44 hd hq e
  · rw [if_neg (show ¬ v1 = 0 by rw [c]; decide), if_pos c] at e; exact r_292_51 hd hq e
  · rw [if_neg (show ¬ v1 = 0 by rw [c]; decide), if_neg (show ¬ v1 = 1 by rw [c]; decide), if_pos c] at e; exact r_292_58 hd hq e
  · rw [if_neg (show ¬ v1 = 0 by rw [c]; decide), if_neg (show ¬ v1 = 1 by rw [c]; decide), if_neg (show ¬ v1 = 2 by rw [c]; decide), if_pos c] at e; exact r_292_66 hd hq e
  · rw [if_neg (show ¬ v1 = 0 by rw [c]; decide), if_neg (show ¬ v1 = 1 by rw [c]; decide), if_neg (show ¬ v1 = 2 by rw [c]; decide), if_neg (show ¬ v1 = 3 by rw [c]; decide), if_pos c] at e; exact r_292_74 hd hq e
  · rw [if_neg (show ¬ v1 = 0 by rw [c]; decide), if_neg (show ¬ v1 = 1 by rw [c]; decide), if_neg (show ¬ v1 = 2 by rw [c]; decide), if_neg (show ¬ v1 = 3 by rw [c]; decide), if_neg (show ¬ v1 = 4 by rw [c]; decide), if_pos c] at e; exact r_292_79 hd hq e
  · rw [if_neg (show ¬ v1 = 0 by rw [c]; decide), if_neg (show ¬ v1 = 1 by rw [c]; decide), if_neg (show ¬ v1 = 2 by rw [c]; decide), if_neg (show ¬ v1 = 3 by rw [c]; decide), if_neg (show ¬ v1 = 4 by rw [c]; decide), if_neg (show ¬ v1 = 5 by rw [c]; decide), if_pos c] at e; exact r_292_84 hd hq e
  · rw [if_neg c0, if_neg c1, if_neg c2, if_neg c3, if_neg c4, if_neg c5, if_neg c6] at e; exact r_292_89 hd hq e
noncomputable def S_292 (v1 : Int32) (h : Hp) : Option (Int32 × Hp) := R_292_0 v1 h
set_option maxRecDepth 100000 in
theorem t_292 {v1 : Int32} {h : Hp} {r : Int32 × Hp} (e : S_292 v1 h = some r) : CI 3 292 [.ref 84, .int v1] h (fun x g => x = r.1 ∧ g = r.2) := by
  refine C.of mo_292 (Nat.le_of_ble_eq_true rfl) (fun X hq => ?_)
  exact r_292_0 (Nat.le_refl _) (hq _ _ ⟨_, rfl, rfl, rfl⟩) e
/-! 293 PlayedTruthModel.keep()I -/
noncomputable def R_293_27 (h : Hp) : Option (Int32 × Hp) := some (1, (wr h 84 2 1))
theorem r_293_27 {X : GX} {d : Nat} {r : Int32 × Hp} (hd : 1 ≤ d) (hq : RtX X (some (.int r.1)) r.2) {h : Hp} (e : R_293_27 h = some r) : G X d 293 27 [some (.ref 84), none] [] h := by
  unfold R_293_27 at e
  rw [← Option.some.inj e] at hq
  exact k_293_27 hq
noncomputable def R_293_9 (rec_2 : Int32 → Hp → Option (Int32 × Hp)) (v1 : Int32) (h : Hp) : Option (Int32 × Hp) := gd (IA 85 v1 ∧ IA 86 v1) (rec_2 (v1 + 1) ((wr h 86 (Int32.toNatClampNeg v1) (h 85 (Int32.toNatClampNeg v1)))))
theorem r_293_9 {X : GX} {d : Nat} {r : Int32 × Hp} (hd : 1 ≤ d) (hq : RtX X (some (.int r.1)) r.2) {rec_2 : Int32 → Hp → Option (Int32 × Hp)} (hr_2 : ∀ {v1 : Int32} {h : Hp}, rec_2 v1 h = some r → G X d 293 2 [some (.ref 84), some (.int v1)] [] h) {h : Hp} {v1 : Int32} (e : R_293_9 rec_2 v1 h = some r) : G X d 293 9 [some (.ref 84), some (.int v1)] [] h := by
  unfold R_293_9 at e
  have g := gd_s e; clear e; obtain ⟨⟨b0, b1⟩, e⟩ := g
  exact k_293_9 b0 b1 (hr_2 e)
noncomputable def R_293_2 (rec_2 : Int32 → Hp → Option (Int32 × Hp)) (v1 : Int32) (h : Hp) : Option (Int32 × Hp) := if 361 ≤ v1 then R_293_27 h else R_293_9 rec_2 v1 h
theorem r_293_2 {X : GX} {d : Nat} {r : Int32 × Hp} (hd : 1 ≤ d) (hq : RtX X (some (.int r.1)) r.2) {rec_2 : Int32 → Hp → Option (Int32 × Hp)} (hr_2 : ∀ {v1 : Int32} {h : Hp}, rec_2 v1 h = some r → G X d 293 2 [some (.ref 84), some (.int v1)] [] h) {h : Hp} {v1 : Int32} (e : R_293_2 rec_2 v1 h = some r) : G X d 293 2 [some (.ref 84), some (.int v1)] [] h := by
  unfold R_293_2 at e
  refine k_293_2 (fun c => ?_) (fun c => ?_)
  · rw [if_pos c] at e; exact r_293_27 hd hq e
  · rw [if_neg c] at e; exact r_293_9 hd hq hr_2 e
noncomputable def H_293_2 : Nat → Int32 → Hp → Option (Int32 × Hp)
  | 0, _, _ => none
  | n + 1, v1, h => R_293_2 (H_293_2 n) v1 h
theorem h_293_2 {X : GX} {d : Nat} {r : Int32 × Hp} (hd : 1 ≤ d) (hq : RtX X (some (.int r.1)) r.2) {n : Nat} {h : Hp} {v1 : Int32} (e : H_293_2 n v1 h = some r) : G X d 293 2 [some (.ref 84), some (.int v1)] [] h := by
  induction n generalizing v1 h with
  | zero => cases e
  | succ n ih => exact r_293_2 hd hq (fun e => ih e) e
noncomputable def R_293_0 (h : Hp) : Option (Int32 × Hp) := H_293_2 fuL 0 h
theorem r_293_0 {X : GX} {d : Nat} {r : Int32 × Hp} (hd : 1 ≤ d) (hq : RtX X (some (.int r.1)) r.2) {h : Hp} (e : R_293_0 h = some r) : G X d 293 0 [some (.ref 84), none] [] h := by
  unfold R_293_0 at e
  exact k_293_0 (h_293_2 hd hq e)
noncomputable def S_293 (h : Hp) : Option (Int32 × Hp) := R_293_0 h
set_option maxRecDepth 100000 in
theorem t_293 {h : Hp} {r : Int32 × Hp} (e : S_293 h = some r) : CI 1 293 [.ref 84] h (fun x g => x = r.1 ∧ g = r.2) := by
  refine C.of mo_293 (Nat.le_of_ble_eq_true rfl) (fun X hq => ?_)
  exact r_293_0 (Nat.le_refl _) (hq _ _ ⟨_, rfl, rfl, rfl⟩) e
/-! 294 PlayedTruthModel.again()I -/
noncomputable def R_294_37 (h : Hp) : Option (Int32 × Hp) := gd (IA 85 0) (some ((h 85 (Int32.toNatClampNeg 0)), h))
theorem r_294_37 {X : GX} {d : Nat} {r : Int32 × Hp} (hd : 1 ≤ d) (hq : RtX X (some (.int r.1)) r.2) {h : Hp} (e : R_294_37 h = some r) : G X d 294 37 [some (.ref 84), none] [] h := by
  unfold R_294_37 at e
  have g := gd_s e; clear e; obtain ⟨b0, e⟩ := g
  rw [← Option.some.inj e] at hq
  exact k_294_37 b0 hq
noncomputable def R_294_19 (rec_12 : Int32 → Hp → Option (Int32 × Hp)) (v1 : Int32) (h : Hp) : Option (Int32 × Hp) := gd (IA 86 v1 ∧ IA 85 v1) (rec_12 (v1 + 1) ((wr h 85 (Int32.toNatClampNeg v1) (h 86 (Int32.toNatClampNeg v1)))))
theorem r_294_19 {X : GX} {d : Nat} {r : Int32 × Hp} (hd : 1 ≤ d) (hq : RtX X (some (.int r.1)) r.2) {rec_12 : Int32 → Hp → Option (Int32 × Hp)} (hr_12 : ∀ {v1 : Int32} {h : Hp}, rec_12 v1 h = some r → G X d 294 12 [some (.ref 84), some (.int v1)] [] h) {h : Hp} {v1 : Int32} (e : R_294_19 rec_12 v1 h = some r) : G X d 294 19 [some (.ref 84), some (.int v1)] [] h := by
  unfold R_294_19 at e
  have g := gd_s e; clear e; obtain ⟨⟨b0, b1⟩, e⟩ := g
  exact k_294_19 b0 b1 (hr_12 e)
noncomputable def R_294_12 (rec_12 : Int32 → Hp → Option (Int32 × Hp)) (v1 : Int32) (h : Hp) : Option (Int32 × Hp) := if 361 ≤ v1 then R_294_37 h else R_294_19 rec_12 v1 h
theorem r_294_12 {X : GX} {d : Nat} {r : Int32 × Hp} (hd : 1 ≤ d) (hq : RtX X (some (.int r.1)) r.2) {rec_12 : Int32 → Hp → Option (Int32 × Hp)} (hr_12 : ∀ {v1 : Int32} {h : Hp}, rec_12 v1 h = some r → G X d 294 12 [some (.ref 84), some (.int v1)] [] h) {h : Hp} {v1 : Int32} (e : R_294_12 rec_12 v1 h = some r) : G X d 294 12 [some (.ref 84), some (.int v1)] [] h := by
  unfold R_294_12 at e
  refine k_294_12 (fun c => ?_) (fun c => ?_)
  · rw [if_pos c] at e; exact r_294_37 hd hq e
  · rw [if_neg c] at e; exact r_294_19 hd hq hr_12 e
noncomputable def H_294_12 : Nat → Int32 → Hp → Option (Int32 × Hp)
  | 0, _, _ => none
  | n + 1, v1, h => R_294_12 (H_294_12 n) v1 h
theorem h_294_12 {X : GX} {d : Nat} {r : Int32 × Hp} (hd : 1 ≤ d) (hq : RtX X (some (.int r.1)) r.2) {n : Nat} {h : Hp} {v1 : Int32} (e : H_294_12 n v1 h = some r) : G X d 294 12 [some (.ref 84), some (.int v1)] [] h := by
  induction n generalizing v1 h with
  | zero => cases e
  | succ n ih => exact r_294_12 hd hq (fun e => ih e) e
noncomputable def R_294_10 (h : Hp) : Option (Int32 × Hp) := H_294_12 fuL 0 h
theorem r_294_10 {X : GX} {d : Nat} {r : Int32 × Hp} (hd : 1 ≤ d) (hq : RtX X (some (.int r.1)) r.2) {h : Hp} (e : R_294_10 h = some r) : G X d 294 10 [some (.ref 84), none] [] h := by
  unfold R_294_10 at e
  exact k_294_10 (h_294_12 hd hq e)
noncomputable def R_294_7 (h : Hp) : Option (Int32 × Hp) := some (((-3)), h)
theorem r_294_7 {X : GX} {d : Nat} {r : Int32 × Hp} (hd : 1 ≤ d) (hq : RtX X (some (.int r.1)) r.2) {h : Hp} (e : R_294_7 h = some r) : G X d 294 7 [none, none] [] h := by
  unfold R_294_7 at e
  rw [← Option.some.inj e] at hq
  exact k_294_7 hq
noncomputable def R_294_0 (h : Hp) : Option (Int32 × Hp) := if (h 84 2) = 0 then R_294_7 h else R_294_10 h
theorem r_294_0 {X : GX} {d : Nat} {r : Int32 × Hp} (hd : 1 ≤ d) (hq : RtX X (some (.int r.1)) r.2) {h : Hp} (e : R_294_0 h = some r) : G X d 294 0 [some (.ref 84), none] [] h := by
  unfold R_294_0 at e
  refine k_294_0 (fun c => ?_) (fun c => ?_)
  · rw [if_neg c] at e; exact r_294_10 hd hq e
  · rw [if_pos c] at e; exact r_294_7 hd hq e
noncomputable def S_294 (h : Hp) : Option (Int32 × Hp) := R_294_0 h
set_option maxRecDepth 100000 in
theorem t_294 {h : Hp} {r : Int32 × Hp} (e : S_294 h = some r) : CI 1 294 [.ref 84] h (fun x g => x = r.1 ∧ g = r.2) := by
  refine C.of mo_294 (Nat.le_of_ble_eq_true rfl) (fun X hq => ?_)
  exact r_294_0 (Nat.le_refl _) (hq _ _ ⟨_, rfl, rfl, rfl⟩) e
